theorem fl_G_13 : FL "GoodbyeAll" 13 0 0 := ⟨_, _, _, rfl, by decide, gw_t 301 (by decide +kernel) rfl⟩
theorem fl_G_19 : FL "GoodbyeAll" 19 0 1 := ⟨_, _, _, rfl, by decide, gw_t 302 (by decide +kernel) rfl⟩
theorem fl_G_26 : FL "GoodbyeAll" 26 0 2 := ⟨_, _, _, rfl, by decide, gw_t 303 (by decide +kernel) rfl⟩
theorem fl_G_35 : FL "GoodbyeAll" 35 0 3 := ⟨_, _, _, rfl, by decide, gw_t 304 (by decide +kernel) rfl⟩
theorem fl_G_42 : FL "GoodbyeAll" 42 0 4 := ⟨_, _, _, rfl, by decide, gw_t 305 (by decide +kernel) rfl⟩
theorem fl_G_49 : FL "GoodbyeAll" 49 0 5 := ⟨_, _, _, rfl, by decide, gw_t 306 (by decide +kernel) rfl⟩
theorem fl_G_58 : FL "GoodbyeAll" 58 0 6 := ⟨_, _, _, rfl, by decide, gw_t 307 (by decide +kernel) rfl⟩
theorem fl_G_65 : FL "GoodbyeAll" 65 0 7 := ⟨_, _, _, rfl, by decide, gw_t 308 (by decide +kernel) rfl⟩
theorem fl_G_72 : FL "GoodbyeAll" 72 0 8 := ⟨_, _, _, rfl, by decide, gw_t 309 (by decide +kernel) rfl⟩
theorem fl_G_79 : FL "GoodbyeAll" 79 0 9 := ⟨_, _, _, rfl, by decide, gw_t 310 (by decide +kernel) rfl⟩
theorem fl_G_86 : FL "GoodbyeAll" 86 0 10 := ⟨_, _, _, rfl, by decide, gw_t 311 (by decide +kernel) rfl⟩
theorem fl_B_11 : FL "GoodbyeAll$Bodies" 11 10 0 := ⟨_, _, _, rfl, by decide, gw_t 264 (by decide +kernel) rfl⟩
theorem fl_B_15 : FL "GoodbyeAll$Bodies" 15 10 1 := ⟨_, _, _, rfl, by decide, gw_t 265 (by decide +kernel) rfl⟩
theorem fl_B_32 : FL "GoodbyeAll$Bodies" 32 10 2 := ⟨_, _, _, rfl, by decide, gw_t 266 (by decide +kernel) rfl⟩
theorem fl_B_36 : FL "GoodbyeAll$Bodies" 36 10 3 := ⟨_, _, _, rfl, by decide, gw_t 267 (by decide +kernel) rfl⟩
theorem fl_C_9 : FL "GoodbyeAll$Changes" 9 9 1 := ⟨_, _, _, rfl, by decide, gw_t 237 (by decide +kernel) rfl⟩
theorem fl_C_13 : FL "GoodbyeAll$Changes" 13 9 2 := ⟨_, _, _, rfl, by decide, gw_t 238 (by decide +kernel) rfl⟩
theorem fl_C_16 : FL "GoodbyeAll$Changes" 16 9 3 := ⟨_, _, _, rfl, by decide, gw_t 239 (by decide +kernel) rfl⟩
theorem fl_C_19 : FL "GoodbyeAll$Changes" 19 9 4 := ⟨_, _, _, rfl, by decide, gw_t 240 (by decide +kernel) rfl⟩
theorem fl_C_22 : FL "GoodbyeAll$Changes" 22 9 0 := ⟨_, _, _, rfl, by decide, gw_t 236 (by decide +kernel) rfl⟩
theorem fl_C_26 : FL "GoodbyeAll$Changes" 26 9 5 := ⟨_, _, _, rfl, by decide, gw_t 241 (by decide +kernel) rfl⟩
theorem fl_C_30 : FL "GoodbyeAll$Changes" 30 9 6 := ⟨_, _, _, rfl, by decide, gw_t 242 (by decide +kernel) rfl⟩
theorem fl_E_11 : FL "GoodbyeAll$Evening" 11 8 2 := ⟨_, _, _, rfl, by decide, gw_t 210 (by decide +kernel) rfl⟩
theorem fl_E_15 : FL "GoodbyeAll$Evening" 15 8 0 := ⟨_, _, _, rfl, by decide, gw_t 208 (by decide +kernel) rfl⟩
theorem fl_E_24 : FL "GoodbyeAll$Evening" 24 8 1 := ⟨_, _, _, rfl, by decide, gw_t 209 (by decide +kernel) rfl⟩
theorem fl_E_40 : FL "GoodbyeAll$Evening" 40 8 4 := ⟨_, _, _, rfl, by decide, gw_t 212 (by decide +kernel) rfl⟩
theorem fl_E_58 : FL "GoodbyeAll$Evening" 58 8 5 := ⟨_, _, _, rfl, by decide, gw_t 213 (by decide +kernel) rfl⟩
theorem fl_E_61 : FL "GoodbyeAll$Evening" 61 8 6 := ⟨_, _, _, rfl, by decide, gw_t 214 (by decide +kernel) rfl⟩
theorem fl_E_68 : FL "GoodbyeAll$Evening" 68 8 3 := ⟨_, _, _, rfl, by decide, gw_t 211 (by decide +kernel) rfl⟩
theorem fl_H_13 : FL "GoodbyeAll$House" 13 1 0 := ⟨_, _, _, rfl, by decide, gw_t 33 (by decide +kernel) rfl⟩
theorem fl_H_16 : FL "GoodbyeAll$House" 16 1 1 := ⟨_, _, _, rfl, by decide, gw_t 34 (by decide +kernel) rfl⟩
theorem fl_H_20 : FL "GoodbyeAll$House" 20 1 2 := ⟨_, _, _, rfl, by decide, gw_t 35 (by decide +kernel) rfl⟩
theorem fl_H_29 : FL "GoodbyeAll$House" 29 1 3 := ⟨_, _, _, rfl, by decide, gw_t 36 (by decide +kernel) rfl⟩
theorem fl_H_45 : FL "GoodbyeAll$House" 45 1 4 := ⟨_, _, _, rfl, by decide, gw_t 37 (by decide +kernel) rfl⟩
theorem fl_H_52 : FL "GoodbyeAll$House" 52 1 5 := ⟨_, _, _, rfl, by decide, gw_t 38 (by decide +kernel) rfl⟩
theorem fl_L_9 : FL "GoodbyeAll$Law" 9 2 0 := ⟨_, _, _, rfl, by decide, gw_t 59 (by decide +kernel) rfl⟩
theorem fl_L_13 : FL "GoodbyeAll$Law" 13 2 1 := ⟨_, _, _, rfl, by decide, gw_t 60 (by decide +kernel) rfl⟩
theorem fl_L_16 : FL "GoodbyeAll$Law" 16 2 2 := ⟨_, _, _, rfl, by decide, gw_t 61 (by decide +kernel) rfl⟩
theorem fl_L_19 : FL "GoodbyeAll$Law" 19 2 3 := ⟨_, _, _, rfl, by decide, gw_t 62 (by decide +kernel) rfl⟩
theorem fl_L_34 : FL "GoodbyeAll$Law" 34 2 4 := ⟨_, _, _, rfl, by decide, gw_t 63 (by decide +kernel) rfl⟩
theorem fl_L_68 : FL "GoodbyeAll$Law" 68 2 5 := ⟨_, _, _, rfl, by decide, gw_t 64 (by decide +kernel) rfl⟩
theorem fl_V_9 : FL "GoodbyeAll$Leaver" 9 4 0 := ⟨_, _, _, rfl, by decide, gw_t 109 (by decide +kernel) rfl⟩
theorem fl_V_15 : FL "GoodbyeAll$Leaver" 15 4 1 := ⟨_, _, _, rfl, by decide, gw_t 110 (by decide +kernel) rfl⟩
theorem fl_V_23 : FL "GoodbyeAll$Leaver" 23 4 2 := ⟨_, _, _, rfl, by decide, gw_t 111 (by decide +kernel) rfl⟩
theorem fl_V_27 : FL "GoodbyeAll$Leaver" 27 4 3 := ⟨_, _, _, rfl, by decide, gw_t 112 (by decide +kernel) rfl⟩
theorem fl_V_30 : FL "GoodbyeAll$Leaver" 30 4 4 := ⟨_, _, _, rfl, by decide, gw_t 113 (by decide +kernel) rfl⟩
theorem fl_P_11 : FL "GoodbyeAll$Pair" 11 6 3 := ⟨_, _, _, rfl, by decide, gw_t 165 (by decide +kernel) rfl⟩
theorem fl_P_16 : FL "GoodbyeAll$Pair" 16 6 4 := ⟨_, _, _, rfl, by decide, gw_t 166 (by decide +kernel) rfl⟩
theorem fl_P_19 : FL "GoodbyeAll$Pair" 19 6 0 := ⟨_, _, _, rfl, by decide, gw_t 162 (by decide +kernel) rfl⟩
theorem fl_P_28 : FL "GoodbyeAll$Pair" 28 6 1 := ⟨_, _, _, rfl, by decide, gw_t 163 (by decide +kernel) rfl⟩
theorem fl_P_32 : FL "GoodbyeAll$Pair" 32 6 2 := ⟨_, _, _, rfl, by decide, gw_t 164 (by decide +kernel) rfl⟩
theorem fl_P_39 : FL "GoodbyeAll$Pair" 39 6 5 := ⟨_, _, _, rfl, by decide, gw_t 167 (by decide +kernel) rfl⟩
theorem fl_P_43 : FL "GoodbyeAll$Pair" 43 6 6 := ⟨_, _, _, rfl, by decide, gw_t 168 (by decide +kernel) rfl⟩
theorem fl_Y_11 : FL "GoodbyeAll$Party" 11 7 1 := ⟨_, _, _, rfl, by decide, gw_t 191 (by decide +kernel) rfl⟩
theorem fl_Y_17 : FL "GoodbyeAll$Party" 17 7 0 := ⟨_, _, _, rfl, by decide, gw_t 190 (by decide +kernel) rfl⟩
theorem fl_Y_21 : FL "GoodbyeAll$Party" 21 7 2 := ⟨_, _, _, rfl, by decide, gw_t 192 (by decide +kernel) rfl⟩
theorem fl_S_11 : FL "GoodbyeAll$Search" 11 5 2 := ⟨_, _, _, rfl, by decide, gw_t 133 (by decide +kernel) rfl⟩
theorem fl_S_15 : FL "GoodbyeAll$Search" 15 5 3 := ⟨_, _, _, rfl, by decide, gw_t 134 (by decide +kernel) rfl⟩
theorem fl_S_18 : FL "GoodbyeAll$Search" 18 5 0 := ⟨_, _, _, rfl, by decide, gw_t 131 (by decide +kernel) rfl⟩
theorem fl_S_22 : FL "GoodbyeAll$Search" 22 5 1 := ⟨_, _, _, rfl, by decide, gw_t 132 (by decide +kernel) rfl⟩
theorem fl_S_26 : FL "GoodbyeAll$Search" 26 5 6 := ⟨_, _, _, rfl, by decide, gw_t 137 (by decide +kernel) rfl⟩
theorem fl_S_30 : FL "GoodbyeAll$Search" 30 5 5 := ⟨_, _, _, rfl, by decide, gw_t 136 (by decide +kernel) rfl⟩
theorem fl_S_34 : FL "GoodbyeAll$Search" 34 5 4 := ⟨_, _, _, rfl, by decide, gw_t 135 (by decide +kernel) rfl⟩
theorem fl_F_11 : FL "GoodbyeAll$Shelf" 11 11 0 := ⟨_, _, _, rfl, by decide, gw_t 284 (by decide +kernel) rfl⟩
theorem fl_F_15 : FL "GoodbyeAll$Shelf" 15 11 1 := ⟨_, _, _, rfl, by decide, gw_t 285 (by decide +kernel) rfl⟩
theorem fl_F_19 : FL "GoodbyeAll$Shelf" 19 11 3 := ⟨_, _, _, rfl, by decide, gw_t 287 (by decide +kernel) rfl⟩
theorem fl_F_22 : FL "GoodbyeAll$Shelf" 22 11 2 := ⟨_, _, _, rfl, by decide, gw_t 286 (by decide +kernel) rfl⟩
theorem fl_F_25 : FL "GoodbyeAll$Shelf" 25 11 4 := ⟨_, _, _, rfl, by decide, gw_t 288 (by decide +kernel) rfl⟩
theorem fl_T_9 : FL "GoodbyeAll$Tape" 9 3 0 := ⟨_, _, _, rfl, by decide, gw_t 84 (by decide +kernel) rfl⟩
theorem fl_T_15 : FL "GoodbyeAll$Tape" 15 3 1 := ⟨_, _, _, rfl, by decide, gw_t 85 (by decide +kernel) rfl⟩
theorem fl_T_18 : FL "GoodbyeAll$Tape" 18 3 2 := ⟨_, _, _, rfl, by decide, gw_t 86 (by decide +kernel) rfl⟩
theorem fl_T_21 : FL "GoodbyeAll$Tape" 21 3 3 := ⟨_, _, _, rfl, by decide, gw_t 87 (by decide +kernel) rfl⟩
theorem fl_T_25 : FL "GoodbyeAll$Tape" 25 3 5 := ⟨_, _, _, rfl, by decide, gw_t 89 (by decide +kernel) rfl⟩
theorem fl_T_28 : FL "GoodbyeAll$Tape" 28 3 4 := ⟨_, _, _, rfl, by decide, gw_t 88 (by decide +kernel) rfl⟩
theorem fl_M_7 : FL "GoodbyeAllModel" 7 12 2 := ⟨_, _, _, rfl, by decide, gw_t 1111 (by decide +kernel) rfl⟩
theorem fl_M_13 : FL "GoodbyeAllModel" 13 12 3 := ⟨_, _, _, rfl, by decide, gw_t 1112 (by decide +kernel) rfl⟩
theorem fl_M_16 : FL "GoodbyeAllModel" 16 12 4 := ⟨_, _, _, rfl, by decide, gw_t 1113 (by decide +kernel) rfl⟩
theorem fl_M_19 : FL "GoodbyeAllModel" 19 12 5 := ⟨_, _, _, rfl, by decide, gw_t 1114 (by decide +kernel) rfl⟩
theorem fl_M_22 : FL "GoodbyeAllModel" 22 12 6 := ⟨_, _, _, rfl, by decide, gw_t 1115 (by decide +kernel) rfl⟩
theorem fl_M_25 : FL "GoodbyeAllModel" 25 12 7 := ⟨_, _, _, rfl, by decide, gw_t 1116 (by decide +kernel) rfl⟩
theorem fl_M_28 : FL "GoodbyeAllModel" 28 12 8 := ⟨_, _, _, rfl, by decide, gw_t 1117 (by decide +kernel) rfl⟩
theorem fl_M_31 : FL "GoodbyeAllModel" 31 12 9 := ⟨_, _, _, rfl, by decide, gw_t 1118 (by decide +kernel) rfl⟩
theorem fl_M_34 : FL "GoodbyeAllModel" 34 12 12 := ⟨_, _, _, rfl, by decide, gw_t 1121 (by decide +kernel) rfl⟩
theorem fl_M_37 : FL "GoodbyeAllModel" 37 12 13 := ⟨_, _, _, rfl, by decide, gw_t 1122 (by decide +kernel) rfl⟩
theorem fl_M_40 : FL "GoodbyeAllModel" 40 12 14 := ⟨_, _, _, rfl, by decide, gw_t 1123 (by decide +kernel) rfl⟩
theorem fl_M_43 : FL "GoodbyeAllModel" 43 12 15 := ⟨_, _, _, rfl, by decide, gw_t 1124 (by decide +kernel) rfl⟩
theorem fl_M_46 : FL "GoodbyeAllModel" 46 12 16 := ⟨_, _, _, rfl, by decide, gw_t 1125 (by decide +kernel) rfl⟩
theorem fl_M_50 : FL "GoodbyeAllModel" 50 12 22 := ⟨_, _, _, rfl, by decide, gw_t 1131 (by decide +kernel) rfl⟩
theorem fl_M_53 : FL "GoodbyeAllModel" 53 12 23 := ⟨_, _, _, rfl, by decide, gw_t 1132 (by decide +kernel) rfl⟩
theorem fl_M_56 : FL "GoodbyeAllModel" 56 12 24 := ⟨_, _, _, rfl, by decide, gw_t 1133 (by decide +kernel) rfl⟩
theorem fl_M_59 : FL "GoodbyeAllModel" 59 12 25 := ⟨_, _, _, rfl, by decide, gw_t 1134 (by decide +kernel) rfl⟩
theorem fl_M_63 : FL "GoodbyeAllModel" 63 12 26 := ⟨_, _, _, rfl, by decide, gw_t 1135 (by decide +kernel) rfl⟩
theorem fl_M_66 : FL "GoodbyeAllModel" 66 12 27 := ⟨_, _, _, rfl, by decide, gw_t 1136 (by decide +kernel) rfl⟩
theorem fl_M_69 : FL "GoodbyeAllModel" 69 12 28 := ⟨_, _, _, rfl, by decide, gw_t 1137 (by decide +kernel) rfl⟩
theorem fl_M_72 : FL "GoodbyeAllModel" 72 12 33 := ⟨_, _, _, rfl, by decide, gw_t 1142 (by decide +kernel) rfl⟩
theorem fl_M_75 : FL "GoodbyeAllModel" 75 12 34 := ⟨_, _, _, rfl, by decide, gw_t 1143 (by decide +kernel) rfl⟩
theorem fl_M_78 : FL "GoodbyeAllModel" 78 12 37 := ⟨_, _, _, rfl, by decide, gw_t 1146 (by decide +kernel) rfl⟩
theorem fl_M_81 : FL "GoodbyeAllModel" 81 12 38 := ⟨_, _, _, rfl, by decide, gw_t 1147 (by decide +kernel) rfl⟩
theorem fl_M_84 : FL "GoodbyeAllModel" 84 12 39 := ⟨_, _, _, rfl, by decide, gw_t 1148 (by decide +kernel) rfl⟩
theorem fl_M_87 : FL "GoodbyeAllModel" 87 12 40 := ⟨_, _, _, rfl, by decide, gw_t 1149 (by decide +kernel) rfl⟩
theorem fl_M_90 : FL "GoodbyeAllModel" 90 12 41 := ⟨_, _, _, rfl, by decide, gw_t 1150 (by decide +kernel) rfl⟩
theorem fl_M_93 : FL "GoodbyeAllModel" 93 12 42 := ⟨_, _, _, rfl, by decide, gw_t 1151 (by decide +kernel) rfl⟩
theorem fl_M_96 : FL "GoodbyeAllModel" 96 12 43 := ⟨_, _, _, rfl, by decide, gw_t 1152 (by decide +kernel) rfl⟩
theorem fl_M_99 : FL "GoodbyeAllModel" 99 12 46 := ⟨_, _, _, rfl, by decide, gw_t 1155 (by decide +kernel) rfl⟩
theorem fl_M_102 : FL "GoodbyeAllModel" 102 12 47 := ⟨_, _, _, rfl, by decide, gw_t 1156 (by decide +kernel) rfl⟩
theorem fl_M_105 : FL "GoodbyeAllModel" 105 12 50 := ⟨_, _, _, rfl, by decide, gw_t 1159 (by decide +kernel) rfl⟩
theorem fl_M_108 : FL "GoodbyeAllModel" 108 12 52 := ⟨_, _, _, rfl, by decide, gw_t 1161 (by decide +kernel) rfl⟩
theorem fl_M_111 : FL "GoodbyeAllModel" 111 12 53 := ⟨_, _, _, rfl, by decide, gw_t 1162 (by decide +kernel) rfl⟩
theorem fl_M_114 : FL "GoodbyeAllModel" 114 12 54 := ⟨_, _, _, rfl, by decide, gw_t 1163 (by decide +kernel) rfl⟩
theorem fl_M_117 : FL "GoodbyeAllModel" 117 12 55 := ⟨_, _, _, rfl, by decide, gw_t 1164 (by decide +kernel) rfl⟩
theorem fl_M_121 : FL "GoodbyeAllModel" 121 12 56 := ⟨_, _, _, rfl, by decide, gw_t 1165 (by decide +kernel) rfl⟩
theorem fl_M_128 : FL "GoodbyeAllModel" 128 12 1 := ⟨_, _, _, rfl, by decide, gw_t 1110 (by decide +kernel) rfl⟩
theorem fl_M_152 : FL "GoodbyeAllModel" 152 12 11 := ⟨_, _, _, rfl, by decide, gw_t 1120 (by decide +kernel) rfl⟩
theorem fl_M_155 : FL "GoodbyeAllModel" 155 12 10 := ⟨_, _, _, rfl, by decide, gw_t 1119 (by decide +kernel) rfl⟩
theorem fl_M_182 : FL "GoodbyeAllModel" 182 12 17 := ⟨_, _, _, rfl, by decide, gw_t 1126 (by decide +kernel) rfl⟩
theorem fl_M_185 : FL "GoodbyeAllModel" 185 12 18 := ⟨_, _, _, rfl, by decide, gw_t 1127 (by decide +kernel) rfl⟩
theorem fl_M_188 : FL "GoodbyeAllModel" 188 12 19 := ⟨_, _, _, rfl, by decide, gw_t 1128 (by decide +kernel) rfl⟩
theorem fl_M_191 : FL "GoodbyeAllModel" 191 12 21 := ⟨_, _, _, rfl, by decide, gw_t 1130 (by decide +kernel) rfl⟩
theorem fl_M_194 : FL "GoodbyeAllModel" 194 12 20 := ⟨_, _, _, rfl, by decide, gw_t 1129 (by decide +kernel) rfl⟩
theorem fl_M_249 : FL "GoodbyeAllModel" 249 12 29 := ⟨_, _, _, rfl, by decide, gw_t 1138 (by decide +kernel) rfl⟩
theorem fl_M_265 : FL "GoodbyeAllModel" 265 12 30 := ⟨_, _, _, rfl, by decide, gw_t 1139 (by decide +kernel) rfl⟩
theorem fl_M_268 : FL "GoodbyeAllModel" 268 12 31 := ⟨_, _, _, rfl, by decide, gw_t 1140 (by decide +kernel) rfl⟩
theorem fl_M_271 : FL "GoodbyeAllModel" 271 12 32 := ⟨_, _, _, rfl, by decide, gw_t 1141 (by decide +kernel) rfl⟩
theorem fl_M_302 : FL "GoodbyeAllModel" 302 12 36 := ⟨_, _, _, rfl, by decide, gw_t 1145 (by decide +kernel) rfl⟩
theorem fl_M_308 : FL "GoodbyeAllModel" 308 12 35 := ⟨_, _, _, rfl, by decide, gw_t 1144 (by decide +kernel) rfl⟩
theorem fl_M_333 : FL "GoodbyeAllModel" 333 12 44 := ⟨_, _, _, rfl, by decide, gw_t 1153 (by decide +kernel) rfl⟩
theorem fl_M_342 : FL "GoodbyeAllModel" 342 12 45 := ⟨_, _, _, rfl, by decide, gw_t 1154 (by decide +kernel) rfl⟩
theorem fl_M_352 : FL "GoodbyeAllModel" 352 12 48 := ⟨_, _, _, rfl, by decide, gw_t 1157 (by decide +kernel) rfl⟩
theorem fl_M_355 : FL "GoodbyeAllModel" 355 12 49 := ⟨_, _, _, rfl, by decide, gw_t 1158 (by decide +kernel) rfl⟩
theorem fl_M_358 : FL "GoodbyeAllModel" 358 12 51 := ⟨_, _, _, rfl, by decide, gw_t 1160 (by decide +kernel) rfl⟩
theorem nl_G_init_7 : NL "GoodbyeAll" 7 1 "GoodbyeAll$House" 6 := ⟨_, rfl, gw_t 25 (by decide +kernel) rfl, gw_t 26 (by decide +kernel) rfl, gw_t 2 (by decide +kernel) rfl⟩
theorem lk_G_init_9 : LKI m_G_init 9 m_H_init 0 := ⟨ok_H_init, gw_t 27 (by decide +kernel) rfl, gw_t 28 (by decide +kernel) rfl, rfl, rfl⟩
theorem nl_G_init_10 : NL "GoodbyeAll" 10 2 "GoodbyeAll$Law" 6 := ⟨_, rfl, gw_t 53 (by decide +kernel) rfl, gw_t 54 (by decide +kernel) rfl, gw_t 3 (by decide +kernel) rfl⟩
theorem lk_G_init_12 : LKI m_G_init 12 m_L_init 0 := ⟨ok_L_init, gw_t 55 (by decide +kernel) rfl, gw_t 56 (by decide +kernel) rfl, rfl, rfl⟩
theorem fp_G_init_13 : FP m_G_init 13 0 0 (.object "GoodbyeAll$House") := ⟨_, _, _, rfl, by decide, fl_G_13.elim fun _ h => by obtain ⟨T, N, h1, h2, h3⟩ := h; cases h1; exact h3, rfl, Or.inr ⟨rfl, rfl, rfl⟩⟩
theorem fp_G_init_19 : FP m_G_init 19 0 1 (.object "GoodbyeAll$Law") := ⟨_, _, _, rfl, by decide, fl_G_19.elim fun _ h => by obtain ⟨T, N, h1, h2, h3⟩ := h; cases h1; exact h3, rfl, Or.inr ⟨rfl, rfl, rfl⟩⟩
theorem nl_G_init_23 : NL "GoodbyeAll" 23 3 "GoodbyeAll$Tape" 6 := ⟨_, rfl, gw_t 78 (by decide +kernel) rfl, gw_t 79 (by decide +kernel) rfl, gw_t 4 (by decide +kernel) rfl⟩
theorem lk_G_init_25 : LKI m_G_init 25 m_T_init 0 := ⟨ok_T_init, gw_t 80 (by decide +kernel) rfl, gw_t 81 (by decide +kernel) rfl, rfl, rfl⟩
theorem fp_G_init_26 : FP m_G_init 26 0 2 (.object "GoodbyeAll$Tape") := ⟨_, _, _, rfl, by decide, fl_G_26.elim fun _ h => by obtain ⟨T, N, h1, h2, h3⟩ := h; cases h1; exact h3, rfl, Or.inr ⟨rfl, rfl, rfl⟩⟩
theorem nl_G_init_30 : NL "GoodbyeAll" 30 4 "GoodbyeAll$Leaver" 5 := ⟨_, rfl, gw_t 103 (by decide +kernel) rfl, gw_t 104 (by decide +kernel) rfl, gw_t 5 (by decide +kernel) rfl⟩
theorem lk_G_init_32 : LKI m_G_init 32 m_V_init 2 := ⟨ok_V_init, gw_t 105 (by decide +kernel) rfl, gw_t 106 (by decide +kernel) rfl, rfl, rfl⟩
theorem fp_G_init_35 : FP m_G_init 35 0 3 (.object "GoodbyeAll$Leaver") := ⟨_, _, _, rfl, by decide, fl_G_35.elim fun _ h => by obtain ⟨T, N, h1, h2, h3⟩ := h; cases h1; exact h3, rfl, Or.inr ⟨rfl, rfl, rfl⟩⟩
theorem nl_G_init_39 : NL "GoodbyeAll" 39 5 "GoodbyeAll$Search" 7 := ⟨_, rfl, gw_t 125 (by decide +kernel) rfl, gw_t 126 (by decide +kernel) rfl, gw_t 6 (by decide +kernel) rfl⟩
theorem lk_G_init_41 : LKI m_G_init 41 m_S_init 2 := ⟨ok_S_init, gw_t 127 (by decide +kernel) rfl, gw_t 128 (by decide +kernel) rfl, rfl, rfl⟩
theorem fp_G_init_42 : FP m_G_init 42 0 4 (.object "GoodbyeAll$Search") := ⟨_, _, _, rfl, by decide, fl_G_42.elim fun _ h => by obtain ⟨T, N, h1, h2, h3⟩ := h; cases h1; exact h3, rfl, Or.inr ⟨rfl, rfl, rfl⟩⟩
theorem nl_G_init_46 : NL "GoodbyeAll" 46 6 "GoodbyeAll$Pair" 7 := ⟨_, rfl, gw_t 153 (by decide +kernel) rfl, gw_t 154 (by decide +kernel) rfl, gw_t 7 (by decide +kernel) rfl⟩
theorem lk_G_init_48 : LKI m_G_init 48 m_P_init 2 := ⟨ok_P_init, gw_t 155 (by decide +kernel) rfl, gw_t 156 (by decide +kernel) rfl, rfl, rfl⟩
theorem fp_G_init_49 : FP m_G_init 49 0 5 (.object "GoodbyeAll$Pair") := ⟨_, _, _, rfl, by decide, fl_G_49.elim fun _ h => by obtain ⟨T, N, h1, h2, h3⟩ := h; cases h1; exact h3, rfl, Or.inr ⟨rfl, rfl, rfl⟩⟩
theorem nl_G_init_53 : NL "GoodbyeAll" 53 7 "GoodbyeAll$Party" 3 := ⟨_, rfl, gw_t 184 (by decide +kernel) rfl, gw_t 185 (by decide +kernel) rfl, gw_t 8 (by decide +kernel) rfl⟩
theorem lk_G_init_55 : LKI m_G_init 55 m_Y_init 1 := ⟨ok_Y_init, gw_t 186 (by decide +kernel) rfl, gw_t 187 (by decide +kernel) rfl, rfl, rfl⟩
theorem fp_G_init_58 : FP m_G_init 58 0 6 (.object "GoodbyeAll$Party") := ⟨_, _, _, rfl, by decide, fl_G_58.elim fun _ h => by obtain ⟨T, N, h1, h2, h3⟩ := h; cases h1; exact h3, rfl, Or.inr ⟨rfl, rfl, rfl⟩⟩
theorem nl_G_init_62 : NL "GoodbyeAll" 62 8 "GoodbyeAll$Evening" 7 := ⟨_, rfl, gw_t 200 (by decide +kernel) rfl, gw_t 201 (by decide +kernel) rfl, gw_t 9 (by decide +kernel) rfl⟩
theorem lk_G_init_64 : LKI m_G_init 64 m_E_init 2 := ⟨ok_E_init, gw_t 202 (by decide +kernel) rfl, gw_t 203 (by decide +kernel) rfl, rfl, rfl⟩
theorem fp_G_init_65 : FP m_G_init 65 0 7 (.object "GoodbyeAll$Evening") := ⟨_, _, _, rfl, by decide, fl_G_65.elim fun _ h => by obtain ⟨T, N, h1, h2, h3⟩ := h; cases h1; exact h3, rfl, Or.inr ⟨rfl, rfl, rfl⟩⟩
theorem nl_G_init_69 : NL "GoodbyeAll" 69 9 "GoodbyeAll$Changes" 7 := ⟨_, rfl, gw_t 230 (by decide +kernel) rfl, gw_t 231 (by decide +kernel) rfl, gw_t 10 (by decide +kernel) rfl⟩
theorem lk_G_init_71 : LKI m_G_init 71 m_C_init 1 := ⟨ok_C_init, gw_t 232 (by decide +kernel) rfl, gw_t 233 (by decide +kernel) rfl, rfl, rfl⟩
theorem fp_G_init_72 : FP m_G_init 72 0 8 (.object "GoodbyeAll$Changes") := ⟨_, _, _, rfl, by decide, fl_G_72.elim fun _ h => by obtain ⟨T, N, h1, h2, h3⟩ := h; cases h1; exact h3, rfl, Or.inr ⟨rfl, rfl, rfl⟩⟩
theorem nl_G_init_76 : NL "GoodbyeAll" 76 10 "GoodbyeAll$Bodies" 4 := ⟨_, rfl, gw_t 258 (by decide +kernel) rfl, gw_t 259 (by decide +kernel) rfl, gw_t 11 (by decide +kernel) rfl⟩
theorem lk_G_init_78 : LKI m_G_init 78 m_B_init 0 := ⟨ok_B_init, gw_t 260 (by decide +kernel) rfl, gw_t 261 (by decide +kernel) rfl, rfl, rfl⟩
theorem fp_G_init_79 : FP m_G_init 79 0 9 (.object "GoodbyeAll$Bodies") := ⟨_, _, _, rfl, by decide, fl_G_79.elim fun _ h => by obtain ⟨T, N, h1, h2, h3⟩ := h; cases h1; exact h3, rfl, Or.inr ⟨rfl, rfl, rfl⟩⟩
theorem nl_G_init_83 : NL "GoodbyeAll" 83 11 "GoodbyeAll$Shelf" 5 := ⟨_, rfl, gw_t 277 (by decide +kernel) rfl, gw_t 279 (by decide +kernel) rfl, gw_t 12 (by decide +kernel) rfl⟩
theorem lk_G_init_85 : LKI m_G_init 85 m_F_init 0 := ⟨ok_F_init, gw_t 280 (by decide +kernel) rfl, gw_t 281 (by decide +kernel) rfl, rfl, rfl⟩
theorem fp_G_init_86 : FP m_G_init 86 0 10 (.array (.object "GoodbyeAll$Shelf")) := ⟨_, _, _, rfl, by decide, fl_G_86.elim fun _ h => by obtain ⟨T, N, h1, h2, h3⟩ := h; cases h1; exact h3, rfl, Or.inr ⟨rfl, rfl, rfl⟩⟩
theorem fp_H_init_13 : FP m_H_init 13 1 0 (.array (.array .int)) := ⟨_, _, _, rfl, by decide, fl_H_13.elim fun _ h => by obtain ⟨T, N, h1, h2, h3⟩ := h; cases h1; exact h3, rfl, Or.inr ⟨rfl, rfl, rfl⟩⟩
theorem fp_H_init_16 : FP m_H_init 16 1 1 (.array .int) := ⟨_, _, _, rfl, by decide, fl_H_16.elim fun _ h => by obtain ⟨T, N, h1, h2, h3⟩ := h; cases h1; exact h3, rfl, Or.inr ⟨rfl, rfl, rfl⟩⟩
theorem fp_H_init_20 : FP m_H_init 20 1 2 (.array (.array .int)) := ⟨_, _, _, rfl, by decide, fl_H_20.elim fun _ h => by obtain ⟨T, N, h1, h2, h3⟩ := h; cases h1; exact h3, rfl, Or.inr ⟨rfl, rfl, rfl⟩⟩
theorem fp_L_init_9 : FP m_L_init 9 2 0 (.array .int) := ⟨_, _, _, rfl, by decide, fl_L_9.elim fun _ h => by obtain ⟨T, N, h1, h2, h3⟩ := h; cases h1; exact h3, rfl, Or.inr ⟨rfl, rfl, rfl⟩⟩
theorem fp_L_init_13 : FP m_L_init 13 2 1 (.array .int) := ⟨_, _, _, rfl, by decide, fl_L_13.elim fun _ h => by obtain ⟨T, N, h1, h2, h3⟩ := h; cases h1; exact h3, rfl, Or.inr ⟨rfl, rfl, rfl⟩⟩
theorem fp_L_init_16 : FP m_L_init 16 2 2 (.array .int) := ⟨_, _, _, rfl, by decide, fl_L_16.elim fun _ h => by obtain ⟨T, N, h1, h2, h3⟩ := h; cases h1; exact h3, rfl, Or.inr ⟨rfl, rfl, rfl⟩⟩
theorem fp_L_init_19 : FP m_L_init 19 2 3 (.array .int) := ⟨_, _, _, rfl, by decide, fl_L_19.elim fun _ h => by obtain ⟨T, N, h1, h2, h3⟩ := h; cases h1; exact h3, rfl, Or.inr ⟨rfl, rfl, rfl⟩⟩
theorem fp_T_init_9 : FP m_T_init 9 3 0 (.array .int) := ⟨_, _, _, rfl, by decide, fl_T_9.elim fun _ h => by obtain ⟨T, N, h1, h2, h3⟩ := h; cases h1; exact h3, rfl, Or.inr ⟨rfl, rfl, rfl⟩⟩
theorem fp_T_init_15 : FP m_T_init 15 3 1 (.array .int) := ⟨_, _, _, rfl, by decide, fl_T_15.elim fun _ h => by obtain ⟨T, N, h1, h2, h3⟩ := h; cases h1; exact h3, rfl, Or.inr ⟨rfl, rfl, rfl⟩⟩
theorem fp_T_init_18 : FP m_T_init 18 3 2 (.array .int) := ⟨_, _, _, rfl, by decide, fl_T_18.elim fun _ h => by obtain ⟨T, N, h1, h2, h3⟩ := h; cases h1; exact h3, rfl, Or.inr ⟨rfl, rfl, rfl⟩⟩
theorem fp_V_init_9 : FP m_V_init 9 4 0 (.object "GoodbyeAll$House") := ⟨_, _, _, rfl, by decide, fl_V_9.elim fun _ h => by obtain ⟨T, N, h1, h2, h3⟩ := h; cases h1; exact h3, rfl, Or.inr ⟨rfl, rfl, rfl⟩⟩
theorem fp_V_init_15 : FP m_V_init 15 4 1 (.object "GoodbyeAll$Law") := ⟨_, _, _, rfl, by decide, fl_V_15.elim fun _ h => by obtain ⟨T, N, h1, h2, h3⟩ := h; cases h1; exact h3, rfl, Or.inr ⟨rfl, rfl, rfl⟩⟩
theorem fp_S_init_11 : FP m_S_init 11 5 2 (.array .int) := ⟨_, _, _, rfl, by decide, fl_S_11.elim fun _ h => by obtain ⟨T, N, h1, h2, h3⟩ := h; cases h1; exact h3, rfl, Or.inr ⟨rfl, rfl, rfl⟩⟩
theorem fp_S_init_15 : FP m_S_init 15 5 3 (.array .int) := ⟨_, _, _, rfl, by decide, fl_S_15.elim fun _ h => by obtain ⟨T, N, h1, h2, h3⟩ := h; cases h1; exact h3, rfl, Or.inr ⟨rfl, rfl, rfl⟩⟩
theorem fp_S_init_18 : FP m_S_init 18 5 0 (.object "GoodbyeAll$House") := ⟨_, _, _, rfl, by decide, fl_S_18.elim fun _ h => by obtain ⟨T, N, h1, h2, h3⟩ := h; cases h1; exact h3, rfl, Or.inr ⟨rfl, rfl, rfl⟩⟩
theorem fp_S_init_22 : FP m_S_init 22 5 1 (.object "GoodbyeAll$Law") := ⟨_, _, _, rfl, by decide, fl_S_22.elim fun _ h => by obtain ⟨T, N, h1, h2, h3⟩ := h; cases h1; exact h3, rfl, Or.inr ⟨rfl, rfl, rfl⟩⟩
theorem fp_P_init_11 : FP m_P_init 11 6 3 (.array (.array .int)) := ⟨_, _, _, rfl, by decide, fl_P_11.elim fun _ h => by obtain ⟨T, N, h1, h2, h3⟩ := h; cases h1; exact h3, rfl, Or.inr ⟨rfl, rfl, rfl⟩⟩
theorem fp_P_init_16 : FP m_P_init 16 6 4 (.array (.array .int)) := ⟨_, _, _, rfl, by decide, fl_P_16.elim fun _ h => by obtain ⟨T, N, h1, h2, h3⟩ := h; cases h1; exact h3, rfl, Or.inr ⟨rfl, rfl, rfl⟩⟩
theorem fp_P_init_19 : FP m_P_init 19 6 0 (.object "GoodbyeAll$House") := ⟨_, _, _, rfl, by decide, fl_P_19.elim fun _ h => by obtain ⟨T, N, h1, h2, h3⟩ := h; cases h1; exact h3, rfl, Or.inr ⟨rfl, rfl, rfl⟩⟩
theorem nl_P_init_23 : NL "GoodbyeAll$Pair" 23 4 "GoodbyeAll$Leaver" 5 := ⟨_, rfl, gw_t 160 (by decide +kernel) rfl, gw_t 104 (by decide +kernel) rfl, gw_t 5 (by decide +kernel) rfl⟩
theorem lk_P_init_25 : LKI m_P_init 25 m_V_init 2 := ⟨ok_V_init, gw_t 161 (by decide +kernel) rfl, gw_t 106 (by decide +kernel) rfl, rfl, rfl⟩
theorem fp_P_init_28 : FP m_P_init 28 6 1 (.object "GoodbyeAll$Leaver") := ⟨_, _, _, rfl, by decide, fl_P_28.elim fun _ h => by obtain ⟨T, N, h1, h2, h3⟩ := h; cases h1; exact h3, rfl, Or.inr ⟨rfl, rfl, rfl⟩⟩
theorem fp_P_init_32 : FP m_P_init 32 6 2 (.object "GoodbyeAll$Leaver") := ⟨_, _, _, rfl, by decide, fl_P_32.elim fun _ h => by obtain ⟨T, N, h1, h2, h3⟩ := h; cases h1; exact h3, rfl, Or.inr ⟨rfl, rfl, rfl⟩⟩
theorem fp_Y_init_11 : FP m_Y_init 11 7 1 (.array .int) := ⟨_, _, _, rfl, by decide, fl_Y_11.elim fun _ h => by obtain ⟨T, N, h1, h2, h3⟩ := h; cases h1; exact h3, rfl, Or.inr ⟨rfl, rfl, rfl⟩⟩
theorem fp_Y_init_17 : FP m_Y_init 17 7 0 (.object "GoodbyeAll$House") := ⟨_, _, _, rfl, by decide, fl_Y_17.elim fun _ h => by obtain ⟨T, N, h1, h2, h3⟩ := h; cases h1; exact h3, rfl, Or.inr ⟨rfl, rfl, rfl⟩⟩
theorem fp_E_init_11 : FP m_E_init 11 8 2 (.array .int) := ⟨_, _, _, rfl, by decide, fl_E_11.elim fun _ h => by obtain ⟨T, N, h1, h2, h3⟩ := h; cases h1; exact h3, rfl, Or.inr ⟨rfl, rfl, rfl⟩⟩
theorem fp_E_init_15 : FP m_E_init 15 8 0 (.object "GoodbyeAll$House") := ⟨_, _, _, rfl, by decide, fl_E_15.elim fun _ h => by obtain ⟨T, N, h1, h2, h3⟩ := h; cases h1; exact h3, rfl, Or.inr ⟨rfl, rfl, rfl⟩⟩
theorem nl_E_init_19 : NL "GoodbyeAll$Evening" 19 4 "GoodbyeAll$Leaver" 5 := ⟨_, rfl, gw_t 206 (by decide +kernel) rfl, gw_t 104 (by decide +kernel) rfl, gw_t 5 (by decide +kernel) rfl⟩
theorem lk_E_init_21 : LKI m_E_init 21 m_V_init 2 := ⟨ok_V_init, gw_t 207 (by decide +kernel) rfl, gw_t 106 (by decide +kernel) rfl, rfl, rfl⟩
theorem fp_E_init_24 : FP m_E_init 24 8 1 (.object "GoodbyeAll$Leaver") := ⟨_, _, _, rfl, by decide, fl_E_24.elim fun _ h => by obtain ⟨T, N, h1, h2, h3⟩ := h; cases h1; exact h3, rfl, Or.inr ⟨rfl, rfl, rfl⟩⟩
theorem fp_C_init_9 : FP m_C_init 9 9 1 (.array .int) := ⟨_, _, _, rfl, by decide, fl_C_9.elim fun _ h => by obtain ⟨T, N, h1, h2, h3⟩ := h; cases h1; exact h3, rfl, Or.inr ⟨rfl, rfl, rfl⟩⟩
theorem fp_C_init_13 : FP m_C_init 13 9 2 (.array .int) := ⟨_, _, _, rfl, by decide, fl_C_13.elim fun _ h => by obtain ⟨T, N, h1, h2, h3⟩ := h; cases h1; exact h3, rfl, Or.inr ⟨rfl, rfl, rfl⟩⟩
theorem fp_C_init_16 : FP m_C_init 16 9 3 (.array .int) := ⟨_, _, _, rfl, by decide, fl_C_16.elim fun _ h => by obtain ⟨T, N, h1, h2, h3⟩ := h; cases h1; exact h3, rfl, Or.inr ⟨rfl, rfl, rfl⟩⟩
theorem fp_C_init_19 : FP m_C_init 19 9 4 (.array .int) := ⟨_, _, _, rfl, by decide, fl_C_19.elim fun _ h => by obtain ⟨T, N, h1, h2, h3⟩ := h; cases h1; exact h3, rfl, Or.inr ⟨rfl, rfl, rfl⟩⟩
theorem fp_C_init_22 : FP m_C_init 22 9 0 (.object "GoodbyeAll$House") := ⟨_, _, _, rfl, by decide, fl_C_22.elim fun _ h => by obtain ⟨T, N, h1, h2, h3⟩ := h; cases h1; exact h3, rfl, Or.inr ⟨rfl, rfl, rfl⟩⟩
theorem fp_B_init_11 : FP m_B_init 11 10 0 (.array .int) := ⟨_, _, _, rfl, by decide, fl_B_11.elim fun _ h => by obtain ⟨T, N, h1, h2, h3⟩ := h; cases h1; exact h3, rfl, Or.inr ⟨rfl, rfl, rfl⟩⟩
theorem fp_B_init_15 : FP m_B_init 15 10 1 (.array .int) := ⟨_, _, _, rfl, by decide, fl_B_15.elim fun _ h => by obtain ⟨T, N, h1, h2, h3⟩ := h; cases h1; exact h3, rfl, Or.inr ⟨rfl, rfl, rfl⟩⟩
theorem fp_F_init_11 : FP m_F_init 11 11 0 (.array .long) := ⟨_, _, _, rfl, by decide, fl_F_11.elim fun _ h => by obtain ⟨T, N, h1, h2, h3⟩ := h; cases h1; exact h3, rfl, Or.inr ⟨rfl, rfl, rfl⟩⟩
theorem fp_F_init_15 : FP m_F_init 15 11 1 (.int) := ⟨_, _, _, rfl, by decide, fl_F_15.elim fun _ h => by obtain ⟨T, N, h1, h2, h3⟩ := h; cases h1; exact h3, rfl, Or.inl rfl⟩
theorem lk_G_guest_90 : LKS m_G_guest 90 m_G_isRoomPair 1 := ⟨ok_G_isRoomPair, gw_t 339 (by decide +kernel) rfl, gw_t 340 (by decide +kernel) rfl⟩
theorem lk_G_guest_94 : LKS m_G_guest 94 m_H_fits 2 := ⟨ok_H_fits, gw_t 345 (by decide +kernel) rfl, gw_t 346 (by decide +kernel) rfl⟩
theorem lk_G_guest_98 : LKV m_G_guest 98 m_H_welcome 1 4 := ⟨ok_H_welcome, gw_t 352 (by decide +kernel) rfl, gw_t 353 (by decide +kernel) rfl, gw_t 354 (by decide +kernel) rfl, _, _, rfl⟩
theorem lk_G_isRoomPair_121 : LKS m_G_isRoomPair 121 m_H_isRoom 1 := ⟨ok_H_isRoom, gw_t 342 (by decide +kernel) rfl, gw_t 343 (by decide +kernel) rfl⟩
theorem fp_H_welcome_29 : FP m_H_welcome 29 1 3 (.int) := ⟨_, _, _, rfl, by decide, fl_H_29.elim fun _ h => by obtain ⟨T, N, h1, h2, h3⟩ := h; cases h1; exact h3, rfl, Or.inl rfl⟩
theorem lk_H_welcome_33 : LKV m_H_welcome 33 m_H_setFact 1 3 := ⟨ok_H_setFact, gw_t 356 (by decide +kernel) rfl, gw_t 357 (by decide +kernel) rfl, gw_t 358 (by decide +kernel) rfl, _, _, rfl⟩
theorem lk_H_setFact_41 : LKV m_H_setFact 41 m_H_hasFact 1 2 := ⟨ok_H_hasFact, gw_t 360 (by decide +kernel) rfl, gw_t 361 (by decide +kernel) rfl, gw_t 362 (by decide +kernel) rfl, _, _, rfl⟩
theorem lk_H_setFact_48 : LKS m_H_setFact 48 m_H_withBit 3 := ⟨ok_H_withBit, gw_t 368 (by decide +kernel) rfl, gw_t 369 (by decide +kernel) rfl⟩
theorem fp_H_setFact_45 : FP m_H_setFact 45 1 4 (.int) := ⟨_, _, _, rfl, by decide, fl_H_45.elim fun _ h => by obtain ⟨T, N, h1, h2, h3⟩ := h; cases h1; exact h3, rfl, Or.inl rfl⟩
theorem fp_H_setFact_52 : FP m_H_setFact 52 1 5 (.int) := ⟨_, _, _, rfl, by decide, fl_H_52.elim fun _ h => by obtain ⟨T, N, h1, h2, h3⟩ := h; cases h1; exact h3, rfl, Or.inl rfl⟩
theorem lk_H_setFact_55 : LKV m_H_setFact 55 m_H_seat 1 1 := ⟨ok_H_seat, gw_t 371 (by decide +kernel) rfl, gw_t 373 (by decide +kernel) rfl, gw_of (sw 0 (by decide +kernel)) rfl, _, _, rfl⟩
theorem lk_H_hasFact_37 : LKV m_H_hasFact 37 m_H_isGuest 1 1 := ⟨ok_H_isGuest, gw_t 364 (by decide +kernel) rfl, gw_t 365 (by decide +kernel) rfl, gw_t 366 (by decide +kernel) rfl, _, _, rfl⟩
theorem lk_H_seat_59 : LKV m_H_seat 59 m_H_roomOf 1 2 := ⟨ok_H_roomOf, gw_t 375 (by decide +kernel) rfl, gw_t 376 (by decide +kernel) rfl, gw_t 377 (by decide +kernel) rfl, _, _, rfl⟩
theorem lk_H_seat_48 : LKS m_H_seat 48 m_H_withBit 3 := ⟨ok_H_withBit, gw_t 368 (by decide +kernel) rfl, gw_t 369 (by decide +kernel) rfl⟩
theorem lk_H_roomOf_37 : LKV m_H_roomOf 37 m_H_isGuest 1 1 := ⟨ok_H_isGuest, gw_t 364 (by decide +kernel) rfl, gw_t 365 (by decide +kernel) rfl, gw_t 366 (by decide +kernel) rfl, _, _, rfl⟩
theorem lk_G_guests_102 : LKV m_G_guests 102 m_G_shelfAt 0 1 := ⟨ok_G_shelfAt, gw_t 383 (by decide +kernel) rfl, gw_t 385 (by decide +kernel) rfl, gw_of (sw 1 (by decide +kernel)) rfl, _, _, rfl⟩
theorem lk_G_guests_106 : LKV m_G_guests 106 m_F_bytesRefusal 11 0 := ⟨ok_F_bytesRefusal, gw_t 387 (by decide +kernel) rfl, gw_t 388 (by decide +kernel) rfl, gw_t 389 (by decide +kernel) rfl, _, _, rfl⟩
theorem lk_G_guests_110 : LKV m_G_guests 110 m_G_welcomeFrom 0 2 := ⟨ok_G_welcomeFrom, gw_t 399 (by decide +kernel) rfl, gw_t 401 (by decide +kernel) rfl, gw_of (sw 2 (by decide +kernel)) rfl, _, _, rfl⟩
theorem lk_F_bytesRefusal_37 : LKV m_F_bytesRefusal 37 m_F_isEmpty 11 0 := ⟨ok_F_isEmpty, gw_t 391 (by decide +kernel) rfl, gw_t 392 (by decide +kernel) rfl, gw_t 393 (by decide +kernel) rfl, _, _, rfl⟩
theorem lk_F_bytesRefusal_41 : LKV m_F_bytesRefusal 41 m_F_holdsBytes 11 0 := ⟨ok_F_holdsBytes, gw_t 395 (by decide +kernel) rfl, gw_t 396 (by decide +kernel) rfl, gw_t 397 (by decide +kernel) rfl, _, _, rfl⟩
theorem lk_G_welcomeFrom_114 : LKV m_G_welcomeFrom 114 m_F_hasBytes 11 2 := ⟨ok_F_hasBytes, gw_t 403 (by decide +kernel) rfl, gw_t 404 (by decide +kernel) rfl, gw_t 405 (by decide +kernel) rfl, _, _, rfl⟩
theorem lk_G_welcomeFrom_117 : LKV m_G_welcomeFrom 117 m_F_smallAt 11 1 := ⟨ok_F_smallAt, gw_t 411 (by decide +kernel) rfl, gw_t 412 (by decide +kernel) rfl, gw_t 413 (by decide +kernel) rfl, _, _, rfl⟩
theorem lk_G_welcomeFrom_121 : LKS m_G_welcomeFrom 121 m_H_isRoom 1 := ⟨ok_H_isRoom, gw_t 342 (by decide +kernel) rfl, gw_t 343 (by decide +kernel) rfl⟩
theorem lk_G_welcomeFrom_94 : LKS m_G_welcomeFrom 94 m_H_fits 2 := ⟨ok_H_fits, gw_t 345 (by decide +kernel) rfl, gw_t 346 (by decide +kernel) rfl⟩
theorem lk_G_welcomeFrom_98 : LKV m_G_welcomeFrom 98 m_H_welcome 1 4 := ⟨ok_H_welcome, gw_t 352 (by decide +kernel) rfl, gw_t 353 (by decide +kernel) rfl, gw_t 354 (by decide +kernel) rfl, _, _, rfl⟩
theorem lk_F_hasBytes_41 : LKV m_F_hasBytes 41 m_F_holdsBytes 11 0 := ⟨ok_F_holdsBytes, gw_t 395 (by decide +kernel) rfl, gw_t 396 (by decide +kernel) rfl, gw_t 397 (by decide +kernel) rfl, _, _, rfl⟩
theorem lk_F_hasBytes_47 : LKV m_F_hasBytes 47 m_F_hasPlaces 11 2 := ⟨ok_F_hasPlaces, gw_t 407 (by decide +kernel) rfl, gw_t 408 (by decide +kernel) rfl, gw_t 409 (by decide +kernel) rfl, _, _, rfl⟩
theorem lk_F_smallAt_51 : LKV m_F_smallAt 51 m_F_hasBytes 11 2 := ⟨ok_F_hasBytes, gw_t 415 (by decide +kernel) rfl, gw_t 404 (by decide +kernel) rfl, gw_t 405 (by decide +kernel) rfl, _, _, rfl⟩
theorem lk_G_mend_124 : LKV m_G_mend 124 m_H_hasFact 1 2 := ⟨ok_H_hasFact, gw_t 420 (by decide +kernel) rfl, gw_t 361 (by decide +kernel) rfl, gw_t 362 (by decide +kernel) rfl, _, _, rfl⟩
theorem lk_G_mend_94 : LKS m_G_mend 94 m_H_fits 2 := ⟨ok_H_fits, gw_t 345 (by decide +kernel) rfl, gw_t 346 (by decide +kernel) rfl⟩
theorem lk_G_mend_127 : LKV m_G_mend 127 m_H_fact 1 2 := ⟨ok_H_fact, gw_t 421 (by decide +kernel) rfl, gw_t 422 (by decide +kernel) rfl, gw_t 423 (by decide +kernel) rfl, _, _, rfl⟩
theorem lk_G_mend_131 : LKV m_G_mend 131 m_H_setFact 1 3 := ⟨ok_H_setFact, gw_t 425 (by decide +kernel) rfl, gw_t 357 (by decide +kernel) rfl, gw_t 358 (by decide +kernel) rfl, _, _, rfl⟩
theorem lk_G_mend_135 : LKV m_G_mend 135 m_C_add 9 4 := ⟨ok_C_add, gw_t 426 (by decide +kernel) rfl, gw_t 427 (by decide +kernel) rfl, gw_t 428 (by decide +kernel) rfl, _, _, rfl⟩
theorem lk_H_fact_41 : LKV m_H_fact 41 m_H_hasFact 1 2 := ⟨ok_H_hasFact, gw_t 360 (by decide +kernel) rfl, gw_t 361 (by decide +kernel) rfl, gw_t 362 (by decide +kernel) rfl, _, _, rfl⟩
theorem lk_C_add_33 : LKV m_C_add 33 m_C_dropOldest 9 0 := ⟨ok_C_dropOldest, gw_t 430 (by decide +kernel) rfl, gw_t 432 (by decide +kernel) rfl, gw_of (sw 3 (by decide +kernel)) rfl, _, _, rfl⟩
theorem fp_C_add_26 : FP m_C_add 26 9 5 (.int) := ⟨_, _, _, rfl, by decide, fl_C_26.elim fun _ h => by obtain ⟨T, N, h1, h2, h3⟩ := h; cases h1; exact h3, rfl, Or.inl rfl⟩
theorem fp_C_add_30 : FP m_C_add 30 9 6 (.int) := ⟨_, _, _, rfl, by decide, fl_C_30.elim fun _ h => by obtain ⟨T, N, h1, h2, h3⟩ := h; cases h1; exact h3, rfl, Or.inl rfl⟩
theorem fp_C_dropOldest_26 : FP m_C_dropOldest 26 9 5 (.int) := ⟨_, _, _, rfl, by decide, fl_C_26.elim fun _ h => by obtain ⟨T, N, h1, h2, h3⟩ := h; cases h1; exact h3, rfl, Or.inl rfl⟩
theorem lk_G_of_124 : LKV m_G_of 124 m_H_hasFact 1 2 := ⟨ok_H_hasFact, gw_t 420 (by decide +kernel) rfl, gw_t 361 (by decide +kernel) rfl, gw_t 362 (by decide +kernel) rfl, _, _, rfl⟩
theorem lk_G_of_127 : LKV m_G_of 127 m_H_fact 1 2 := ⟨ok_H_fact, gw_t 421 (by decide +kernel) rfl, gw_t 422 (by decide +kernel) rfl, gw_t 423 (by decide +kernel) rfl, _, _, rfl⟩
theorem lk_G_at_139 : LKV m_G_at 139 m_H_isGuest 1 1 := ⟨ok_H_isGuest, gw_t 442 (by decide +kernel) rfl, gw_t 365 (by decide +kernel) rfl, gw_t 366 (by decide +kernel) rfl, _, _, rfl⟩
theorem lk_G_at_142 : LKV m_G_at 142 m_H_roomOf 1 2 := ⟨ok_H_roomOf, gw_t 443 (by decide +kernel) rfl, gw_t 376 (by decide +kernel) rfl, gw_t 377 (by decide +kernel) rfl, _, _, rfl⟩
theorem lk_G_in_121 : LKS m_G_in 121 m_H_isRoom 1 := ⟨ok_H_isRoom, gw_t 342 (by decide +kernel) rfl, gw_t 343 (by decide +kernel) rfl⟩
theorem lk_G_in_145 : LKV m_G_in 145 m_H_whoIsIn 1 2 := ⟨ok_H_whoIsIn, gw_t 448 (by decide +kernel) rfl, gw_t 449 (by decide +kernel) rfl, gw_t 450 (by decide +kernel) rfl, _, _, rfl⟩
theorem lk_H_whoIsIn_63 : LKS m_H_whoIsIn 63 m_H_isRoom 1 := ⟨ok_H_isRoom, gw_t 452 (by decide +kernel) rfl, gw_t 343 (by decide +kernel) rfl⟩
theorem lk_G_feed_148 : LKV m_G_feed 148 m_T_add 3 1 := ⟨ok_T_add, gw_t 457 (by decide +kernel) rfl, gw_t 458 (by decide +kernel) rfl, gw_t 459 (by decide +kernel) rfl, _, _, rfl⟩
theorem lk_G_feed_150 : LKV m_G_feed 150 m_T_length 3 0 := ⟨ok_T_length, gw_t 461 (by decide +kernel) rfl, gw_t 462 (by decide +kernel) rfl, gw_t 463 (by decide +kernel) rfl, _, _, rfl⟩
theorem fp_T_add_21 : FP m_T_add 21 3 3 (.int) := ⟨_, _, _, rfl, by decide, fl_T_21.elim fun _ h => by obtain ⟨T, N, h1, h2, h3⟩ := h; cases h1; exact h3, rfl, Or.inl rfl⟩
theorem lk_G_law_153 : LKV m_G_law 153 m_T_read 3 0 := ⟨ok_T_read, gw_t 469 (by decide +kernel) rfl, gw_t 470 (by decide +kernel) rfl, gw_t 471 (by decide +kernel) rfl, _, _, rfl⟩
theorem lk_G_law_156 : LKV m_G_law 156 m_L_take 2 1 := ⟨ok_L_take, gw_t 514 (by decide +kernel) rfl, gw_t 515 (by decide +kernel) rfl, gw_t 516 (by decide +kernel) rfl, _, _, rfl⟩
theorem lk_G_law_160 : LKV m_G_law 160 m_T_empty 3 0 := ⟨ok_T_empty, gw_t 533 (by decide +kernel) rfl, gw_t 534 (by decide +kernel) rfl, gw_t 535 (by decide +kernel) rfl, _, _, rfl⟩
theorem fp_T_read_28 : FP m_T_read 28 3 4 (.int) := ⟨_, _, _, rfl, by decide, fl_T_28.elim fun _ h => by obtain ⟨T, N, h1, h2, h3⟩ := h; cases h1; exact h3, rfl, Or.inl rfl⟩
theorem fp_T_read_25 : FP m_T_read 25 3 5 (.int) := ⟨_, _, _, rfl, by decide, fl_T_25.elim fun _ h => by obtain ⟨T, N, h1, h2, h3⟩ := h; cases h1; exact h3, rfl, Or.inl rfl⟩
theorem lk_T_read_31 : LKV m_T_read 31 m_T_readLine 3 0 := ⟨ok_T_readLine, gw_t 473 (by decide +kernel) rfl, gw_t 475 (by decide +kernel) rfl, gw_of (sw 4 (by decide +kernel)) rfl, _, _, rfl⟩
theorem lk_T_read_35 : LKV m_T_read 35 m_T_sign 3 0 := ⟨ok_T_sign, gw_t 485 (by decide +kernel) rfl, gw_t 487 (by decide +kernel) rfl, gw_of (sw 7 (by decide +kernel)) rfl, _, _, rfl⟩
theorem lk_T_readLine_39 : LKV m_T_readLine 39 m_T_readLevel 3 2 := ⟨ok_T_readLevel, gw_t 477 (by decide +kernel) rfl, gw_t 479 (by decide +kernel) rfl, gw_of (sw 5 (by decide +kernel)) rfl, _, _, rfl⟩
theorem lk_T_readLine_35 : LKV m_T_readLine 35 m_T_sign 3 0 := ⟨ok_T_sign, gw_t 485 (by decide +kernel) rfl, gw_t 487 (by decide +kernel) rfl, gw_of (sw 7 (by decide +kernel)) rfl, _, _, rfl⟩
theorem fp_T_readLine_28 : FP m_T_readLine 28 3 4 (.int) := ⟨_, _, _, rfl, by decide, fl_T_28.elim fun _ h => by obtain ⟨T, N, h1, h2, h3⟩ := h; cases h1; exact h3, rfl, Or.inl rfl⟩
theorem lk_T_readLine_43 : LKV m_T_readLine 43 m_T_write 3 2 := ⟨ok_T_write, gw_t 492 (by decide +kernel) rfl, gw_t 494 (by decide +kernel) rfl, gw_of (sw 8 (by decide +kernel)) rfl, _, _, rfl⟩
theorem lk_T_readLevel_47 : LKV m_T_readLevel 47 m_T_readOperand 3 1 := ⟨ok_T_readOperand, gw_t 481 (by decide +kernel) rfl, gw_t 483 (by decide +kernel) rfl, gw_of (sw 6 (by decide +kernel)) rfl, _, _, rfl⟩
theorem lk_T_readLevel_39 : LKV m_T_readLevel 39 m_T_readLevel 3 2 := ⟨ok_T_readLevel, gw_t 477 (by decide +kernel) rfl, gw_t 479 (by decide +kernel) rfl, gw_of (sw 5 (by decide +kernel)) rfl, _, _, rfl⟩
theorem lk_T_readLevel_35 : LKV m_T_readLevel 35 m_T_sign 3 0 := ⟨ok_T_sign, gw_t 485 (by decide +kernel) rfl, gw_t 487 (by decide +kernel) rfl, gw_of (sw 7 (by decide +kernel)) rfl, _, _, rfl⟩
theorem lk_T_readLevel_51 : LKS m_T_readLevel 51 m_T_levelOf 1 := ⟨ok_T_levelOf, gw_t 511 (by decide +kernel) rfl, gw_t 512 (by decide +kernel) rfl⟩
theorem fp_T_readLevel_28 : FP m_T_readLevel 28 3 4 (.int) := ⟨_, _, _, rfl, by decide, fl_T_28.elim fun _ h => by obtain ⟨T, N, h1, h2, h3⟩ := h; cases h1; exact h3, rfl, Or.inl rfl⟩
theorem lk_T_readLevel_43 : LKV m_T_readLevel 43 m_T_write 3 2 := ⟨ok_T_write, gw_t 492 (by decide +kernel) rfl, gw_t 494 (by decide +kernel) rfl, gw_of (sw 8 (by decide +kernel)) rfl, _, _, rfl⟩
theorem lk_T_readOperand_35 : LKV m_T_readOperand 35 m_T_sign 3 0 := ⟨ok_T_sign, gw_t 485 (by decide +kernel) rfl, gw_t 487 (by decide +kernel) rfl, gw_of (sw 7 (by decide +kernel)) rfl, _, _, rfl⟩
theorem lk_T_readOperand_55 : LKS m_T_readOperand 55 m_L_nameOf 1 := ⟨ok_L_nameOf, gw_t 489 (by decide +kernel) rfl, gw_t 490 (by decide +kernel) rfl⟩
theorem fp_T_readOperand_28 : FP m_T_readOperand 28 3 4 (.int) := ⟨_, _, _, rfl, by decide, fl_T_28.elim fun _ h => by obtain ⟨T, N, h1, h2, h3⟩ := h; cases h1; exact h3, rfl, Or.inl rfl⟩
theorem lk_T_readOperand_43 : LKV m_T_readOperand 43 m_T_write 3 2 := ⟨ok_T_write, gw_t 492 (by decide +kernel) rfl, gw_t 494 (by decide +kernel) rfl, gw_of (sw 8 (by decide +kernel)) rfl, _, _, rfl⟩
theorem lk_T_readOperand_58 : LKS m_T_readOperand 58 m_T_isDigit 1 := ⟨ok_T_isDigit, gw_t 496 (by decide +kernel) rfl, gw_t 497 (by decide +kernel) rfl⟩
theorem lk_T_readOperand_61 : LKV m_T_readOperand 61 m_T_readNumber 3 0 := ⟨ok_T_readNumber, gw_t 499 (by decide +kernel) rfl, gw_t 501 (by decide +kernel) rfl, gw_of (sw 9 (by decide +kernel)) rfl, _, _, rfl⟩
theorem lk_T_readOperand_64 : LKV m_T_readOperand 64 m_T_readInner 3 1 := ⟨ok_T_readInner, gw_t 503 (by decide +kernel) rfl, gw_t 505 (by decide +kernel) rfl, gw_of (sw 10 (by decide +kernel)) rfl, _, _, rfl⟩
theorem lk_T_readOperand_67 : LKV m_T_readOperand 67 m_T_readPrefixed 3 2 := ⟨ok_T_readPrefixed, gw_t 507 (by decide +kernel) rfl, gw_t 509 (by decide +kernel) rfl, gw_of (sw 11 (by decide +kernel)) rfl, _, _, rfl⟩
theorem fp_T_write_25 : FP m_T_write 25 3 5 (.int) := ⟨_, _, _, rfl, by decide, fl_T_25.elim fun _ h => by obtain ⟨T, N, h1, h2, h3⟩ := h; cases h1; exact h3, rfl, Or.inl rfl⟩
theorem lk_T_readNumber_35 : LKV m_T_readNumber 35 m_T_sign 3 0 := ⟨ok_T_sign, gw_t 485 (by decide +kernel) rfl, gw_t 487 (by decide +kernel) rfl, gw_of (sw 7 (by decide +kernel)) rfl, _, _, rfl⟩
theorem lk_T_readNumber_58 : LKS m_T_readNumber 58 m_T_isDigit 1 := ⟨ok_T_isDigit, gw_t 496 (by decide +kernel) rfl, gw_t 497 (by decide +kernel) rfl⟩
theorem fp_T_readNumber_28 : FP m_T_readNumber 28 3 4 (.int) := ⟨_, _, _, rfl, by decide, fl_T_28.elim fun _ h => by obtain ⟨T, N, h1, h2, h3⟩ := h; cases h1; exact h3, rfl, Or.inl rfl⟩
theorem lk_T_readNumber_43 : LKV m_T_readNumber 43 m_T_write 3 2 := ⟨ok_T_write, gw_t 492 (by decide +kernel) rfl, gw_t 494 (by decide +kernel) rfl, gw_of (sw 8 (by decide +kernel)) rfl, _, _, rfl⟩
theorem lk_T_readInner_39 : LKV m_T_readInner 39 m_T_readLevel 3 2 := ⟨ok_T_readLevel, gw_t 477 (by decide +kernel) rfl, gw_t 479 (by decide +kernel) rfl, gw_of (sw 5 (by decide +kernel)) rfl, _, _, rfl⟩
theorem lk_T_readInner_35 : LKV m_T_readInner 35 m_T_sign 3 0 := ⟨ok_T_sign, gw_t 485 (by decide +kernel) rfl, gw_t 487 (by decide +kernel) rfl, gw_of (sw 7 (by decide +kernel)) rfl, _, _, rfl⟩
theorem fp_T_readInner_28 : FP m_T_readInner 28 3 4 (.int) := ⟨_, _, _, rfl, by decide, fl_T_28.elim fun _ h => by obtain ⟨T, N, h1, h2, h3⟩ := h; cases h1; exact h3, rfl, Or.inl rfl⟩
theorem lk_T_readPrefixed_47 : LKV m_T_readPrefixed 47 m_T_readOperand 3 1 := ⟨ok_T_readOperand, gw_t 481 (by decide +kernel) rfl, gw_t 483 (by decide +kernel) rfl, gw_of (sw 6 (by decide +kernel)) rfl, _, _, rfl⟩
theorem lk_T_readPrefixed_43 : LKV m_T_readPrefixed 43 m_T_write 3 2 := ⟨ok_T_write, gw_t 492 (by decide +kernel) rfl, gw_t 494 (by decide +kernel) rfl, gw_of (sw 8 (by decide +kernel)) rfl, _, _, rfl⟩
theorem lk_L_take_22 : LKV m_L_take 22 m_T_stepCount 3 0 := ⟨ok_T_stepCount, gw_t 518 (by decide +kernel) rfl, gw_t 519 (by decide +kernel) rfl, gw_t 520 (by decide +kernel) rfl, _, _, rfl⟩
theorem mk_L_take_28 : Cond.methodLink "GoodbyeAll$Law" 28 Lib.Math.min.name ∈ gw_tbl := gw_t 522 (by decide +kernel) rfl
theorem fp_L_take_34 : FP m_L_take 34 2 4 (.int) := ⟨_, _, _, rfl, by decide, fl_L_34.elim fun _ h => by obtain ⟨T, N, h1, h2, h3⟩ := h; cases h1; exact h3, rfl, Or.inl rfl⟩
theorem lk_L_take_38 : LKV m_L_take 38 m_T_stepAt 3 1 := ⟨ok_T_stepAt, gw_t 525 (by decide +kernel) rfl, gw_t 526 (by decide +kernel) rfl, gw_t 527 (by decide +kernel) rfl, _, _, rfl⟩
theorem lk_L_take_42 : LKV m_L_take 42 m_T_valueAt 3 1 := ⟨ok_T_valueAt, gw_t 529 (by decide +kernel) rfl, gw_t 530 (by decide +kernel) rfl, gw_t 531 (by decide +kernel) rfl, _, _, rfl⟩
theorem fp_T_empty_21 : FP m_T_empty 21 3 3 (.int) := ⟨_, _, _, rfl, by decide, fl_T_21.elim fun _ h => by obtain ⟨T, N, h1, h2, h3⟩ := h; cases h1; exact h3, rfl, Or.inl rfl⟩
theorem lk_G_round_102 : LKV m_G_round 102 m_G_shelfAt 0 1 := ⟨ok_G_shelfAt, gw_t 383 (by decide +kernel) rfl, gw_t 385 (by decide +kernel) rfl, gw_of (sw 1 (by decide +kernel)) rfl, _, _, rfl⟩
theorem lk_G_round_163 : LKS m_G_round 163 m_G_isRoomMinute 1 := ⟨ok_G_isRoomMinute, gw_t 541 (by decide +kernel) rfl, gw_t 542 (by decide +kernel) rfl⟩
theorem lk_G_round_106 : LKV m_G_round 106 m_F_bytesRefusal 11 0 := ⟨ok_F_bytesRefusal, gw_t 387 (by decide +kernel) rfl, gw_t 388 (by decide +kernel) rfl, gw_t 389 (by decide +kernel) rfl, _, _, rfl⟩
theorem lk_G_round_166 : LKV m_G_round 166 m_V_begin 4 2 := ⟨ok_V_begin, gw_t 544 (by decide +kernel) rfl, gw_t 545 (by decide +kernel) rfl, gw_t 546 (by decide +kernel) rfl, _, _, rfl⟩
theorem lk_G_round_170 : LKV m_G_round 170 m_F_leadingRooms 11 0 := ⟨ok_F_leadingRooms, gw_t 552 (by decide +kernel) rfl, gw_t 553 (by decide +kernel) rfl, gw_t 554 (by decide +kernel) rfl, _, _, rfl⟩
theorem lk_G_round_117 : LKV m_G_round 117 m_F_smallAt 11 1 := ⟨ok_F_smallAt, gw_t 411 (by decide +kernel) rfl, gw_t 412 (by decide +kernel) rfl, gw_t 413 (by decide +kernel) rfl, _, _, rfl⟩
theorem lk_G_round_173 : LKV m_G_round 173 m_V_walkTo 4 1 := ⟨ok_V_walkTo, gw_t 558 (by decide +kernel) rfl, gw_t 559 (by decide +kernel) rfl, gw_t 560 (by decide +kernel) rfl, _, _, rfl⟩
theorem lk_G_round_177 : LKV m_G_round 177 m_V_tell 4 1 := ⟨ok_V_tell, gw_t 574 (by decide +kernel) rfl, gw_t 575 (by decide +kernel) rfl, gw_t 576 (by decide +kernel) rfl, _, _, rfl⟩
theorem lk_G_round_180 : LKV m_G_round 180 m_V_minute 4 0 := ⟨ok_V_minute, gw_t 622 (by decide +kernel) rfl, gw_t 623 (by decide +kernel) rfl, gw_t 624 (by decide +kernel) rfl, _, _, rfl⟩
theorem lk_G_round_183 : LKV m_G_round 183 m_V_home 4 0 := ⟨ok_V_home, gw_t 626 (by decide +kernel) rfl, gw_t 627 (by decide +kernel) rfl, gw_t 628 (by decide +kernel) rfl, _, _, rfl⟩
theorem lk_G_round_186 : LKV m_G_round 186 m_V_told 4 0 := ⟨ok_V_told, gw_t 630 (by decide +kernel) rfl, gw_t 631 (by decide +kernel) rfl, gw_t 632 (by decide +kernel) rfl, _, _, rfl⟩
theorem lk_G_round_189 : LKV m_G_round 189 m_H_missed 1 1 := ⟨ok_H_missed, gw_t 634 (by decide +kernel) rfl, gw_t 635 (by decide +kernel) rfl, gw_t 636 (by decide +kernel) rfl, _, _, rfl⟩
theorem lk_G_isRoomMinute_121 : LKS m_G_isRoomMinute 121 m_H_isRoom 1 := ⟨ok_H_isRoom, gw_t 342 (by decide +kernel) rfl, gw_t 343 (by decide +kernel) rfl⟩
theorem lk_V_begin_19 : LKV m_V_begin 19 m_V_stand 4 3 := ⟨ok_V_stand, gw_t 548 (by decide +kernel) rfl, gw_t 549 (by decide +kernel) rfl, gw_t 550 (by decide +kernel) rfl, _, _, rfl⟩
theorem fp_V_stand_23 : FP m_V_stand 23 4 2 (.int) := ⟨_, _, _, rfl, by decide, fl_V_23.elim fun _ h => by obtain ⟨T, N, h1, h2, h3⟩ := h; cases h1; exact h3, rfl, Or.inl rfl⟩
theorem fp_V_stand_27 : FP m_V_stand 27 4 3 (.int) := ⟨_, _, _, rfl, by decide, fl_V_27.elim fun _ h => by obtain ⟨T, N, h1, h2, h3⟩ := h; cases h1; exact h3, rfl, Or.inl rfl⟩
theorem fp_V_stand_30 : FP m_V_stand 30 4 4 (.int) := ⟨_, _, _, rfl, by decide, fl_V_30.elim fun _ h => by obtain ⟨T, N, h1, h2, h3⟩ := h; cases h1; exact h3, rfl, Or.inl rfl⟩
theorem lk_F_leadingRooms_64 : LKV m_F_leadingRooms 64 m_F_smallAt 11 1 := ⟨ok_F_smallAt, gw_t 556 (by decide +kernel) rfl, gw_t 412 (by decide +kernel) rfl, gw_t 413 (by decide +kernel) rfl, _, _, rfl⟩
theorem lk_F_leadingRooms_68 : LKS m_F_leadingRooms 68 m_H_isRoom 1 := ⟨ok_H_isRoom, gw_t 557 (by decide +kernel) rfl, gw_t 343 (by decide +kernel) rfl⟩
theorem lk_V_walkTo_39 : LKV m_V_walkTo 39 m_V_arrival 4 1 := ⟨ok_V_arrival, gw_t 562 (by decide +kernel) rfl, gw_t 563 (by decide +kernel) rfl, gw_t 564 (by decide +kernel) rfl, _, _, rfl⟩
theorem fp_V_walkTo_27 : FP m_V_walkTo 27 4 3 (.int) := ⟨_, _, _, rfl, by decide, fl_V_27.elim fun _ h => by obtain ⟨T, N, h1, h2, h3⟩ := h; cases h1; exact h3, rfl, Or.inl rfl⟩
theorem fp_V_walkTo_23 : FP m_V_walkTo 23 4 2 (.int) := ⟨_, _, _, rfl, by decide, fl_V_23.elim fun _ h => by obtain ⟨T, N, h1, h2, h3⟩ := h; cases h1; exact h3, rfl, Or.inl rfl⟩
theorem lk_V_arrival_33 : LKV m_V_arrival 33 m_H_wayBetween 1 2 := ⟨ok_H_wayBetween, gw_t 566 (by decide +kernel) rfl, gw_t 567 (by decide +kernel) rfl, gw_t 568 (by decide +kernel) rfl, _, _, rfl⟩
theorem mk_H_wayBetween_66 : Cond.methodLink "GoodbyeAll$House" 66 Lib.Math.min.name ∈ gw_tbl := gw_t 570 (by decide +kernel) rfl
theorem mk_H_wayBetween_71 : Cond.methodLink "GoodbyeAll$House" 71 Lib.Math.max.name ∈ gw_tbl := gw_t 571 (by decide +kernel) rfl
theorem lk_V_tell_43 : LKV m_V_tell 43 m_H_whomToTell 1 3 := ⟨ok_H_whomToTell, gw_t 578 (by decide +kernel) rfl, gw_t 579 (by decide +kernel) rfl, gw_t 580 (by decide +kernel) rfl, _, _, rfl⟩
theorem lk_V_tell_47 : LKV m_V_tell 47 m_L_minutes 2 4 := ⟨ok_L_minutes, gw_t 583 (by decide +kernel) rfl, gw_t 584 (by decide +kernel) rfl, gw_t 585 (by decide +kernel) rfl, _, _, rfl⟩
theorem fp_V_tell_27 : FP m_V_tell 27 4 3 (.int) := ⟨_, _, _, rfl, by decide, fl_V_27.elim fun _ h => by obtain ⟨T, N, h1, h2, h3⟩ := h; cases h1; exact h3, rfl, Or.inl rfl⟩
theorem fp_V_tell_30 : FP m_V_tell 30 4 4 (.int) := ⟨_, _, _, rfl, by decide, fl_V_30.elim fun _ h => by obtain ⟨T, N, h1, h2, h3⟩ := h; cases h1; exact h3, rfl, Or.inl rfl⟩
theorem lk_H_whomToTell_74 : LKV m_H_whomToTell 74 m_H_whoIsIn 1 2 := ⟨ok_H_whoIsIn, gw_t 582 (by decide +kernel) rfl, gw_t 449 (by decide +kernel) rfl, gw_t 450 (by decide +kernel) rfl, _, _, rfl⟩
theorem lk_L_minutes_45 : LKV m_L_minutes 45 m_H_greatestTalk 1 1 := ⟨ok_H_greatestTalk, gw_t 587 (by decide +kernel) rfl, gw_t 588 (by decide +kernel) rfl, gw_t 589 (by decide +kernel) rfl, _, _, rfl⟩
theorem lk_L_minutes_50 : LKS m_L_minutes 50 m_J_bitCount 1 := ⟨ok_J_bitCount, gw_t 591 (by decide +kernel) rfl, gw_t 592 (by decide +kernel) rfl⟩
theorem mk_L_minutes_55 : Cond.methodLink "GoodbyeAll$Law" 55 Lib.Math.max.name ∈ gw_tbl := gw_t 597 (by decide +kernel) rfl
theorem lk_L_minutes_58 : LKV m_L_minutes 58 m_H_whoIsIn 1 2 := ⟨ok_H_whoIsIn, gw_t 598 (by decide +kernel) rfl, gw_t 449 (by decide +kernel) rfl, gw_t 450 (by decide +kernel) rfl, _, _, rfl⟩
theorem lk_L_minutes_61 : LKV m_L_minutes 61 m_H_hasHost 1 1 := ⟨ok_H_hasHost, gw_t 599 (by decide +kernel) rfl, gw_t 600 (by decide +kernel) rfl, gw_t 601 (by decide +kernel) rfl, _, _, rfl⟩
theorem lk_L_minutes_65 : LKV m_L_minutes 65 m_L_worth 2 0 := ⟨ok_L_worth, gw_t 603 (by decide +kernel) rfl, gw_t 605 (by decide +kernel) rfl, gw_of (sw 12 (by decide +kernel)) rfl, _, _, rfl⟩
theorem mk_L_minutes_28 : Cond.methodLink "GoodbyeAll$Law" 28 Lib.Math.min.name ∈ gw_tbl := gw_t 522 (by decide +kernel) rfl
theorem mk_H_greatestTalk_71 : Cond.methodLink "GoodbyeAll$House" 71 Lib.Math.max.name ∈ gw_tbl := gw_t 571 (by decide +kernel) rfl
theorem fp_L_worth_68 : FP m_L_worth 68 2 5 (.int) := ⟨_, _, _, rfl, by decide, fl_L_68.elim fun _ h => by obtain ⟨T, N, h1, h2, h3⟩ := h; cases h1; exact h3, rfl, Or.inl rfl⟩
theorem lk_L_worth_71 : LKV m_L_worth 71 m_L_pop 2 0 := ⟨ok_L_pop, gw_t 607 (by decide +kernel) rfl, gw_t 609 (by decide +kernel) rfl, gw_of (sw 13 (by decide +kernel)) rfl, _, _, rfl⟩
theorem lk_L_worth_74 : LKV m_L_worth 74 m_L_apply 2 2 := ⟨ok_L_apply, gw_t 611 (by decide +kernel) rfl, gw_t 613 (by decide +kernel) rfl, gw_of (sw 14 (by decide +kernel)) rfl, _, _, rfl⟩
theorem fp_L_pop_68 : FP m_L_pop 68 2 5 (.int) := ⟨_, _, _, rfl, by decide, fl_L_68.elim fun _ h => by obtain ⟨T, N, h1, h2, h3⟩ := h; cases h1; exact h3, rfl, Or.inl rfl⟩
theorem lk_L_apply_78 : LKV m_L_apply 78 m_L_push 2 1 := ⟨ok_L_push, gw_t 615 (by decide +kernel) rfl, gw_t 617 (by decide +kernel) rfl, gw_of (sw 15 (by decide +kernel)) rfl, _, _, rfl⟩
theorem lk_L_apply_71 : LKV m_L_apply 71 m_L_pop 2 0 := ⟨ok_L_pop, gw_t 607 (by decide +kernel) rfl, gw_t 609 (by decide +kernel) rfl, gw_of (sw 13 (by decide +kernel)) rfl, _, _, rfl⟩
theorem lk_L_apply_82 : LKS m_L_apply 82 m_L_join 3 := ⟨ok_L_join, gw_t 619 (by decide +kernel) rfl, gw_t 620 (by decide +kernel) rfl⟩
theorem fp_L_push_68 : FP m_L_push 68 2 5 (.int) := ⟨_, _, _, rfl, by decide, fl_L_68.elim fun _ h => by obtain ⟨T, N, h1, h2, h3⟩ := h; cases h1; exact h3, rfl, Or.inl rfl⟩
theorem lk_V_home_39 : LKV m_V_home 39 m_V_arrival 4 1 := ⟨ok_V_arrival, gw_t 562 (by decide +kernel) rfl, gw_t 563 (by decide +kernel) rfl, gw_t 564 (by decide +kernel) rfl, _, _, rfl⟩
theorem lk_G_soonest_163 : LKS m_G_soonest 163 m_G_isRoomMinute 1 := ⟨ok_G_isRoomMinute, gw_t 541 (by decide +kernel) rfl, gw_t 542 (by decide +kernel) rfl⟩
theorem lk_G_soonest_193 : LKV m_G_soonest 193 m_S_find 5 3 := ⟨ok_S_find, gw_t 643 (by decide +kernel) rfl, gw_t 644 (by decide +kernel) rfl, gw_t 645 (by decide +kernel) rfl, _, _, rfl⟩
theorem lk_G_soonest_197 : LKV m_G_soonest 197 m_S_home 5 0 := ⟨ok_S_home, gw_t 667 (by decide +kernel) rfl, gw_t 668 (by decide +kernel) rfl, gw_t 669 (by decide +kernel) rfl, _, _, rfl⟩
theorem lk_G_soonest_198 : LKV m_G_soonest 198 m_S_roomOfRow 5 1 := ⟨ok_S_roomOfRow, gw_t 671 (by decide +kernel) rfl, gw_t 672 (by decide +kernel) rfl, gw_t 673 (by decide +kernel) rfl, _, _, rfl⟩
theorem fp_S_find_26 : FP m_S_find 26 5 6 (.boolean) := ⟨_, _, _, rfl, by decide, fl_S_26.elim fun _ h => by obtain ⟨T, N, h1, h2, h3⟩ := h; cases h1; exact h3, rfl, Or.inl rfl⟩
theorem fp_S_find_30 : FP m_S_find 30 5 5 (.int) := ⟨_, _, _, rfl, by decide, fl_S_30.elim fun _ h => by obtain ⟨T, N, h1, h2, h3⟩ := h; cases h1; exact h3, rfl, Or.inl rfl⟩
theorem fp_S_find_34 : FP m_S_find 34 5 4 (.int) := ⟨_, _, _, rfl, by decide, fl_S_34.elim fun _ h => by obtain ⟨T, N, h1, h2, h3⟩ := h; cases h1; exact h3, rfl, Or.inl rfl⟩
theorem lk_S_find_37 : LKV m_S_find 37 m_S_seek 5 4 := ⟨ok_S_seek, gw_t 647 (by decide +kernel) rfl, gw_t 649 (by decide +kernel) rfl, gw_of (sw 16 (by decide +kernel)) rfl, _, _, rfl⟩
theorem lk_S_seek_41 : LKV m_S_seek 41 m_H_wayBetween 1 2 := ⟨ok_H_wayBetween, gw_t 651 (by decide +kernel) rfl, gw_t 567 (by decide +kernel) rfl, gw_t 568 (by decide +kernel) rfl, _, _, rfl⟩
theorem lk_S_seek_47 : LKV m_S_seek 47 m_H_missed 1 1 := ⟨ok_H_missed, gw_t 652 (by decide +kernel) rfl, gw_t 635 (by decide +kernel) rfl, gw_t 636 (by decide +kernel) rfl, _, _, rfl⟩
theorem lk_S_seek_51 : LKV m_S_seek 51 m_S_keepRow 5 2 := ⟨ok_S_keepRow, gw_t 653 (by decide +kernel) rfl, gw_t 655 (by decide +kernel) rfl, gw_of (sw 17 (by decide +kernel)) rfl, _, _, rfl⟩
theorem lk_S_seek_55 : LKV m_S_seek 55 m_H_roomsAhead 1 2 := ⟨ok_H_roomsAhead, gw_t 657 (by decide +kernel) rfl, gw_t 658 (by decide +kernel) rfl, gw_t 659 (by decide +kernel) rfl, _, _, rfl⟩
theorem lk_S_seek_58 : LKV m_S_seek 58 m_S_enter 5 4 := ⟨ok_S_enter, gw_t 661 (by decide +kernel) rfl, gw_t 663 (by decide +kernel) rfl, gw_of (sw 18 (by decide +kernel)) rfl, _, _, rfl⟩
theorem fp_S_keepRow_26 : FP m_S_keepRow 26 5 6 (.boolean) := ⟨_, _, _, rfl, by decide, fl_S_26.elim fun _ h => by obtain ⟨T, N, h1, h2, h3⟩ := h; cases h1; exact h3, rfl, Or.inl rfl⟩
theorem fp_S_keepRow_30 : FP m_S_keepRow 30 5 5 (.int) := ⟨_, _, _, rfl, by decide, fl_S_30.elim fun _ h => by obtain ⟨T, N, h1, h2, h3⟩ := h; cases h1; exact h3, rfl, Or.inl rfl⟩
theorem fp_S_keepRow_34 : FP m_S_keepRow 34 5 4 (.int) := ⟨_, _, _, rfl, by decide, fl_S_34.elim fun _ h => by obtain ⟨T, N, h1, h2, h3⟩ := h; cases h1; exact h3, rfl, Or.inl rfl⟩
theorem lk_H_roomsAhead_74 : LKV m_H_roomsAhead 74 m_H_whoIsIn 1 2 := ⟨ok_H_whoIsIn, gw_t 582 (by decide +kernel) rfl, gw_t 449 (by decide +kernel) rfl, gw_t 450 (by decide +kernel) rfl, _, _, rfl⟩
theorem lk_S_enter_61 : LKV m_S_enter 61 m_H_whomToTell 1 3 := ⟨ok_H_whomToTell, gw_t 665 (by decide +kernel) rfl, gw_t 579 (by decide +kernel) rfl, gw_t 580 (by decide +kernel) rfl, _, _, rfl⟩
theorem lk_S_enter_47 : LKV m_S_enter 47 m_H_missed 1 1 := ⟨ok_H_missed, gw_t 652 (by decide +kernel) rfl, gw_t 635 (by decide +kernel) rfl, gw_t 636 (by decide +kernel) rfl, _, _, rfl⟩
theorem lk_S_enter_65 : LKV m_S_enter 65 m_L_minutes 2 4 := ⟨ok_L_minutes, gw_t 666 (by decide +kernel) rfl, gw_t 584 (by decide +kernel) rfl, gw_t 585 (by decide +kernel) rfl, _, _, rfl⟩
theorem lk_S_enter_37 : LKV m_S_enter 37 m_S_seek 5 4 := ⟨ok_S_seek, gw_t 647 (by decide +kernel) rfl, gw_t 649 (by decide +kernel) rfl, gw_of (sw 16 (by decide +kernel)) rfl, _, _, rfl⟩
theorem lk_G_beginBy_121 : LKS m_G_beginBy 121 m_H_isRoom 1 := ⟨ok_H_isRoom, gw_t 342 (by decide +kernel) rfl, gw_t 343 (by decide +kernel) rfl⟩
theorem lk_G_beginBy_193 : LKV m_G_beginBy 193 m_S_find 5 3 := ⟨ok_S_find, gw_t 643 (by decide +kernel) rfl, gw_t 644 (by decide +kernel) rfl, gw_t 645 (by decide +kernel) rfl, _, _, rfl⟩
theorem lk_G_slip_163 : LKS m_G_slip 163 m_G_isRoomMinute 1 := ⟨ok_G_isRoomMinute, gw_t 541 (by decide +kernel) rfl, gw_t 542 (by decide +kernel) rfl⟩
theorem lk_G_slip_201 : LKV m_G_slip 201 m_H_whoNotices 1 2 := ⟨ok_H_whoNotices, gw_t 683 (by decide +kernel) rfl, gw_t 684 (by decide +kernel) rfl, gw_t 685 (by decide +kernel) rfl, _, _, rfl⟩
theorem lk_G_slip_204 : LKS m_G_slip 204 m_J_bitCount 1 := ⟨ok_J_bitCount, gw_t 688 (by decide +kernel) rfl, gw_t 592 (by decide +kernel) rfl⟩
theorem lk_H_whoNotices_74 : LKV m_H_whoNotices 74 m_H_whoIsIn 1 2 := ⟨ok_H_whoIsIn, gw_t 582 (by decide +kernel) rfl, gw_t 449 (by decide +kernel) rfl, gw_t 450 (by decide +kernel) rfl, _, _, rfl⟩
theorem lk_H_whoNotices_77 : LKV m_H_whoNotices 77 m_H_wayBetween 1 2 := ⟨ok_H_wayBetween, gw_t 687 (by decide +kernel) rfl, gw_t 567 (by decide +kernel) rfl, gw_t 568 (by decide +kernel) rfl, _, _, rfl⟩
theorem lk_G_pair_209 : LKV m_G_pair 209 m_G_firstShelf 0 1 := ⟨ok_G_firstShelf, gw_t 693 (by decide +kernel) rfl, gw_t 695 (by decide +kernel) rfl, gw_of (sw 19 (by decide +kernel)) rfl, _, _, rfl⟩
theorem lk_G_pair_212 : LKV m_G_pair 212 m_G_secondShelf 0 1 := ⟨ok_G_secondShelf, gw_t 697 (by decide +kernel) rfl, gw_t 699 (by decide +kernel) rfl, gw_of (sw 20 (by decide +kernel)) rfl, _, _, rfl⟩
theorem lk_G_pair_90 : LKS m_G_pair 90 m_G_isRoomPair 1 := ⟨ok_G_isRoomPair, gw_t 339 (by decide +kernel) rfl, gw_t 340 (by decide +kernel) rfl⟩
theorem lk_G_pair_215 : LKS m_G_pair 215 m_G_refusalOfBoth 2 := ⟨ok_G_refusalOfBoth, gw_t 701 (by decide +kernel) rfl, gw_t 702 (by decide +kernel) rfl⟩
theorem lk_G_pair_219 : LKV m_G_pair 219 m_P_begin 6 3 := ⟨ok_P_begin, gw_t 706 (by decide +kernel) rfl, gw_t 707 (by decide +kernel) rfl, gw_t 708 (by decide +kernel) rfl, _, _, rfl⟩
theorem lk_G_pair_221 : LKV m_G_pair 221 m_P_goThrough 6 2 := ⟨ok_P_goThrough, gw_t 711 (by decide +kernel) rfl, gw_t 712 (by decide +kernel) rfl, gw_t 713 (by decide +kernel) rfl, _, _, rfl⟩
theorem lk_G_pair_225 : LKV m_G_pair 225 m_P_home 6 0 := ⟨ok_P_home, gw_t 729 (by decide +kernel) rfl, gw_t 730 (by decide +kernel) rfl, gw_t 731 (by decide +kernel) rfl, _, _, rfl⟩
theorem lk_G_pair_226 : LKV m_G_pair 226 m_P_toldByBoth 6 0 := ⟨ok_P_toldByBoth, gw_t 735 (by decide +kernel) rfl, gw_t 736 (by decide +kernel) rfl, gw_t 737 (by decide +kernel) rfl, _, _, rfl⟩
theorem lk_G_pair_189 : LKV m_G_pair 189 m_H_missed 1 1 := ⟨ok_H_missed, gw_t 634 (by decide +kernel) rfl, gw_t 635 (by decide +kernel) rfl, gw_t 636 (by decide +kernel) rfl, _, _, rfl⟩
theorem lk_G_firstShelf_102 : LKV m_G_firstShelf 102 m_G_shelfAt 0 1 := ⟨ok_G_shelfAt, gw_t 383 (by decide +kernel) rfl, gw_t 385 (by decide +kernel) rfl, gw_of (sw 1 (by decide +kernel)) rfl, _, _, rfl⟩
theorem lk_G_secondShelf_102 : LKV m_G_secondShelf 102 m_G_shelfAt 0 1 := ⟨ok_G_shelfAt, gw_t 383 (by decide +kernel) rfl, gw_t 385 (by decide +kernel) rfl, gw_of (sw 1 (by decide +kernel)) rfl, _, _, rfl⟩
theorem lk_G_refusalOfBoth_339 : LKV m_G_refusalOfBoth 339 m_F_isEmpty 11 0 := ⟨ok_F_isEmpty, gw_t 704 (by decide +kernel) rfl, gw_t 392 (by decide +kernel) rfl, gw_t 393 (by decide +kernel) rfl, _, _, rfl⟩
theorem lk_G_refusalOfBoth_376 : LKV m_G_refusalOfBoth 376 m_F_holdsBytes 11 0 := ⟨ok_F_holdsBytes, gw_t 705 (by decide +kernel) rfl, gw_t 396 (by decide +kernel) rfl, gw_t 397 (by decide +kernel) rfl, _, _, rfl⟩
theorem lk_P_begin_35 : LKV m_P_begin 35 m_V_begin 4 2 := ⟨ok_V_begin, gw_t 710 (by decide +kernel) rfl, gw_t 545 (by decide +kernel) rfl, gw_t 546 (by decide +kernel) rfl, _, _, rfl⟩
theorem fp_P_begin_39 : FP m_P_begin 39 6 5 (.int) := ⟨_, _, _, rfl, by decide, fl_P_39.elim fun _ h => by obtain ⟨T, N, h1, h2, h3⟩ := h; cases h1; exact h3, rfl, Or.inl rfl⟩
theorem fp_P_begin_43 : FP m_P_begin 43 6 6 (.int) := ⟨_, _, _, rfl, by decide, fl_P_43.elim fun _ h => by obtain ⟨T, N, h1, h2, h3⟩ := h; cases h1; exact h3, rfl, Or.inl rfl⟩
theorem lk_P_goThrough_46 : LKV m_P_goThrough 46 m_F_leadingRooms 11 0 := ⟨ok_F_leadingRooms, gw_t 715 (by decide +kernel) rfl, gw_t 553 (by decide +kernel) rfl, gw_t 554 (by decide +kernel) rfl, _, _, rfl⟩
theorem lk_P_goThrough_52 : LKV m_P_goThrough 52 m_F_smallAt 11 1 := ⟨ok_F_smallAt, gw_t 716 (by decide +kernel) rfl, gw_t 412 (by decide +kernel) rfl, gw_t 413 (by decide +kernel) rfl, _, _, rfl⟩
theorem lk_P_goThrough_56 : LKV m_P_goThrough 56 m_V_arrival 4 1 := ⟨ok_V_arrival, gw_t 717 (by decide +kernel) rfl, gw_t 563 (by decide +kernel) rfl, gw_t 564 (by decide +kernel) rfl, _, _, rfl⟩
theorem lk_P_goThrough_59 : LKV m_P_goThrough 59 m_P_visit 6 5 := ⟨ok_P_visit, gw_t 718 (by decide +kernel) rfl, gw_t 720 (by decide +kernel) rfl, gw_of (sw 21 (by decide +kernel)) rfl, _, _, rfl⟩
theorem fp_P_goThrough_39 : FP m_P_goThrough 39 6 5 (.int) := ⟨_, _, _, rfl, by decide, fl_P_39.elim fun _ h => by obtain ⟨T, N, h1, h2, h3⟩ := h; cases h1; exact h3, rfl, Or.inl rfl⟩
theorem fp_P_goThrough_43 : FP m_P_goThrough 43 6 6 (.int) := ⟨_, _, _, rfl, by decide, fl_P_43.elim fun _ h => by obtain ⟨T, N, h1, h2, h3⟩ := h; cases h1; exact h3, rfl, Or.inl rfl⟩
theorem lk_P_visit_63 : LKV m_P_visit 63 m_V_walkTo 4 1 := ⟨ok_V_walkTo, gw_t 722 (by decide +kernel) rfl, gw_t 559 (by decide +kernel) rfl, gw_t 560 (by decide +kernel) rfl, _, _, rfl⟩
theorem lk_P_visit_67 : LKV m_P_visit 67 m_V_minute 4 0 := ⟨ok_V_minute, gw_t 723 (by decide +kernel) rfl, gw_t 623 (by decide +kernel) rfl, gw_t 624 (by decide +kernel) rfl, _, _, rfl⟩
theorem lk_P_visit_70 : LKV m_P_visit 70 m_P_toldBefore 6 3 := ⟨ok_P_toldBefore, gw_t 724 (by decide +kernel) rfl, gw_t 726 (by decide +kernel) rfl, gw_of (sw 22 (by decide +kernel)) rfl, _, _, rfl⟩
theorem lk_P_visit_74 : LKV m_P_visit 74 m_V_tell 4 1 := ⟨ok_V_tell, gw_t 728 (by decide +kernel) rfl, gw_t 575 (by decide +kernel) rfl, gw_t 576 (by decide +kernel) rfl, _, _, rfl⟩
theorem lk_P_home_77 : LKV m_P_home 77 m_V_home 4 0 := ⟨ok_V_home, gw_t 733 (by decide +kernel) rfl, gw_t 627 (by decide +kernel) rfl, gw_t 628 (by decide +kernel) rfl, _, _, rfl⟩
theorem mk_P_home_80 : Cond.methodLink "GoodbyeAll$Pair" 80 Lib.Math.max.name ∈ gw_tbl := gw_t 734 (by decide +kernel) rfl
theorem lk_P_toldByBoth_86 : LKV m_P_toldByBoth 86 m_V_told 4 0 := ⟨ok_V_told, gw_t 739 (by decide +kernel) rfl, gw_t 631 (by decide +kernel) rfl, gw_t 632 (by decide +kernel) rfl, _, _, rfl⟩
theorem lk_G_coats_102 : LKV m_G_coats 102 m_G_shelfAt 0 1 := ⟨ok_G_shelfAt, gw_t 383 (by decide +kernel) rfl, gw_t 385 (by decide +kernel) rfl, gw_of (sw 1 (by decide +kernel)) rfl, _, _, rfl⟩
theorem lk_G_coats_139 : LKV m_G_coats 139 m_H_isGuest 1 1 := ⟨ok_H_isGuest, gw_t 442 (by decide +kernel) rfl, gw_t 365 (by decide +kernel) rfl, gw_t 366 (by decide +kernel) rfl, _, _, rfl⟩
theorem lk_G_coats_106 : LKV m_G_coats 106 m_F_bytesRefusal 11 0 := ⟨ok_F_bytesRefusal, gw_t 387 (by decide +kernel) rfl, gw_t 388 (by decide +kernel) rfl, gw_t 389 (by decide +kernel) rfl, _, _, rfl⟩
theorem lk_G_coats_229 : LKV m_G_coats 229 m_F_lowest 11 2 := ⟨ok_F_lowest, gw_t 744 (by decide +kernel) rfl, gw_t 745 (by decide +kernel) rfl, gw_t 746 (by decide +kernel) rfl, _, _, rfl⟩
theorem lk_G_coats_233 : LKV m_G_coats 233 m_F_above 11 2 := ⟨ok_F_above, gw_t 748 (by decide +kernel) rfl, gw_t 749 (by decide +kernel) rfl, gw_t 750 (by decide +kernel) rfl, _, _, rfl⟩
theorem mk_F_above_34 : Cond.methodLink "GoodbyeAll$Shelf" 34 Lib.Math.max.name ∈ gw_tbl := gw_t 752 (by decide +kernel) rfl
theorem lk_G_order_209 : LKV m_G_order 209 m_G_firstShelf 0 1 := ⟨ok_G_firstShelf, gw_t 693 (by decide +kernel) rfl, gw_t 695 (by decide +kernel) rfl, gw_of (sw 19 (by decide +kernel)) rfl, _, _, rfl⟩
theorem lk_G_order_212 : LKV m_G_order 212 m_G_secondShelf 0 1 := ⟨ok_G_secondShelf, gw_t 697 (by decide +kernel) rfl, gw_t 699 (by decide +kernel) rfl, gw_of (sw 20 (by decide +kernel)) rfl, _, _, rfl⟩
theorem lk_G_order_215 : LKS m_G_order 215 m_G_refusalOfBoth 2 := ⟨ok_G_refusalOfBoth, gw_t 701 (by decide +kernel) rfl, gw_t 702 (by decide +kernel) rfl⟩
theorem lk_G_order_236 : LKV m_G_order 236 m_F_size 11 0 := ⟨ok_F_size, gw_t 757 (by decide +kernel) rfl, gw_t 758 (by decide +kernel) rfl, gw_t 759 (by decide +kernel) rfl, _, _, rfl⟩
theorem lk_G_order_117 : LKV m_G_order 117 m_F_smallAt 11 1 := ⟨ok_F_smallAt, gw_t 411 (by decide +kernel) rfl, gw_t 412 (by decide +kernel) rfl, gw_t 413 (by decide +kernel) rfl, _, _, rfl⟩
theorem lk_G_order_139 : LKV m_G_order 139 m_H_isGuest 1 1 := ⟨ok_H_isGuest, gw_t 442 (by decide +kernel) rfl, gw_t 365 (by decide +kernel) rfl, gw_t 366 (by decide +kernel) rfl, _, _, rfl⟩
theorem lk_G_order_229 : LKV m_G_order 229 m_F_lowest 11 2 := ⟨ok_F_lowest, gw_t 744 (by decide +kernel) rfl, gw_t 745 (by decide +kernel) rfl, gw_t 746 (by decide +kernel) rfl, _, _, rfl⟩
theorem lk_G_order_233 : LKV m_G_order 233 m_F_above 11 2 := ⟨ok_F_above, gw_t 748 (by decide +kernel) rfl, gw_t 749 (by decide +kernel) rfl, gw_t 750 (by decide +kernel) rfl, _, _, rfl⟩
theorem lk_G_end_139 : LKV m_G_end 139 m_H_isGuest 1 1 := ⟨ok_H_isGuest, gw_t 442 (by decide +kernel) rfl, gw_t 365 (by decide +kernel) rfl, gw_t 366 (by decide +kernel) rfl, _, _, rfl⟩
theorem lk_G_end_239 : LKV m_G_end 239 m_Y_leftBehind 7 1 := ⟨ok_Y_leftBehind, gw_t 765 (by decide +kernel) rfl, gw_t 766 (by decide +kernel) rfl, gw_t 767 (by decide +kernel) rfl, _, _, rfl⟩
theorem lk_G_end_242 : LKV m_G_end 242 m_Y_waves 7 0 := ⟨ok_Y_waves, gw_t 787 (by decide +kernel) rfl, gw_t 788 (by decide +kernel) rfl, gw_t 789 (by decide +kernel) rfl, _, _, rfl⟩
theorem lk_Y_leftBehind_25 : LKV m_Y_leftBehind 25 m_Y_readLeaving 7 0 := ⟨ok_Y_readLeaving, gw_t 769 (by decide +kernel) rfl, gw_t 771 (by decide +kernel) rfl, gw_of (sw 23 (by decide +kernel)) rfl, _, _, rfl⟩
theorem lk_Y_leftBehind_28 : LKV m_Y_leftBehind 28 m_Y_stayingBehind 7 1 := ⟨ok_Y_stayingBehind, gw_t 778 (by decide +kernel) rfl, gw_t 780 (by decide +kernel) rfl, gw_of (sw 24 (by decide +kernel)) rfl, _, _, rfl⟩
theorem lk_Y_readLeaving_32 : LKV m_Y_readLeaving 32 m_H_guestCount 1 0 := ⟨ok_H_guestCount, gw_t 773 (by decide +kernel) rfl, gw_t 774 (by decide +kernel) rfl, gw_t 775 (by decide +kernel) rfl, _, _, rfl⟩
theorem lk_Y_readLeaving_44 : LKV m_Y_readLeaving 44 m_H_fact 1 2 := ⟨ok_H_fact, gw_t 777 (by decide +kernel) rfl, gw_t 422 (by decide +kernel) rfl, gw_t 423 (by decide +kernel) rfl, _, _, rfl⟩
theorem fp_Y_stayingBehind_21 : FP m_Y_stayingBehind 21 7 2 (.int) := ⟨_, _, _, rfl, by decide, fl_Y_21.elim fun _ h => by obtain ⟨T, N, h1, h2, h3⟩ := h; cases h1; exact h3, rfl, Or.inl rfl⟩
theorem lk_Y_stayingBehind_36 : LKS m_Y_stayingBehind 36 m_J_bitCount 1 := ⟨ok_J_bitCount, gw_t 782 (by decide +kernel) rfl, gw_t 592 (by decide +kernel) rfl⟩
theorem lk_Y_stayingBehind_41 : LKV m_Y_stayingBehind 41 m_H_everybody 1 0 := ⟨ok_H_everybody, gw_t 783 (by decide +kernel) rfl, gw_t 784 (by decide +kernel) rfl, gw_t 785 (by decide +kernel) rfl, _, _, rfl⟩
theorem lk_G_yawn_245 : LKV m_G_yawn 245 m_Y_bestYawner 7 0 := ⟨ok_Y_bestYawner, gw_t 795 (by decide +kernel) rfl, gw_t 796 (by decide +kernel) rfl, gw_t 797 (by decide +kernel) rfl, _, _, rfl⟩
theorem lk_Y_bestYawner_25 : LKV m_Y_bestYawner 25 m_Y_readLeaving 7 0 := ⟨ok_Y_readLeaving, gw_t 769 (by decide +kernel) rfl, gw_t 771 (by decide +kernel) rfl, gw_of (sw 23 (by decide +kernel)) rfl, _, _, rfl⟩
theorem lk_Y_bestYawner_32 : LKV m_Y_bestYawner 32 m_H_guestCount 1 0 := ⟨ok_H_guestCount, gw_t 773 (by decide +kernel) rfl, gw_t 774 (by decide +kernel) rfl, gw_t 775 (by decide +kernel) rfl, _, _, rfl⟩
theorem lk_Y_bestYawner_28 : LKV m_Y_bestYawner 28 m_Y_stayingBehind 7 1 := ⟨ok_Y_stayingBehind, gw_t 778 (by decide +kernel) rfl, gw_t 780 (by decide +kernel) rfl, gw_of (sw 24 (by decide +kernel)) rfl, _, _, rfl⟩
theorem lk_Y_bestYawner_36 : LKS m_Y_bestYawner 36 m_J_bitCount 1 := ⟨ok_J_bitCount, gw_t 782 (by decide +kernel) rfl, gw_t 592 (by decide +kernel) rfl⟩
theorem lk_G_clear_248 : LKV m_G_clear 248 m_Y_fewestToClear 7 0 := ⟨ok_Y_fewestToClear, gw_t 803 (by decide +kernel) rfl, gw_t 804 (by decide +kernel) rfl, gw_t 805 (by decide +kernel) rfl, _, _, rfl⟩
theorem lk_Y_fewestToClear_25 : LKV m_Y_fewestToClear 25 m_Y_readLeaving 7 0 := ⟨ok_Y_readLeaving, gw_t 769 (by decide +kernel) rfl, gw_t 771 (by decide +kernel) rfl, gw_of (sw 23 (by decide +kernel)) rfl, _, _, rfl⟩
theorem lk_Y_fewestToClear_41 : LKV m_Y_fewestToClear 41 m_H_everybody 1 0 := ⟨ok_H_everybody, gw_t 783 (by decide +kernel) rfl, gw_t 784 (by decide +kernel) rfl, gw_t 785 (by decide +kernel) rfl, _, _, rfl⟩
theorem lk_Y_fewestToClear_36 : LKS m_Y_fewestToClear 36 m_J_bitCount 1 := ⟨ok_J_bitCount, gw_t 782 (by decide +kernel) rfl, gw_t 592 (by decide +kernel) rfl⟩
theorem lk_Y_fewestToClear_28 : LKV m_Y_fewestToClear 28 m_Y_stayingBehind 7 1 := ⟨ok_Y_stayingBehind, gw_t 778 (by decide +kernel) rfl, gw_t 780 (by decide +kernel) rfl, gw_of (sw 24 (by decide +kernel)) rfl, _, _, rfl⟩
theorem lk_G_knows_139 : LKV m_G_knows 139 m_H_isGuest 1 1 := ⟨ok_H_isGuest, gw_t 442 (by decide +kernel) rfl, gw_t 365 (by decide +kernel) rfl, gw_t 366 (by decide +kernel) rfl, _, _, rfl⟩
theorem lk_G_knows_251 : LKV m_G_knows 251 m_Y_firstMinuteAllKnow 7 1 := ⟨ok_Y_firstMinuteAllKnow, gw_t 811 (by decide +kernel) rfl, gw_t 812 (by decide +kernel) rfl, gw_t 813 (by decide +kernel) rfl, _, _, rfl⟩
theorem lk_G_knows_254 : LKV m_G_knows 254 m_Y_whoKnows 7 2 := ⟨ok_Y_whoKnows, gw_t 820 (by decide +kernel) rfl, gw_t 821 (by decide +kernel) rfl, gw_t 822 (by decide +kernel) rfl, _, _, rfl⟩
theorem lk_Y_firstMinuteAllKnow_48 : LKV m_Y_firstMinuteAllKnow 48 m_Y_spread 7 2 := ⟨ok_Y_spread, gw_t 815 (by decide +kernel) rfl, gw_t 817 (by decide +kernel) rfl, gw_of (sw 25 (by decide +kernel)) rfl, _, _, rfl⟩
theorem lk_Y_firstMinuteAllKnow_41 : LKV m_Y_firstMinuteAllKnow 41 m_H_everybody 1 0 := ⟨ok_H_everybody, gw_t 783 (by decide +kernel) rfl, gw_t 784 (by decide +kernel) rfl, gw_t 785 (by decide +kernel) rfl, _, _, rfl⟩
theorem lk_Y_spread_51 : LKV m_Y_spread 51 m_H_whoIsIn 1 2 := ⟨ok_H_whoIsIn, gw_t 819 (by decide +kernel) rfl, gw_t 449 (by decide +kernel) rfl, gw_t 450 (by decide +kernel) rfl, _, _, rfl⟩
theorem lk_Y_whoKnows_48 : LKV m_Y_whoKnows 48 m_Y_spread 7 2 := ⟨ok_Y_spread, gw_t 815 (by decide +kernel) rfl, gw_t 817 (by decide +kernel) rfl, gw_of (sw 25 (by decide +kernel)) rfl, _, _, rfl⟩
theorem lk_G_drawn_163 : LKS m_G_drawn 163 m_G_isRoomMinute 1 := ⟨ok_G_isRoomMinute, gw_t 541 (by decide +kernel) rfl, gw_t 542 (by decide +kernel) rfl⟩
theorem lk_G_drawn_166 : LKV m_G_drawn 166 m_V_begin 4 2 := ⟨ok_V_begin, gw_t 544 (by decide +kernel) rfl, gw_t 545 (by decide +kernel) rfl, gw_t 546 (by decide +kernel) rfl, _, _, rfl⟩
theorem lk_G_drawn_173 : LKV m_G_drawn 173 m_V_walkTo 4 1 := ⟨ok_V_walkTo, gw_t 558 (by decide +kernel) rfl, gw_t 559 (by decide +kernel) rfl, gw_t 560 (by decide +kernel) rfl, _, _, rfl⟩
theorem lk_G_drawn_177 : LKV m_G_drawn 177 m_V_tell 4 1 := ⟨ok_V_tell, gw_t 574 (by decide +kernel) rfl, gw_t 575 (by decide +kernel) rfl, gw_t 576 (by decide +kernel) rfl, _, _, rfl⟩
theorem lk_G_drawn_183 : LKV m_G_drawn 183 m_V_home 4 0 := ⟨ok_V_home, gw_t 626 (by decide +kernel) rfl, gw_t 627 (by decide +kernel) rfl, gw_t 628 (by decide +kernel) rfl, _, _, rfl⟩
theorem lk_G_drawn_186 : LKV m_G_drawn 186 m_V_told 4 0 := ⟨ok_V_told, gw_t 630 (by decide +kernel) rfl, gw_t 631 (by decide +kernel) rfl, gw_t 632 (by decide +kernel) rfl, _, _, rfl⟩
theorem lk_G_drawn_189 : LKV m_G_drawn 189 m_H_missed 1 1 := ⟨ok_H_missed, gw_t 634 (by decide +kernel) rfl, gw_t 635 (by decide +kernel) rfl, gw_t 636 (by decide +kernel) rfl, _, _, rfl⟩
theorem lk_G_judge_102 : LKV m_G_judge 102 m_G_shelfAt 0 1 := ⟨ok_G_shelfAt, gw_t 383 (by decide +kernel) rfl, gw_t 385 (by decide +kernel) rfl, gw_of (sw 1 (by decide +kernel)) rfl, _, _, rfl⟩
theorem lk_G_judge_163 : LKS m_G_judge 163 m_G_isRoomMinute 1 := ⟨ok_G_isRoomMinute, gw_t 541 (by decide +kernel) rfl, gw_t 542 (by decide +kernel) rfl⟩
theorem lk_G_judge_106 : LKV m_G_judge 106 m_F_bytesRefusal 11 0 := ⟨ok_F_bytesRefusal, gw_t 387 (by decide +kernel) rfl, gw_t 388 (by decide +kernel) rfl, gw_t 389 (by decide +kernel) rfl, _, _, rfl⟩
theorem lk_G_judge_166 : LKV m_G_judge 166 m_V_begin 4 2 := ⟨ok_V_begin, gw_t 544 (by decide +kernel) rfl, gw_t 545 (by decide +kernel) rfl, gw_t 546 (by decide +kernel) rfl, _, _, rfl⟩
theorem lk_G_judge_236 : LKV m_G_judge 236 m_F_size 11 0 := ⟨ok_F_size, gw_t 757 (by decide +kernel) rfl, gw_t 758 (by decide +kernel) rfl, gw_t 759 (by decide +kernel) rfl, _, _, rfl⟩
theorem lk_G_judge_258 : LKV m_G_judge 258 m_G_isTrue 0 2 := ⟨ok_G_isTrue, gw_t 833 (by decide +kernel) rfl, gw_t 835 (by decide +kernel) rfl, gw_of (sw 26 (by decide +kernel)) rfl, _, _, rfl⟩
theorem lk_G_isTrue_114 : LKV m_G_isTrue 114 m_F_hasBytes 11 2 := ⟨ok_F_hasBytes, gw_t 403 (by decide +kernel) rfl, gw_t 404 (by decide +kernel) rfl, gw_t 405 (by decide +kernel) rfl, _, _, rfl⟩
theorem lk_G_isTrue_117 : LKV m_G_isTrue 117 m_F_smallAt 11 1 := ⟨ok_F_smallAt, gw_t 411 (by decide +kernel) rfl, gw_t 412 (by decide +kernel) rfl, gw_t 413 (by decide +kernel) rfl, _, _, rfl⟩
theorem lk_G_isTrue_121 : LKS m_G_isTrue 121 m_H_isRoom 1 := ⟨ok_H_isRoom, gw_t 342 (by decide +kernel) rfl, gw_t 343 (by decide +kernel) rfl⟩
theorem lk_G_isTrue_173 : LKV m_G_isTrue 173 m_V_walkTo 4 1 := ⟨ok_V_walkTo, gw_t 558 (by decide +kernel) rfl, gw_t 559 (by decide +kernel) rfl, gw_t 560 (by decide +kernel) rfl, _, _, rfl⟩
theorem lk_G_isTrue_177 : LKV m_G_isTrue 177 m_V_tell 4 1 := ⟨ok_V_tell, gw_t 574 (by decide +kernel) rfl, gw_t 575 (by decide +kernel) rfl, gw_t 576 (by decide +kernel) rfl, _, _, rfl⟩
theorem lk_G_isTrue_180 : LKV m_G_isTrue 180 m_V_minute 4 0 := ⟨ok_V_minute, gw_t 622 (by decide +kernel) rfl, gw_t 623 (by decide +kernel) rfl, gw_t 624 (by decide +kernel) rfl, _, _, rfl⟩
theorem lk_G_go_121 : LKS m_G_go 121 m_H_isRoom 1 := ⟨ok_H_isRoom, gw_t 342 (by decide +kernel) rfl, gw_t 343 (by decide +kernel) rfl⟩
theorem lk_G_go_261 : LKV m_G_go 261 m_E_walk 8 1 := ⟨ok_E_walk, gw_t 841 (by decide +kernel) rfl, gw_t 842 (by decide +kernel) rfl, gw_t 843 (by decide +kernel) rfl, _, _, rfl⟩
theorem lk_E_walk_28 : LKV m_E_walk 28 m_V_walkTo 4 1 := ⟨ok_V_walkTo, gw_t 845 (by decide +kernel) rfl, gw_t 559 (by decide +kernel) rfl, gw_t 560 (by decide +kernel) rfl, _, _, rfl⟩
theorem lk_E_walk_32 : LKV m_E_walk 32 m_V_minute 4 0 := ⟨ok_V_minute, gw_t 846 (by decide +kernel) rfl, gw_t 623 (by decide +kernel) rfl, gw_t 624 (by decide +kernel) rfl, _, _, rfl⟩
theorem lk_G_goodbye_264 : LKV m_G_goodbye 264 m_E_tellAll 8 0 := ⟨ok_E_tellAll, gw_t 851 (by decide +kernel) rfl, gw_t 852 (by decide +kernel) rfl, gw_t 853 (by decide +kernel) rfl, _, _, rfl⟩
theorem lk_E_tellAll_36 : LKV m_E_tellAll 36 m_V_tell 4 1 := ⟨ok_V_tell, gw_t 855 (by decide +kernel) rfl, gw_t 575 (by decide +kernel) rfl, gw_t 576 (by decide +kernel) rfl, _, _, rfl⟩
theorem fp_E_tellAll_40 : FP m_E_tellAll 40 8 4 (.int) := ⟨_, _, _, rfl, by decide, fl_E_40.elim fun _ h => by obtain ⟨T, N, h1, h2, h3⟩ := h; cases h1; exact h3, rfl, Or.inl rfl⟩
theorem lk_G_stay_267 : LKV m_G_stay 267 m_E_linger 8 1 := ⟨ok_E_linger, gw_t 860 (by decide +kernel) rfl, gw_t 861 (by decide +kernel) rfl, gw_t 862 (by decide +kernel) rfl, _, _, rfl⟩
theorem lk_E_linger_44 : LKV m_E_linger 44 m_V_linger 4 1 := ⟨ok_V_linger, gw_t 864 (by decide +kernel) rfl, gw_t 865 (by decide +kernel) rfl, gw_t 866 (by decide +kernel) rfl, _, _, rfl⟩
theorem lk_E_linger_32 : LKV m_E_linger 32 m_V_minute 4 0 := ⟨ok_V_minute, gw_t 846 (by decide +kernel) rfl, gw_t 623 (by decide +kernel) rfl, gw_t 624 (by decide +kernel) rfl, _, _, rfl⟩
theorem fp_V_linger_27 : FP m_V_linger 27 4 3 (.int) := ⟨_, _, _, rfl, by decide, fl_V_27.elim fun _ h => by obtain ⟨T, N, h1, h2, h3⟩ := h; cases h1; exact h3, rfl, Or.inl rfl⟩
theorem lk_G_leave_270 : LKV m_G_leave 270 m_E_inHall 8 0 := ⟨ok_E_inHall, gw_t 872 (by decide +kernel) rfl, gw_t 873 (by decide +kernel) rfl, gw_t 874 (by decide +kernel) rfl, _, _, rfl⟩
theorem lk_G_leave_274 : LKV m_G_leave 274 m_E_close 8 0 := ⟨ok_E_close, gw_t 880 (by decide +kernel) rfl, gw_t 881 (by decide +kernel) rfl, gw_t 882 (by decide +kernel) rfl, _, _, rfl⟩
theorem lk_E_inHall_47 : LKV m_E_inHall 47 m_V_room 4 0 := ⟨ok_V_room, gw_t 876 (by decide +kernel) rfl, gw_t 877 (by decide +kernel) rfl, gw_t 878 (by decide +kernel) rfl, _, _, rfl⟩
theorem lk_E_close_50 : LKV m_E_close 50 m_V_told 4 0 := ⟨ok_V_told, gw_t 884 (by decide +kernel) rfl, gw_t 631 (by decide +kernel) rfl, gw_t 632 (by decide +kernel) rfl, _, _, rfl⟩
theorem lk_E_close_53 : LKV m_E_close 53 m_H_missed 1 1 := ⟨ok_H_missed, gw_t 885 (by decide +kernel) rfl, gw_t 635 (by decide +kernel) rfl, gw_t 636 (by decide +kernel) rfl, _, _, rfl⟩
theorem fp_E_close_58 : FP m_E_close 58 8 5 (.int) := ⟨_, _, _, rfl, by decide, fl_E_58.elim fun _ h => by obtain ⟨T, N, h1, h2, h3⟩ := h; cases h1; exact h3, rfl, Or.inl rfl⟩
theorem fp_E_close_61 : FP m_E_close 61 8 6 (.int) := ⟨_, _, _, rfl, by decide, fl_E_61.elim fun _ h => by obtain ⟨T, N, h1, h2, h3⟩ := h; cases h1; exact h3, rfl, Or.inl rfl⟩
theorem lk_E_close_64 : LKV m_E_close 64 m_V_begin 4 2 := ⟨ok_V_begin, gw_t 886 (by decide +kernel) rfl, gw_t 545 (by decide +kernel) rfl, gw_t 546 (by decide +kernel) rfl, _, _, rfl⟩
theorem lk_G_led_277 : LKV m_G_led 277 m_E_told 8 1 := ⟨ok_E_told, gw_t 891 (by decide +kernel) rfl, gw_t 892 (by decide +kernel) rfl, gw_t 893 (by decide +kernel) rfl, _, _, rfl⟩
theorem lk_E_told_32 : LKV m_E_told 32 m_V_minute 4 0 := ⟨ok_V_minute, gw_t 846 (by decide +kernel) rfl, gw_t 623 (by decide +kernel) rfl, gw_t 624 (by decide +kernel) rfl, _, _, rfl⟩
theorem lk_E_told_47 : LKV m_E_told 47 m_V_room 4 0 := ⟨ok_V_room, gw_t 876 (by decide +kernel) rfl, gw_t 877 (by decide +kernel) rfl, gw_t 878 (by decide +kernel) rfl, _, _, rfl⟩
theorem lk_E_told_50 : LKV m_E_told 50 m_V_told 4 0 := ⟨ok_V_told, gw_t 884 (by decide +kernel) rfl, gw_t 631 (by decide +kernel) rfl, gw_t 632 (by decide +kernel) rfl, _, _, rfl⟩
theorem lk_G_image_279 : LKV m_G_image 279 m_E_keepImage 8 0 := ⟨ok_E_keepImage, gw_t 899 (by decide +kernel) rfl, gw_t 900 (by decide +kernel) rfl, gw_t 901 (by decide +kernel) rfl, _, _, rfl⟩
theorem lk_E_keepImage_72 : LKV m_E_keepImage 72 m_E_told 8 1 := ⟨ok_E_told, gw_t 903 (by decide +kernel) rfl, gw_t 892 (by decide +kernel) rfl, gw_t 893 (by decide +kernel) rfl, _, _, rfl⟩
theorem fp_E_keepImage_68 : FP m_E_keepImage 68 8 3 (.boolean) := ⟨_, _, _, rfl, by decide, fl_E_68.elim fun _ h => by obtain ⟨T, N, h1, h2, h3⟩ := h; cases h1; exact h3, rfl, Or.inl rfl⟩
theorem lk_E_keepImage_32 : LKV m_E_keepImage 32 m_V_minute 4 0 := ⟨ok_V_minute, gw_t 846 (by decide +kernel) rfl, gw_t 623 (by decide +kernel) rfl, gw_t 624 (by decide +kernel) rfl, _, _, rfl⟩
theorem lk_G_back_282 : LKV m_G_back 282 m_E_hasImage 8 0 := ⟨ok_E_hasImage, gw_t 908 (by decide +kernel) rfl, gw_t 909 (by decide +kernel) rfl, gw_t 910 (by decide +kernel) rfl, _, _, rfl⟩
theorem lk_G_back_285 : LKV m_G_back 285 m_E_layBack 8 0 := ⟨ok_E_layBack, gw_t 912 (by decide +kernel) rfl, gw_t 913 (by decide +kernel) rfl, gw_t 914 (by decide +kernel) rfl, _, _, rfl⟩
theorem lk_E_layBack_74 : LKV m_E_layBack 74 m_V_stand 4 3 := ⟨ok_V_stand, gw_t 916 (by decide +kernel) rfl, gw_t 549 (by decide +kernel) rfl, gw_t 550 (by decide +kernel) rfl, _, _, rfl⟩
theorem fp_E_layBack_40 : FP m_E_layBack 40 8 4 (.int) := ⟨_, _, _, rfl, by decide, fl_E_40.elim fun _ h => by obtain ⟨T, N, h1, h2, h3⟩ := h; cases h1; exact h3, rfl, Or.inl rfl⟩
theorem fp_E_layBack_58 : FP m_E_layBack 58 8 5 (.int) := ⟨_, _, _, rfl, by decide, fl_E_58.elim fun _ h => by obtain ⟨T, N, h1, h2, h3⟩ := h; cases h1; exact h3, rfl, Or.inl rfl⟩
theorem fp_E_layBack_61 : FP m_E_layBack 61 8 6 (.int) := ⟨_, _, _, rfl, by decide, fl_E_61.elim fun _ h => by obtain ⟨T, N, h1, h2, h3⟩ := h; cases h1; exact h3, rfl, Or.inl rfl⟩
theorem lk_E_layBack_32 : LKV m_E_layBack 32 m_V_minute 4 0 := ⟨ok_V_minute, gw_t 846 (by decide +kernel) rfl, gw_t 623 (by decide +kernel) rfl, gw_t 624 (by decide +kernel) rfl, _, _, rfl⟩
theorem lk_G_undo_288 : LKV m_G_undo 288 m_C_takeBack 9 0 := ⟨ok_C_takeBack, gw_t 921 (by decide +kernel) rfl, gw_t 922 (by decide +kernel) rfl, gw_t 923 (by decide +kernel) rfl, _, _, rfl⟩
theorem lk_G_undo_291 : LKV m_G_undo 291 m_C_undoable 9 0 := ⟨ok_C_undoable, gw_t 926 (by decide +kernel) rfl, gw_t 927 (by decide +kernel) rfl, gw_t 928 (by decide +kernel) rfl, _, _, rfl⟩
theorem fp_C_takeBack_26 : FP m_C_takeBack 26 9 5 (.int) := ⟨_, _, _, rfl, by decide, fl_C_26.elim fun _ h => by obtain ⟨T, N, h1, h2, h3⟩ := h; cases h1; exact h3, rfl, Or.inl rfl⟩
theorem lk_C_takeBack_36 : LKV m_C_takeBack 36 m_H_setFact 1 3 := ⟨ok_H_setFact, gw_t 925 (by decide +kernel) rfl, gw_t 357 (by decide +kernel) rfl, gw_t 358 (by decide +kernel) rfl, _, _, rfl⟩
theorem lk_G_redo_294 : LKV m_G_redo 294 m_C_doAgain 9 0 := ⟨ok_C_doAgain, gw_t 934 (by decide +kernel) rfl, gw_t 935 (by decide +kernel) rfl, gw_t 936 (by decide +kernel) rfl, _, _, rfl⟩
theorem lk_G_redo_297 : LKV m_G_redo 297 m_C_redoable 9 0 := ⟨ok_C_redoable, gw_t 938 (by decide +kernel) rfl, gw_t 939 (by decide +kernel) rfl, gw_t 940 (by decide +kernel) rfl, _, _, rfl⟩
theorem lk_C_doAgain_36 : LKV m_C_doAgain 36 m_H_setFact 1 3 := ⟨ok_H_setFact, gw_t 925 (by decide +kernel) rfl, gw_t 357 (by decide +kernel) rfl, gw_t 358 (by decide +kernel) rfl, _, _, rfl⟩
theorem fp_C_doAgain_26 : FP m_C_doAgain 26 9 5 (.int) := ⟨_, _, _, rfl, by decide, fl_C_26.elim fun _ h => by obtain ⟨T, N, h1, h2, h3⟩ := h; cases h1; exact h3, rfl, Or.inl rfl⟩
theorem lk_G_body_300 : LKS m_G_body 300 m_B_isKind 1 := ⟨ok_B_isKind, gw_t 946 (by decide +kernel) rfl, gw_t 947 (by decide +kernel) rfl⟩
theorem lk_G_body_303 : LKV m_G_body 303 m_B_add 10 1 := ⟨ok_B_add, gw_t 949 (by decide +kernel) rfl, gw_t 950 (by decide +kernel) rfl, gw_t 951 (by decide +kernel) rfl, _, _, rfl⟩
theorem fp_B_add_32 : FP m_B_add 32 10 2 (.int) := ⟨_, _, _, rfl, by decide, fl_B_32.elim fun _ h => by obtain ⟨T, N, h1, h2, h3⟩ := h; cases h1; exact h3, rfl, Or.inl rfl⟩
theorem lk_G_act_305 : LKV m_G_act 305 m_B_perform 10 3 := ⟨ok_B_perform, gw_t 957 (by decide +kernel) rfl, gw_t 958 (by decide +kernel) rfl, gw_t 959 (by decide +kernel) rfl, _, _, rfl⟩
theorem fp_B_perform_36 : FP m_B_perform 36 10 3 (.int) := ⟨_, _, _, rfl, by decide, fl_B_36.elim fun _ h => by obtain ⟨T, N, h1, h2, h3⟩ := h; cases h1; exact h3, rfl, Or.inl rfl⟩
theorem lk_B_perform_39 : LKV m_B_perform 39 m_B_isBody 10 1 := ⟨ok_B_isBody, gw_t 961 (by decide +kernel) rfl, gw_t 962 (by decide +kernel) rfl, gw_t 963 (by decide +kernel) rfl, _, _, rfl⟩
theorem lk_B_perform_42 : LKV m_B_perform 42 m_B_kindOf 10 1 := ⟨ok_B_kindOf, gw_t 965 (by decide +kernel) rfl, gw_t 966 (by decide +kernel) rfl, gw_t 967 (by decide +kernel) rfl, _, _, rfl⟩
theorem lk_B_perform_45 : LKV m_B_perform 45 m_B_call 10 5 := ⟨ok_B_call, gw_t 969 (by decide +kernel) rfl, gw_t 971 (by decide +kernel) rfl, gw_of (sw 27 (by decide +kernel)) rfl, _, _, rfl⟩
theorem lk_B_kindOf_39 : LKV m_B_kindOf 39 m_B_isBody 10 1 := ⟨ok_B_isBody, gw_t 961 (by decide +kernel) rfl, gw_t 962 (by decide +kernel) rfl, gw_t 963 (by decide +kernel) rfl, _, _, rfl⟩
theorem lk_B_call_18 : LKS m_B_call 18 m_B_isKind 1 := ⟨ok_B_isKind, gw_t 973 (by decide +kernel) rfl, gw_t 947 (by decide +kernel) rfl⟩
theorem lk_B_call_49 : LKS m_B_call 49 m_B_ownBody 2 := ⟨ok_B_ownBody, gw_t 974 (by decide +kernel) rfl, gw_t 975 (by decide +kernel) rfl⟩
theorem lk_B_call_22 : LKS m_B_call 22 m_B_kindAbove 1 := ⟨ok_B_kindAbove, gw_t 979 (by decide +kernel) rfl, gw_t 980 (by decide +kernel) rfl⟩
theorem lk_B_call_53 : LKV m_B_call 53 m_B_note 10 1 := ⟨ok_B_note, gw_t 984 (by decide +kernel) rfl, gw_t 986 (by decide +kernel) rfl, gw_of (sw 28 (by decide +kernel)) rfl, _, _, rfl⟩
theorem lk_B_call_57 : LKV m_B_call 57 m_B_runLater 10 5 := ⟨ok_B_runLater, gw_t 988 (by decide +kernel) rfl, gw_t 990 (by decide +kernel) rfl, gw_of (sw 29 (by decide +kernel)) rfl, _, _, rfl⟩
theorem lk_B_call_60 : LKV m_B_call 60 m_B_runFirst 10 5 := ⟨ok_B_runFirst, gw_t 992 (by decide +kernel) rfl, gw_t 994 (by decide +kernel) rfl, gw_of (sw 30 (by decide +kernel)) rfl, _, _, rfl⟩
theorem lk_B_ownBody_18 : LKS m_B_ownBody 18 m_B_isKind 1 := ⟨ok_B_isKind, gw_t 973 (by decide +kernel) rfl, gw_t 947 (by decide +kernel) rfl⟩
theorem fp_B_note_36 : FP m_B_note 36 10 3 (.int) := ⟨_, _, _, rfl, by decide, fl_B_36.elim fun _ h => by obtain ⟨T, N, h1, h2, h3⟩ := h; cases h1; exact h3, rfl, Or.inl rfl⟩
theorem lk_B_runLater_42 : LKV m_B_runLater 42 m_B_kindOf 10 1 := ⟨ok_B_kindOf, gw_t 965 (by decide +kernel) rfl, gw_t 966 (by decide +kernel) rfl, gw_t 967 (by decide +kernel) rfl, _, _, rfl⟩
theorem lk_B_runLater_45 : LKV m_B_runLater 45 m_B_call 10 5 := ⟨ok_B_call, gw_t 969 (by decide +kernel) rfl, gw_t 971 (by decide +kernel) rfl, gw_of (sw 27 (by decide +kernel)) rfl, _, _, rfl⟩
theorem lk_B_runFirst_42 : LKV m_B_runFirst 42 m_B_kindOf 10 1 := ⟨ok_B_kindOf, gw_t 965 (by decide +kernel) rfl, gw_t 966 (by decide +kernel) rfl, gw_t 967 (by decide +kernel) rfl, _, _, rfl⟩
theorem lk_B_runFirst_45 : LKV m_B_runFirst 45 m_B_call 10 5 := ⟨ok_B_call, gw_t 969 (by decide +kernel) rfl, gw_t 971 (by decide +kernel) rfl, gw_of (sw 27 (by decide +kernel)) rfl, _, _, rfl⟩
theorem lk_G_trace_309 : LKV m_G_trace 309 m_B_ranAt 10 1 := ⟨ok_B_ranAt, gw_t 1000 (by decide +kernel) rfl, gw_t 1001 (by decide +kernel) rfl, gw_t 1002 (by decide +kernel) rfl, _, _, rfl⟩
theorem lk_G_keep_102 : LKV m_G_keep 102 m_G_shelfAt 0 1 := ⟨ok_G_shelfAt, gw_t 383 (by decide +kernel) rfl, gw_t 385 (by decide +kernel) rfl, gw_of (sw 1 (by decide +kernel)) rfl, _, _, rfl⟩
theorem lk_G_keep_312 : LKV m_G_keep 312 m_B_isBody 10 1 := ⟨ok_B_isBody, gw_t 1008 (by decide +kernel) rfl, gw_t 962 (by decide +kernel) rfl, gw_t 963 (by decide +kernel) rfl, _, _, rfl⟩
theorem lk_G_keep_315 : LKV m_G_keep 315 m_F_holdNothing 11 0 := ⟨ok_F_holdNothing, gw_t 1009 (by decide +kernel) rfl, gw_t 1010 (by decide +kernel) rfl, gw_t 1011 (by decide +kernel) rfl, _, _, rfl⟩
theorem lk_G_keep_318 : LKV m_G_keep 318 m_F_holdBody 11 1 := ⟨ok_F_holdBody, gw_t 1013 (by decide +kernel) rfl, gw_t 1014 (by decide +kernel) rfl, gw_t 1015 (by decide +kernel) rfl, _, _, rfl⟩
theorem fp_F_holdNothing_15 : FP m_F_holdNothing 15 11 1 (.int) := ⟨_, _, _, rfl, by decide, fl_F_15.elim fun _ h => by obtain ⟨T, N, h1, h2, h3⟩ := h; cases h1; exact h3, rfl, Or.inl rfl⟩
theorem fp_F_holdNothing_25 : FP m_F_holdNothing 25 11 4 (.int) := ⟨_, _, _, rfl, by decide, fl_F_25.elim fun _ h => by obtain ⟨T, N, h1, h2, h3⟩ := h; cases h1; exact h3, rfl, Or.inl rfl⟩
theorem fp_F_holdBody_15 : FP m_F_holdBody 15 11 1 (.int) := ⟨_, _, _, rfl, by decide, fl_F_15.elim fun _ h => by obtain ⟨T, N, h1, h2, h3⟩ := h; cases h1; exact h3, rfl, Or.inl rfl⟩
theorem fp_F_holdBody_22 : FP m_F_holdBody 22 11 2 (.int) := ⟨_, _, _, rfl, by decide, fl_F_22.elim fun _ h => by obtain ⟨T, N, h1, h2, h3⟩ := h; cases h1; exact h3, rfl, Or.inl rfl⟩
theorem fp_F_holdBody_25 : FP m_F_holdBody 25 11 4 (.int) := ⟨_, _, _, rfl, by decide, fl_F_25.elim fun _ h => by obtain ⟨T, N, h1, h2, h3⟩ := h; cases h1; exact h3, rfl, Or.inl rfl⟩
theorem lk_G_row_102 : LKV m_G_row 102 m_G_shelfAt 0 1 := ⟨ok_G_shelfAt, gw_t 383 (by decide +kernel) rfl, gw_t 385 (by decide +kernel) rfl, gw_of (sw 1 (by decide +kernel)) rfl, _, _, rfl⟩
theorem lk_G_row_321 : LKS m_G_row 321 m_F_isSort 1 := ⟨ok_F_isSort, gw_t 1021 (by decide +kernel) rfl, gw_t 1022 (by decide +kernel) rfl⟩
theorem lk_G_row_324 : LKV m_G_row 324 m_F_holdRow 11 2 := ⟨ok_F_holdRow, gw_t 1024 (by decide +kernel) rfl, gw_t 1025 (by decide +kernel) rfl, gw_t 1026 (by decide +kernel) rfl, _, _, rfl⟩
theorem fp_F_holdRow_15 : FP m_F_holdRow 15 11 1 (.int) := ⟨_, _, _, rfl, by decide, fl_F_15.elim fun _ h => by obtain ⟨T, N, h1, h2, h3⟩ := h; cases h1; exact h3, rfl, Or.inl rfl⟩
theorem fp_F_holdRow_19 : FP m_F_holdRow 19 11 3 (.int) := ⟨_, _, _, rfl, by decide, fl_F_19.elim fun _ h => by obtain ⟨T, N, h1, h2, h3⟩ := h; cases h1; exact h3, rfl, Or.inl rfl⟩
theorem mk_F_holdRow_28 : Cond.methodLink "GoodbyeAll$Shelf" 28 Lib.Math.min.name ∈ gw_tbl := gw_t 1028 (by decide +kernel) rfl
theorem mk_F_holdRow_34 : Cond.methodLink "GoodbyeAll$Shelf" 34 Lib.Math.max.name ∈ gw_tbl := gw_t 752 (by decide +kernel) rfl
theorem fp_F_holdRow_25 : FP m_F_holdRow 25 11 4 (.int) := ⟨_, _, _, rfl, by decide, fl_F_25.elim fun _ h => by obtain ⟨T, N, h1, h2, h3⟩ := h; cases h1; exact h3, rfl, Or.inl rfl⟩
theorem lk_G_put_102 : LKV m_G_put 102 m_G_shelfAt 0 1 := ⟨ok_G_shelfAt, gw_t 383 (by decide +kernel) rfl, gw_t 385 (by decide +kernel) rfl, gw_of (sw 1 (by decide +kernel)) rfl, _, _, rfl⟩
theorem lk_G_put_327 : LKV m_G_put 327 m_F_elementRefusal 11 1 := ⟨ok_F_elementRefusal, gw_t 1033 (by decide +kernel) rfl, gw_t 1034 (by decide +kernel) rfl, gw_t 1035 (by decide +kernel) rfl, _, _, rfl⟩
theorem lk_G_put_330 : LKV m_G_put 330 m_F_write 11 2 := ⟨ok_F_write, gw_t 1041 (by decide +kernel) rfl, gw_t 1042 (by decide +kernel) rfl, gw_t 1043 (by decide +kernel) rfl, _, _, rfl⟩
theorem lk_F_elementRefusal_37 : LKV m_F_elementRefusal 37 m_F_isEmpty 11 0 := ⟨ok_F_isEmpty, gw_t 391 (by decide +kernel) rfl, gw_t 392 (by decide +kernel) rfl, gw_t 393 (by decide +kernel) rfl, _, _, rfl⟩
theorem lk_F_elementRefusal_44 : LKV m_F_elementRefusal 44 m_F_holdsRow 11 0 := ⟨ok_F_holdsRow, gw_t 1037 (by decide +kernel) rfl, gw_t 1038 (by decide +kernel) rfl, gw_t 1039 (by decide +kernel) rfl, _, _, rfl⟩
theorem lk_F_elementRefusal_47 : LKV m_F_elementRefusal 47 m_F_hasPlaces 11 2 := ⟨ok_F_hasPlaces, gw_t 407 (by decide +kernel) rfl, gw_t 408 (by decide +kernel) rfl, gw_t 409 (by decide +kernel) rfl, _, _, rfl⟩
theorem lk_F_write_47 : LKV m_F_write 47 m_F_hasPlaces 11 2 := ⟨ok_F_hasPlaces, gw_t 407 (by decide +kernel) rfl, gw_t 408 (by decide +kernel) rfl, gw_t 409 (by decide +kernel) rfl, _, _, rfl⟩
theorem lk_F_write_54 : LKV m_F_write 54 m_F_lowestBits 11 1 := ⟨ok_F_lowestBits, gw_t 1045 (by decide +kernel) rfl, gw_t 1047 (by decide +kernel) rfl, gw_of (sw 31 (by decide +kernel)) rfl, _, _, rfl⟩
theorem lk_G_element_102 : LKV m_G_element 102 m_G_shelfAt 0 1 := ⟨ok_G_shelfAt, gw_t 383 (by decide +kernel) rfl, gw_t 385 (by decide +kernel) rfl, gw_of (sw 1 (by decide +kernel)) rfl, _, _, rfl⟩
theorem lk_G_element_327 : LKV m_G_element 327 m_F_elementRefusal 11 1 := ⟨ok_F_elementRefusal, gw_t 1033 (by decide +kernel) rfl, gw_t 1034 (by decide +kernel) rfl, gw_t 1035 (by decide +kernel) rfl, _, _, rfl⟩
theorem lk_G_element_336 : LKV m_G_element 336 m_F_read 11 1 := ⟨ok_F_read, gw_t 1054 (by decide +kernel) rfl, gw_t 1055 (by decide +kernel) rfl, gw_t 1056 (by decide +kernel) rfl, _, _, rfl⟩
theorem lk_F_read_47 : LKV m_F_read 47 m_F_hasPlaces 11 2 := ⟨ok_F_hasPlaces, gw_t 407 (by decide +kernel) rfl, gw_t 408 (by decide +kernel) rfl, gw_t 409 (by decide +kernel) rfl, _, _, rfl⟩
theorem lk_G_shift_102 : LKV m_G_shift 102 m_G_shelfAt 0 1 := ⟨ok_G_shelfAt, gw_t 383 (by decide +kernel) rfl, gw_t 385 (by decide +kernel) rfl, gw_of (sw 1 (by decide +kernel)) rfl, _, _, rfl⟩
theorem lk_G_shift_339 : LKV m_G_shift 339 m_F_isEmpty 11 0 := ⟨ok_F_isEmpty, gw_t 704 (by decide +kernel) rfl, gw_t 392 (by decide +kernel) rfl, gw_t 393 (by decide +kernel) rfl, _, _, rfl⟩
theorem lk_G_shift_342 : LKV m_G_shift 342 m_F_holdsRow 11 0 := ⟨ok_F_holdsRow, gw_t 1062 (by decide +kernel) rfl, gw_t 1038 (by decide +kernel) rfl, gw_t 1039 (by decide +kernel) rfl, _, _, rfl⟩
theorem lk_G_shift_345 : LKV m_G_shift 345 m_F_sort 11 0 := ⟨ok_F_sort, gw_t 1063 (by decide +kernel) rfl, gw_t 1064 (by decide +kernel) rfl, gw_t 1065 (by decide +kernel) rfl, _, _, rfl⟩
theorem lk_G_shift_348 : LKV m_G_shift 348 m_F_hasPlaces 11 2 := ⟨ok_F_hasPlaces, gw_t 1067 (by decide +kernel) rfl, gw_t 408 (by decide +kernel) rfl, gw_t 409 (by decide +kernel) rfl, _, _, rfl⟩
theorem lk_G_shift_351 : LKV m_G_shift 351 m_F_copyFrom 11 4 := ⟨ok_F_copyFrom, gw_t 1068 (by decide +kernel) rfl, gw_t 1069 (by decide +kernel) rfl, gw_t 1070 (by decide +kernel) rfl, _, _, rfl⟩
theorem lk_F_copyFrom_47 : LKV m_F_copyFrom 47 m_F_hasPlaces 11 2 := ⟨ok_F_hasPlaces, gw_t 407 (by decide +kernel) rfl, gw_t 408 (by decide +kernel) rfl, gw_t 409 (by decide +kernel) rfl, _, _, rfl⟩
theorem lk_G_taken_102 : LKV m_G_taken 102 m_G_shelfAt 0 1 := ⟨ok_G_shelfAt, gw_t 383 (by decide +kernel) rfl, gw_t 385 (by decide +kernel) rfl, gw_of (sw 1 (by decide +kernel)) rfl, _, _, rfl⟩
theorem lk_G_taken_300 : LKS m_G_taken 300 m_B_isKind 1 := ⟨ok_B_isKind, gw_t 946 (by decide +kernel) rfl, gw_t 947 (by decide +kernel) rfl⟩
theorem lk_G_taken_339 : LKV m_G_taken 339 m_F_isEmpty 11 0 := ⟨ok_F_isEmpty, gw_t 704 (by decide +kernel) rfl, gw_t 392 (by decide +kernel) rfl, gw_t 393 (by decide +kernel) rfl, _, _, rfl⟩
theorem lk_G_taken_355 : LKV m_G_taken 355 m_F_holdsBody 11 0 := ⟨ok_F_holdsBody, gw_t 1079 (by decide +kernel) rfl, gw_t 1080 (by decide +kernel) rfl, gw_t 1081 (by decide +kernel) rfl, _, _, rfl⟩
theorem lk_G_taken_358 : LKV m_G_taken 358 m_F_heldBody 11 0 := ⟨ok_F_heldBody, gw_t 1083 (by decide +kernel) rfl, gw_t 1084 (by decide +kernel) rfl, gw_t 1085 (by decide +kernel) rfl, _, _, rfl⟩
theorem lk_G_taken_361 : LKV m_G_taken 361 m_B_kindOf 10 1 := ⟨ok_B_kindOf, gw_t 1087 (by decide +kernel) rfl, gw_t 966 (by decide +kernel) rfl, gw_t 967 (by decide +kernel) rfl, _, _, rfl⟩
theorem lk_G_taken_364 : LKS m_G_taken 364 m_B_isUnder 2 := ⟨ok_B_isUnder, gw_t 1088 (by decide +kernel) rfl, gw_t 1089 (by decide +kernel) rfl⟩
theorem lk_B_isUnder_18 : LKS m_B_isUnder 18 m_B_isKind 1 := ⟨ok_B_isKind, gw_t 973 (by decide +kernel) rfl, gw_t 947 (by decide +kernel) rfl⟩
theorem lk_B_isUnder_22 : LKS m_B_isUnder 22 m_B_kindAbove 1 := ⟨ok_B_kindAbove, gw_t 979 (by decide +kernel) rfl, gw_t 980 (by decide +kernel) rfl⟩
theorem lk_G_count_367 : LKV m_G_count 367 m_H_guestCount 1 0 := ⟨ok_H_guestCount, gw_t 1095 (by decide +kernel) rfl, gw_t 774 (by decide +kernel) rfl, gw_t 775 (by decide +kernel) rfl, _, _, rfl⟩
theorem lk_G_count_189 : LKV m_G_count 189 m_H_missed 1 1 := ⟨ok_H_missed, gw_t 634 (by decide +kernel) rfl, gw_t 635 (by decide +kernel) rfl, gw_t 636 (by decide +kernel) rfl, _, _, rfl⟩
theorem lk_G_count_204 : LKS m_G_count 204 m_J_bitCount 1 := ⟨ok_J_bitCount, gw_t 688 (by decide +kernel) rfl, gw_t 592 (by decide +kernel) rfl⟩
theorem lk_G_count_150 : LKV m_G_count 150 m_T_length 3 0 := ⟨ok_T_length, gw_t 461 (by decide +kernel) rfl, gw_t 462 (by decide +kernel) rfl, gw_t 463 (by decide +kernel) rfl, _, _, rfl⟩
theorem lk_G_count_291 : LKV m_G_count 291 m_C_undoable 9 0 := ⟨ok_C_undoable, gw_t 926 (by decide +kernel) rfl, gw_t 927 (by decide +kernel) rfl, gw_t 928 (by decide +kernel) rfl, _, _, rfl⟩
theorem lk_G_count_370 : LKV m_G_count 370 m_B_bodyCount 10 0 := ⟨ok_B_bodyCount, gw_t 1096 (by decide +kernel) rfl, gw_t 1097 (by decide +kernel) rfl, gw_t 1098 (by decide +kernel) rfl, _, _, rfl⟩
theorem lk_G_count_373 : LKV m_G_count 373 m_B_runCount 10 0 := ⟨ok_B_runCount, gw_t 1100 (by decide +kernel) rfl, gw_t 1101 (by decide +kernel) rfl, gw_t 1102 (by decide +kernel) rfl, _, _, rfl⟩
theorem fp_M_init_7 : FP m_M_init 7 12 2 (.array .int) := ⟨_, _, _, rfl, by decide, fl_M_7.elim fun _ h => by obtain ⟨T, N, h1, h2, h3⟩ := h; cases h1; exact h3, rfl, Or.inr ⟨rfl, rfl, rfl⟩⟩
theorem fp_M_init_13 : FP m_M_init 13 12 3 (.array .int) := ⟨_, _, _, rfl, by decide, fl_M_13.elim fun _ h => by obtain ⟨T, N, h1, h2, h3⟩ := h; cases h1; exact h3, rfl, Or.inr ⟨rfl, rfl, rfl⟩⟩
theorem fp_M_init_16 : FP m_M_init 16 12 4 (.array .int) := ⟨_, _, _, rfl, by decide, fl_M_16.elim fun _ h => by obtain ⟨T, N, h1, h2, h3⟩ := h; cases h1; exact h3, rfl, Or.inr ⟨rfl, rfl, rfl⟩⟩
theorem fp_M_init_19 : FP m_M_init 19 12 5 (.array .int) := ⟨_, _, _, rfl, by decide, fl_M_19.elim fun _ h => by obtain ⟨T, N, h1, h2, h3⟩ := h; cases h1; exact h3, rfl, Or.inr ⟨rfl, rfl, rfl⟩⟩
theorem fp_M_init_22 : FP m_M_init 22 12 6 (.array .int) := ⟨_, _, _, rfl, by decide, fl_M_22.elim fun _ h => by obtain ⟨T, N, h1, h2, h3⟩ := h; cases h1; exact h3, rfl, Or.inr ⟨rfl, rfl, rfl⟩⟩
theorem fp_M_init_25 : FP m_M_init 25 12 7 (.array .int) := ⟨_, _, _, rfl, by decide, fl_M_25.elim fun _ h => by obtain ⟨T, N, h1, h2, h3⟩ := h; cases h1; exact h3, rfl, Or.inr ⟨rfl, rfl, rfl⟩⟩
theorem fp_M_init_28 : FP m_M_init 28 12 8 (.array .int) := ⟨_, _, _, rfl, by decide, fl_M_28.elim fun _ h => by obtain ⟨T, N, h1, h2, h3⟩ := h; cases h1; exact h3, rfl, Or.inr ⟨rfl, rfl, rfl⟩⟩
theorem fp_M_init_31 : FP m_M_init 31 12 9 (.array .int) := ⟨_, _, _, rfl, by decide, fl_M_31.elim fun _ h => by obtain ⟨T, N, h1, h2, h3⟩ := h; cases h1; exact h3, rfl, Or.inr ⟨rfl, rfl, rfl⟩⟩
theorem fp_M_init_34 : FP m_M_init 34 12 12 (.array .int) := ⟨_, _, _, rfl, by decide, fl_M_34.elim fun _ h => by obtain ⟨T, N, h1, h2, h3⟩ := h; cases h1; exact h3, rfl, Or.inr ⟨rfl, rfl, rfl⟩⟩
theorem fp_M_init_37 : FP m_M_init 37 12 13 (.array .int) := ⟨_, _, _, rfl, by decide, fl_M_37.elim fun _ h => by obtain ⟨T, N, h1, h2, h3⟩ := h; cases h1; exact h3, rfl, Or.inr ⟨rfl, rfl, rfl⟩⟩
theorem fp_M_init_40 : FP m_M_init 40 12 14 (.array .int) := ⟨_, _, _, rfl, by decide, fl_M_40.elim fun _ h => by obtain ⟨T, N, h1, h2, h3⟩ := h; cases h1; exact h3, rfl, Or.inr ⟨rfl, rfl, rfl⟩⟩
theorem fp_M_init_43 : FP m_M_init 43 12 15 (.array .int) := ⟨_, _, _, rfl, by decide, fl_M_43.elim fun _ h => by obtain ⟨T, N, h1, h2, h3⟩ := h; cases h1; exact h3, rfl, Or.inr ⟨rfl, rfl, rfl⟩⟩
theorem fp_M_init_46 : FP m_M_init 46 12 16 (.array .byte) := ⟨_, _, _, rfl, by decide, fl_M_46.elim fun _ h => by obtain ⟨T, N, h1, h2, h3⟩ := h; cases h1; exact h3, rfl, Or.inr ⟨rfl, rfl, rfl⟩⟩
theorem fp_M_init_50 : FP m_M_init 50 12 22 (.array .byte) := ⟨_, _, _, rfl, by decide, fl_M_50.elim fun _ h => by obtain ⟨T, N, h1, h2, h3⟩ := h; cases h1; exact h3, rfl, Or.inr ⟨rfl, rfl, rfl⟩⟩
theorem fp_M_init_53 : FP m_M_init 53 12 23 (.array .int) := ⟨_, _, _, rfl, by decide, fl_M_53.elim fun _ h => by obtain ⟨T, N, h1, h2, h3⟩ := h; cases h1; exact h3, rfl, Or.inr ⟨rfl, rfl, rfl⟩⟩
theorem fp_M_init_56 : FP m_M_init 56 12 24 (.array .int) := ⟨_, _, _, rfl, by decide, fl_M_56.elim fun _ h => by obtain ⟨T, N, h1, h2, h3⟩ := h; cases h1; exact h3, rfl, Or.inr ⟨rfl, rfl, rfl⟩⟩
theorem fp_M_init_59 : FP m_M_init 59 12 25 (.array .short) := ⟨_, _, _, rfl, by decide, fl_M_59.elim fun _ h => by obtain ⟨T, N, h1, h2, h3⟩ := h; cases h1; exact h3, rfl, Or.inr ⟨rfl, rfl, rfl⟩⟩
theorem fp_M_init_63 : FP m_M_init 63 12 26 (.array .short) := ⟨_, _, _, rfl, by decide, fl_M_63.elim fun _ h => by obtain ⟨T, N, h1, h2, h3⟩ := h; cases h1; exact h3, rfl, Or.inr ⟨rfl, rfl, rfl⟩⟩
theorem fp_M_init_66 : FP m_M_init 66 12 27 (.array .int) := ⟨_, _, _, rfl, by decide, fl_M_66.elim fun _ h => by obtain ⟨T, N, h1, h2, h3⟩ := h; cases h1; exact h3, rfl, Or.inr ⟨rfl, rfl, rfl⟩⟩
theorem fp_M_init_69 : FP m_M_init 69 12 28 (.array .int) := ⟨_, _, _, rfl, by decide, fl_M_69.elim fun _ h => by obtain ⟨T, N, h1, h2, h3⟩ := h; cases h1; exact h3, rfl, Or.inr ⟨rfl, rfl, rfl⟩⟩
theorem fp_M_init_72 : FP m_M_init 72 12 33 (.array .int) := ⟨_, _, _, rfl, by decide, fl_M_72.elim fun _ h => by obtain ⟨T, N, h1, h2, h3⟩ := h; cases h1; exact h3, rfl, Or.inr ⟨rfl, rfl, rfl⟩⟩
theorem fp_M_init_75 : FP m_M_init 75 12 34 (.array .int) := ⟨_, _, _, rfl, by decide, fl_M_75.elim fun _ h => by obtain ⟨T, N, h1, h2, h3⟩ := h; cases h1; exact h3, rfl, Or.inr ⟨rfl, rfl, rfl⟩⟩
theorem fp_M_init_78 : FP m_M_init 78 12 37 (.array .int) := ⟨_, _, _, rfl, by decide, fl_M_78.elim fun _ h => by obtain ⟨T, N, h1, h2, h3⟩ := h; cases h1; exact h3, rfl, Or.inr ⟨rfl, rfl, rfl⟩⟩
theorem fp_M_init_81 : FP m_M_init 81 12 38 (.array .int) := ⟨_, _, _, rfl, by decide, fl_M_81.elim fun _ h => by obtain ⟨T, N, h1, h2, h3⟩ := h; cases h1; exact h3, rfl, Or.inr ⟨rfl, rfl, rfl⟩⟩
theorem fp_M_init_84 : FP m_M_init 84 12 39 (.array .int) := ⟨_, _, _, rfl, by decide, fl_M_84.elim fun _ h => by obtain ⟨T, N, h1, h2, h3⟩ := h; cases h1; exact h3, rfl, Or.inr ⟨rfl, rfl, rfl⟩⟩
theorem fp_M_init_87 : FP m_M_init 87 12 40 (.array .int) := ⟨_, _, _, rfl, by decide, fl_M_87.elim fun _ h => by obtain ⟨T, N, h1, h2, h3⟩ := h; cases h1; exact h3, rfl, Or.inr ⟨rfl, rfl, rfl⟩⟩
theorem fp_M_init_90 : FP m_M_init 90 12 41 (.array .int) := ⟨_, _, _, rfl, by decide, fl_M_90.elim fun _ h => by obtain ⟨T, N, h1, h2, h3⟩ := h; cases h1; exact h3, rfl, Or.inr ⟨rfl, rfl, rfl⟩⟩
theorem fp_M_init_93 : FP m_M_init 93 12 42 (.array .int) := ⟨_, _, _, rfl, by decide, fl_M_93.elim fun _ h => by obtain ⟨T, N, h1, h2, h3⟩ := h; cases h1; exact h3, rfl, Or.inr ⟨rfl, rfl, rfl⟩⟩
theorem fp_M_init_96 : FP m_M_init 96 12 43 (.array .int) := ⟨_, _, _, rfl, by decide, fl_M_96.elim fun _ h => by obtain ⟨T, N, h1, h2, h3⟩ := h; cases h1; exact h3, rfl, Or.inr ⟨rfl, rfl, rfl⟩⟩
theorem fp_M_init_99 : FP m_M_init 99 12 46 (.array .int) := ⟨_, _, _, rfl, by decide, fl_M_99.elim fun _ h => by obtain ⟨T, N, h1, h2, h3⟩ := h; cases h1; exact h3, rfl, Or.inr ⟨rfl, rfl, rfl⟩⟩
theorem fp_M_init_102 : FP m_M_init 102 12 47 (.array .int) := ⟨_, _, _, rfl, by decide, fl_M_102.elim fun _ h => by obtain ⟨T, N, h1, h2, h3⟩ := h; cases h1; exact h3, rfl, Or.inr ⟨rfl, rfl, rfl⟩⟩
theorem fp_M_init_105 : FP m_M_init 105 12 50 (.array .int) := ⟨_, _, _, rfl, by decide, fl_M_105.elim fun _ h => by obtain ⟨T, N, h1, h2, h3⟩ := h; cases h1; exact h3, rfl, Or.inr ⟨rfl, rfl, rfl⟩⟩
theorem fp_M_init_108 : FP m_M_init 108 12 52 (.array .int) := ⟨_, _, _, rfl, by decide, fl_M_108.elim fun _ h => by obtain ⟨T, N, h1, h2, h3⟩ := h; cases h1; exact h3, rfl, Or.inr ⟨rfl, rfl, rfl⟩⟩
theorem fp_M_init_111 : FP m_M_init 111 12 53 (.array .int) := ⟨_, _, _, rfl, by decide, fl_M_111.elim fun _ h => by obtain ⟨T, N, h1, h2, h3⟩ := h; cases h1; exact h3, rfl, Or.inr ⟨rfl, rfl, rfl⟩⟩
theorem fp_M_init_114 : FP m_M_init 114 12 54 (.array .int) := ⟨_, _, _, rfl, by decide, fl_M_114.elim fun _ h => by obtain ⟨T, N, h1, h2, h3⟩ := h; cases h1; exact h3, rfl, Or.inr ⟨rfl, rfl, rfl⟩⟩
theorem fp_M_init_117 : FP m_M_init 117 12 55 (.array .long) := ⟨_, _, _, rfl, by decide, fl_M_117.elim fun _ h => by obtain ⟨T, N, h1, h2, h3⟩ := h; cases h1; exact h3, rfl, Or.inr ⟨rfl, rfl, rfl⟩⟩
theorem fp_M_init_121 : FP m_M_init 121 12 56 (.array .long) := ⟨_, _, _, rfl, by decide, fl_M_121.elim fun _ h => by obtain ⟨T, N, h1, h2, h3⟩ := h; cases h1; exact h3, rfl, Or.inr ⟨rfl, rfl, rfl⟩⟩
theorem lk_M_guest_135 : LKS m_M_guest 135 m_M_isRoom 1 := ⟨ok_M_isRoom, gw_t 1287 (by decide +kernel) rfl, gw_t 1288 (by decide +kernel) rfl⟩
theorem lk_M_guest_131 : LKS m_M_guest 131 m_M_within 3 := ⟨ok_M_within, gw_t 1290 (by decide +kernel) rfl, gw_t 1291 (by decide +kernel) rfl⟩
theorem lk_M_guest_139 : LKV m_M_guest 139 m_M_addGuest 12 4 := ⟨ok_M_addGuest, gw_t 1293 (by decide +kernel) rfl, gw_t 1295 (by decide +kernel) rfl, gw_of (sw 32 (by decide +kernel)) rfl, _, _, rfl⟩
theorem lk_M_isRoom_131 : LKS m_M_isRoom 131 m_M_within 3 := ⟨ok_M_within, gw_t 1290 (by decide +kernel) rfl, gw_t 1291 (by decide +kernel) rfl⟩
theorem fp_M_addGuest_128 : FP m_M_addGuest 128 12 1 (.int) := ⟨_, _, _, rfl, by decide, fl_M_128.elim fun _ h => by obtain ⟨T, N, h1, h2, h3⟩ := h; cases h1; exact h3, rfl, Or.inl rfl⟩
theorem lk_M_guests_143 : LKS m_M_guests 143 m_M_isShelf 1 := ⟨ok_M_isShelf, gw_t 1301 (by decide +kernel) rfl, gw_t 1302 (by decide +kernel) rfl⟩
theorem lk_M_guests_131 : LKS m_M_guests 131 m_M_within 3 := ⟨ok_M_within, gw_t 1290 (by decide +kernel) rfl, gw_t 1291 (by decide +kernel) rfl⟩
theorem lk_M_guests_135 : LKS m_M_guests 135 m_M_isRoom 1 := ⟨ok_M_isRoom, gw_t 1287 (by decide +kernel) rfl, gw_t 1288 (by decide +kernel) rfl⟩
theorem lk_M_guests_139 : LKV m_M_guests 139 m_M_addGuest 12 4 := ⟨ok_M_addGuest, gw_t 1293 (by decide +kernel) rfl, gw_t 1295 (by decide +kernel) rfl, gw_of (sw 32 (by decide +kernel)) rfl, _, _, rfl⟩
theorem lk_M_isShelf_131 : LKS m_M_isShelf 131 m_M_within 3 := ⟨ok_M_within, gw_t 1290 (by decide +kernel) rfl, gw_t 1291 (by decide +kernel) rfl⟩
theorem fp_M_undo_155 : FP m_M_undo 155 12 10 (.int) := ⟨_, _, _, rfl, by decide, fl_M_155.elim fun _ h => by obtain ⟨T, N, h1, h2, h3⟩ := h; cases h1; exact h3, rfl, Or.inl rfl⟩
theorem fp_M_undo_152 : FP m_M_undo 152 12 11 (.int) := ⟨_, _, _, rfl, by decide, fl_M_152.elim fun _ h => by obtain ⟨T, N, h1, h2, h3⟩ := h; cases h1; exact h3, rfl, Or.inl rfl⟩
theorem lk_M_undo_158 : LKV m_M_undo 158 m_M_lays 12 3 := ⟨ok_M_lays, gw_t 1309 (by decide +kernel) rfl, gw_t 1311 (by decide +kernel) rfl, gw_of (sw 33 (by decide +kernel)) rfl, _, _, rfl⟩
theorem lk_M_redo_158 : LKV m_M_redo 158 m_M_lays 12 3 := ⟨ok_M_lays, gw_t 1309 (by decide +kernel) rfl, gw_t 1311 (by decide +kernel) rfl, gw_of (sw 33 (by decide +kernel)) rfl, _, _, rfl⟩
theorem fp_M_redo_155 : FP m_M_redo 155 12 10 (.int) := ⟨_, _, _, rfl, by decide, fl_M_155.elim fun _ h => by obtain ⟨T, N, h1, h2, h3⟩ := h; cases h1; exact h3, rfl, Or.inl rfl⟩
theorem fp_M_redo_152 : FP m_M_redo 152 12 11 (.int) := ⟨_, _, _, rfl, by decide, fl_M_152.elim fun _ h => by obtain ⟨T, N, h1, h2, h3⟩ := h; cases h1; exact h3, rfl, Or.inl rfl⟩
theorem lk_M_mend_165 : LKV m_M_mend 165 m_M_isThing 12 2 := ⟨ok_M_isThing, gw_t 1321 (by decide +kernel) rfl, gw_t 1323 (by decide +kernel) rfl, gw_of (sw 34 (by decide +kernel)) rfl, _, _, rfl⟩
theorem lk_M_mend_169 : LKS m_M_mend 169 m_M_mayBe 2 := ⟨ok_M_mayBe, gw_t 1329 (by decide +kernel) rfl, gw_t 1330 (by decide +kernel) rfl⟩
theorem lk_M_mend_172 : LKV m_M_mend 172 m_M_changes 12 3 := ⟨ok_M_changes, gw_t 1332 (by decide +kernel) rfl, gw_t 1334 (by decide +kernel) rfl, gw_of (sw 36 (by decide +kernel)) rfl, _, _, rfl⟩
theorem lk_M_isThing_131 : LKS m_M_isThing 131 m_M_within 3 := ⟨ok_M_within, gw_t 1290 (by decide +kernel) rfl, gw_t 1291 (by decide +kernel) rfl⟩
theorem lk_M_isThing_162 : LKV m_M_isThing 162 m_M_isGuest 12 1 := ⟨ok_M_isGuest, gw_t 1325 (by decide +kernel) rfl, gw_t 1327 (by decide +kernel) rfl, gw_of (sw 35 (by decide +kernel)) rfl, _, _, rfl⟩
theorem lk_M_isGuest_131 : LKS m_M_isGuest 131 m_M_within 3 := ⟨ok_M_within, gw_t 1290 (by decide +kernel) rfl, gw_t 1291 (by decide +kernel) rfl⟩
theorem lk_M_mayBe_135 : LKS m_M_mayBe 135 m_M_isRoom 1 := ⟨ok_M_isRoom, gw_t 1287 (by decide +kernel) rfl, gw_t 1288 (by decide +kernel) rfl⟩
theorem lk_M_mayBe_131 : LKS m_M_mayBe 131 m_M_within 3 := ⟨ok_M_within, gw_t 1290 (by decide +kernel) rfl, gw_t 1291 (by decide +kernel) rfl⟩
theorem lk_M_changes_148 : LKV m_M_changes 148 m_M_valueAt 12 2 := ⟨ok_M_valueAt, gw_t 1336 (by decide +kernel) rfl, gw_t 1338 (by decide +kernel) rfl, gw_of (sw 37 (by decide +kernel)) rfl, _, _, rfl⟩
theorem fp_M_changes_152 : FP m_M_changes 152 12 11 (.int) := ⟨_, _, _, rfl, by decide, fl_M_152.elim fun _ h => by obtain ⟨T, N, h1, h2, h3⟩ := h; cases h1; exact h3, rfl, Or.inl rfl⟩
theorem fp_M_changes_155 : FP m_M_changes 155 12 10 (.int) := ⟨_, _, _, rfl, by decide, fl_M_155.elim fun _ h => by obtain ⟨T, N, h1, h2, h3⟩ := h; cases h1; exact h3, rfl, Or.inl rfl⟩
theorem lk_M_changes_158 : LKV m_M_changes 158 m_M_lays 12 3 := ⟨ok_M_lays, gw_t 1309 (by decide +kernel) rfl, gw_t 1311 (by decide +kernel) rfl, gw_of (sw 33 (by decide +kernel)) rfl, _, _, rfl⟩
theorem lk_M_of_165 : LKV m_M_of 165 m_M_isThing 12 2 := ⟨ok_M_isThing, gw_t 1321 (by decide +kernel) rfl, gw_t 1323 (by decide +kernel) rfl, gw_of (sw 34 (by decide +kernel)) rfl, _, _, rfl⟩
theorem lk_M_of_148 : LKV m_M_of 148 m_M_valueAt 12 2 := ⟨ok_M_valueAt, gw_t 1336 (by decide +kernel) rfl, gw_t 1338 (by decide +kernel) rfl, gw_of (sw 37 (by decide +kernel)) rfl, _, _, rfl⟩
theorem lk_M_at_162 : LKV m_M_at 162 m_M_isGuest 12 1 := ⟨ok_M_isGuest, gw_t 1325 (by decide +kernel) rfl, gw_t 1327 (by decide +kernel) rfl, gw_of (sw 35 (by decide +kernel)) rfl, _, _, rfl⟩
theorem lk_M_at_131 : LKS m_M_at 131 m_M_within 3 := ⟨ok_M_within, gw_t 1290 (by decide +kernel) rfl, gw_t 1291 (by decide +kernel) rfl⟩
theorem lk_M_at_176 : LKV m_M_at 176 m_M_roomOf 12 2 := ⟨ok_M_roomOf, gw_t 1348 (by decide +kernel) rfl, gw_t 1350 (by decide +kernel) rfl, gw_of (sw 38 (by decide +kernel)) rfl, _, _, rfl⟩
theorem lk_M_in_135 : LKS m_M_in 135 m_M_isRoom 1 := ⟨ok_M_isRoom, gw_t 1287 (by decide +kernel) rfl, gw_t 1288 (by decide +kernel) rfl⟩
theorem lk_M_in_131 : LKS m_M_in 131 m_M_within 3 := ⟨ok_M_within, gw_t 1290 (by decide +kernel) rfl, gw_t 1291 (by decide +kernel) rfl⟩
theorem lk_M_in_179 : LKV m_M_in 179 m_M_thereIn 12 2 := ⟨ok_M_thereIn, gw_t 1356 (by decide +kernel) rfl, gw_t 1358 (by decide +kernel) rfl, gw_of (sw 39 (by decide +kernel)) rfl, _, _, rfl⟩
theorem lk_M_thereIn_176 : LKV m_M_thereIn 176 m_M_roomOf 12 2 := ⟨ok_M_roomOf, gw_t 1348 (by decide +kernel) rfl, gw_t 1350 (by decide +kernel) rfl, gw_of (sw 38 (by decide +kernel)) rfl, _, _, rfl⟩
theorem lk_M_feed_131 : LKS m_M_feed 131 m_M_within 3 := ⟨ok_M_within, gw_t 1290 (by decide +kernel) rfl, gw_t 1291 (by decide +kernel) rfl⟩
theorem fp_M_feed_182 : FP m_M_feed 182 12 17 (.int) := ⟨_, _, _, rfl, by decide, fl_M_182.elim fun _ h => by obtain ⟨T, N, h1, h2, h3⟩ := h; cases h1; exact h3, rfl, Or.inl rfl⟩
theorem lk_M_law_246 : LKV m_M_law 246 m_M_readText 12 1 := ⟨ok_M_readText, gw_t 1368 (by decide +kernel) rfl, gw_t 1370 (by decide +kernel) rfl, gw_of (sw 40 (by decide +kernel)) rfl, _, _, rfl⟩
theorem fp_M_law_249 : FP m_M_law 249 12 29 (.boolean) := ⟨_, _, _, rfl, by decide, fl_M_249.elim fun _ h => by obtain ⟨T, N, h1, h2, h3⟩ := h; cases h1; exact h3, rfl, Or.inl rfl⟩
theorem fp_M_readText_185 : FP m_M_readText 185 12 18 (.int) := ⟨_, _, _, rfl, by decide, fl_M_185.elim fun _ h => by obtain ⟨T, N, h1, h2, h3⟩ := h; cases h1; exact h3, rfl, Or.inl rfl⟩
theorem fp_M_readText_188 : FP m_M_readText 188 12 19 (.int) := ⟨_, _, _, rfl, by decide, fl_M_188.elim fun _ h => by obtain ⟨T, N, h1, h2, h3⟩ := h; cases h1; exact h3, rfl, Or.inl rfl⟩
theorem fp_M_readText_194 : FP m_M_readText 194 12 20 (.int) := ⟨_, _, _, rfl, by decide, fl_M_194.elim fun _ h => by obtain ⟨T, N, h1, h2, h3⟩ := h; cases h1; exact h3, rfl, Or.inl rfl⟩
theorem fp_M_readText_191 : FP m_M_readText 191 12 21 (.int) := ⟨_, _, _, rfl, by decide, fl_M_191.elim fun _ h => by obtain ⟨T, N, h1, h2, h3⟩ := h; cases h1; exact h3, rfl, Or.inl rfl⟩
theorem lk_M_readText_237 : LKV m_M_readText 237 m_M_line 12 0 := ⟨ok_M_line, gw_t 1372 (by decide +kernel) rfl, gw_t 1374 (by decide +kernel) rfl, gw_of (sw 41 (by decide +kernel)) rfl, _, _, rfl⟩
theorem lk_M_readText_200 : LKV m_M_readText 200 m_M_look 12 0 := ⟨ok_M_look, gw_t 1400 (by decide +kernel) rfl, gw_t 1402 (by decide +kernel) rfl, gw_of (sw 48 (by decide +kernel)) rfl, _, _, rfl⟩
theorem lk_M_readText_197 : LKV m_M_readText 197 m_M_faulty 12 0 := ⟨ok_M_faulty, gw_t 1415 (by decide +kernel) rfl, gw_t 1417 (by decide +kernel) rfl, gw_of (sw 51 (by decide +kernel)) rfl, _, _, rfl⟩
theorem fp_M_readText_182 : FP m_M_readText 182 12 17 (.int) := ⟨_, _, _, rfl, by decide, fl_M_182.elim fun _ h => by obtain ⟨T, N, h1, h2, h3⟩ := h; cases h1; exact h3, rfl, Or.inl rfl⟩
theorem lk_M_line_219 : LKV m_M_line 219 m_M_either 12 0 := ⟨ok_M_either, gw_t 1376 (by decide +kernel) rfl, gw_t 1378 (by decide +kernel) rfl, gw_of (sw 42 (by decide +kernel)) rfl, _, _, rfl⟩
theorem lk_M_line_200 : LKV m_M_line 200 m_M_look 12 0 := ⟨ok_M_look, gw_t 1400 (by decide +kernel) rfl, gw_t 1402 (by decide +kernel) rfl, gw_of (sw 48 (by decide +kernel)) rfl, _, _, rfl⟩
theorem fp_M_line_185 : FP m_M_line 185 12 18 (.int) := ⟨_, _, _, rfl, by decide, fl_M_185.elim fun _ h => by obtain ⟨T, N, h1, h2, h3⟩ := h; cases h1; exact h3, rfl, Or.inl rfl⟩
theorem lk_M_either_234 : LKV m_M_either 234 m_M_both 12 0 := ⟨ok_M_both, gw_t 1380 (by decide +kernel) rfl, gw_t 1382 (by decide +kernel) rfl, gw_of (sw 43 (by decide +kernel)) rfl, _, _, rfl⟩
theorem lk_M_either_200 : LKV m_M_either 200 m_M_look 12 0 := ⟨ok_M_look, gw_t 1400 (by decide +kernel) rfl, gw_t 1402 (by decide +kernel) rfl, gw_of (sw 48 (by decide +kernel)) rfl, _, _, rfl⟩
theorem fp_M_either_185 : FP m_M_either 185 12 18 (.int) := ⟨_, _, _, rfl, by decide, fl_M_185.elim fun _ h => by obtain ⟨T, N, h1, h2, h3⟩ := h; cases h1; exact h3, rfl, Or.inl rfl⟩
theorem lk_M_either_204 : LKV m_M_either 204 m_M_addStep 12 2 := ⟨ok_M_addStep, gw_t 1407 (by decide +kernel) rfl, gw_t 1409 (by decide +kernel) rfl, gw_of (sw 49 (by decide +kernel)) rfl, _, _, rfl⟩
theorem lk_M_both_231 : LKV m_M_both 231 m_M_compared 12 0 := ⟨ok_M_compared, gw_t 1384 (by decide +kernel) rfl, gw_t 1386 (by decide +kernel) rfl, gw_of (sw 44 (by decide +kernel)) rfl, _, _, rfl⟩
theorem lk_M_both_200 : LKV m_M_both 200 m_M_look 12 0 := ⟨ok_M_look, gw_t 1400 (by decide +kernel) rfl, gw_t 1402 (by decide +kernel) rfl, gw_of (sw 48 (by decide +kernel)) rfl, _, _, rfl⟩
theorem fp_M_both_185 : FP m_M_both 185 12 18 (.int) := ⟨_, _, _, rfl, by decide, fl_M_185.elim fun _ h => by obtain ⟨T, N, h1, h2, h3⟩ := h; cases h1; exact h3, rfl, Or.inl rfl⟩
theorem lk_M_both_204 : LKV m_M_both 204 m_M_addStep 12 2 := ⟨ok_M_addStep, gw_t 1407 (by decide +kernel) rfl, gw_t 1409 (by decide +kernel) rfl, gw_of (sw 49 (by decide +kernel)) rfl, _, _, rfl⟩
theorem lk_M_compared_228 : LKV m_M_compared 228 m_M_sum 12 0 := ⟨ok_M_sum, gw_t 1388 (by decide +kernel) rfl, gw_t 1390 (by decide +kernel) rfl, gw_of (sw 45 (by decide +kernel)) rfl, _, _, rfl⟩
theorem lk_M_compared_200 : LKV m_M_compared 200 m_M_look 12 0 := ⟨ok_M_look, gw_t 1400 (by decide +kernel) rfl, gw_t 1402 (by decide +kernel) rfl, gw_of (sw 48 (by decide +kernel)) rfl, _, _, rfl⟩
theorem fp_M_compared_185 : FP m_M_compared 185 12 18 (.int) := ⟨_, _, _, rfl, by decide, fl_M_185.elim fun _ h => by obtain ⟨T, N, h1, h2, h3⟩ := h; cases h1; exact h3, rfl, Or.inl rfl⟩
theorem lk_M_compared_204 : LKV m_M_compared 204 m_M_addStep 12 2 := ⟨ok_M_addStep, gw_t 1407 (by decide +kernel) rfl, gw_t 1409 (by decide +kernel) rfl, gw_of (sw 49 (by decide +kernel)) rfl, _, _, rfl⟩
theorem lk_M_sum_225 : LKV m_M_sum 225 m_M_product 12 0 := ⟨ok_M_product, gw_t 1392 (by decide +kernel) rfl, gw_t 1394 (by decide +kernel) rfl, gw_of (sw 46 (by decide +kernel)) rfl, _, _, rfl⟩
theorem lk_M_sum_200 : LKV m_M_sum 200 m_M_look 12 0 := ⟨ok_M_look, gw_t 1400 (by decide +kernel) rfl, gw_t 1402 (by decide +kernel) rfl, gw_of (sw 48 (by decide +kernel)) rfl, _, _, rfl⟩
theorem fp_M_sum_185 : FP m_M_sum 185 12 18 (.int) := ⟨_, _, _, rfl, by decide, fl_M_185.elim fun _ h => by obtain ⟨T, N, h1, h2, h3⟩ := h; cases h1; exact h3, rfl, Or.inl rfl⟩
theorem lk_M_sum_204 : LKV m_M_sum 204 m_M_addStep 12 2 := ⟨ok_M_addStep, gw_t 1407 (by decide +kernel) rfl, gw_t 1409 (by decide +kernel) rfl, gw_of (sw 49 (by decide +kernel)) rfl, _, _, rfl⟩
theorem lk_M_product_216 : LKV m_M_product 216 m_M_operand 12 0 := ⟨ok_M_operand, gw_t 1396 (by decide +kernel) rfl, gw_t 1398 (by decide +kernel) rfl, gw_of (sw 47 (by decide +kernel)) rfl, _, _, rfl⟩
theorem lk_M_product_200 : LKV m_M_product 200 m_M_look 12 0 := ⟨ok_M_look, gw_t 1400 (by decide +kernel) rfl, gw_t 1402 (by decide +kernel) rfl, gw_of (sw 48 (by decide +kernel)) rfl, _, _, rfl⟩
theorem fp_M_product_185 : FP m_M_product 185 12 18 (.int) := ⟨_, _, _, rfl, by decide, fl_M_185.elim fun _ h => by obtain ⟨T, N, h1, h2, h3⟩ := h; cases h1; exact h3, rfl, Or.inl rfl⟩
theorem lk_M_product_204 : LKV m_M_product 204 m_M_addStep 12 2 := ⟨ok_M_addStep, gw_t 1407 (by decide +kernel) rfl, gw_t 1409 (by decide +kernel) rfl, gw_of (sw 49 (by decide +kernel)) rfl, _, _, rfl⟩
theorem lk_M_operand_200 : LKV m_M_operand 200 m_M_look 12 0 := ⟨ok_M_look, gw_t 1400 (by decide +kernel) rfl, gw_t 1402 (by decide +kernel) rfl, gw_of (sw 48 (by decide +kernel)) rfl, _, _, rfl⟩
theorem lk_M_operand_208 : LKS m_M_operand 208 m_M_nameOf 1 := ⟨ok_M_nameOf, gw_t 1404 (by decide +kernel) rfl, gw_t 1405 (by decide +kernel) rfl⟩
theorem lk_M_operand_204 : LKV m_M_operand 204 m_M_addStep 12 2 := ⟨ok_M_addStep, gw_t 1407 (by decide +kernel) rfl, gw_t 1409 (by decide +kernel) rfl, gw_of (sw 49 (by decide +kernel)) rfl, _, _, rfl⟩
theorem fp_M_operand_185 : FP m_M_operand 185 12 18 (.int) := ⟨_, _, _, rfl, by decide, fl_M_185.elim fun _ h => by obtain ⟨T, N, h1, h2, h3⟩ := h; cases h1; exact h3, rfl, Or.inl rfl⟩
theorem lk_M_operand_212 : LKV m_M_operand 212 m_M_opens 12 0 := ⟨ok_M_opens, gw_t 1411 (by decide +kernel) rfl, gw_t 1413 (by decide +kernel) rfl, gw_of (sw 50 (by decide +kernel)) rfl, _, _, rfl⟩
theorem lk_M_operand_216 : LKV m_M_operand 216 m_M_operand 12 0 := ⟨ok_M_operand, gw_t 1396 (by decide +kernel) rfl, gw_t 1398 (by decide +kernel) rfl, gw_of (sw 47 (by decide +kernel)) rfl, _, _, rfl⟩
theorem fp_M_operand_194 : FP m_M_operand 194 12 20 (.int) := ⟨_, _, _, rfl, by decide, fl_M_194.elim fun _ h => by obtain ⟨T, N, h1, h2, h3⟩ := h; cases h1; exact h3, rfl, Or.inl rfl⟩
theorem lk_M_operand_219 : LKV m_M_operand 219 m_M_either 12 0 := ⟨ok_M_either, gw_t 1376 (by decide +kernel) rfl, gw_t 1378 (by decide +kernel) rfl, gw_of (sw 42 (by decide +kernel)) rfl, _, _, rfl⟩
theorem lk_M_operand_197 : LKV m_M_operand 197 m_M_faulty 12 0 := ⟨ok_M_faulty, gw_t 1415 (by decide +kernel) rfl, gw_t 1417 (by decide +kernel) rfl, gw_of (sw 51 (by decide +kernel)) rfl, _, _, rfl⟩
theorem lk_M_operand_222 : LKV m_M_operand 222 m_M_figure 12 0 := ⟨ok_M_figure, gw_t 1419 (by decide +kernel) rfl, gw_t 1421 (by decide +kernel) rfl, gw_of (sw 52 (by decide +kernel)) rfl, _, _, rfl⟩
theorem fp_M_addStep_191 : FP m_M_addStep 191 12 21 (.int) := ⟨_, _, _, rfl, by decide, fl_M_191.elim fun _ h => by obtain ⟨T, N, h1, h2, h3⟩ := h; cases h1; exact h3, rfl, Or.inl rfl⟩
theorem lk_M_opens_197 : LKV m_M_opens 197 m_M_faulty 12 0 := ⟨ok_M_faulty, gw_t 1415 (by decide +kernel) rfl, gw_t 1417 (by decide +kernel) rfl, gw_of (sw 51 (by decide +kernel)) rfl, _, _, rfl⟩
theorem fp_M_opens_194 : FP m_M_opens 194 12 20 (.int) := ⟨_, _, _, rfl, by decide, fl_M_194.elim fun _ h => by obtain ⟨T, N, h1, h2, h3⟩ := h; cases h1; exact h3, rfl, Or.inl rfl⟩
theorem fp_M_opens_185 : FP m_M_opens 185 12 18 (.int) := ⟨_, _, _, rfl, by decide, fl_M_185.elim fun _ h => by obtain ⟨T, N, h1, h2, h3⟩ := h; cases h1; exact h3, rfl, Or.inl rfl⟩
theorem fp_M_faulty_188 : FP m_M_faulty 188 12 19 (.int) := ⟨_, _, _, rfl, by decide, fl_M_188.elim fun _ h => by obtain ⟨T, N, h1, h2, h3⟩ := h; cases h1; exact h3, rfl, Or.inl rfl⟩
theorem lk_M_figure_200 : LKV m_M_figure 200 m_M_look 12 0 := ⟨ok_M_look, gw_t 1400 (by decide +kernel) rfl, gw_t 1402 (by decide +kernel) rfl, gw_of (sw 48 (by decide +kernel)) rfl, _, _, rfl⟩
theorem lk_M_figure_131 : LKS m_M_figure 131 m_M_within 3 := ⟨ok_M_within, gw_t 1290 (by decide +kernel) rfl, gw_t 1291 (by decide +kernel) rfl⟩
theorem fp_M_figure_185 : FP m_M_figure 185 12 18 (.int) := ⟨_, _, _, rfl, by decide, fl_M_185.elim fun _ h => by obtain ⟨T, N, h1, h2, h3⟩ := h; cases h1; exact h3, rfl, Or.inl rfl⟩
theorem lk_M_figure_197 : LKV m_M_figure 197 m_M_faulty 12 0 := ⟨ok_M_faulty, gw_t 1415 (by decide +kernel) rfl, gw_t 1417 (by decide +kernel) rfl, gw_of (sw 51 (by decide +kernel)) rfl, _, _, rfl⟩
theorem lk_M_figure_204 : LKV m_M_figure 204 m_M_addStep 12 2 := ⟨ok_M_addStep, gw_t 1407 (by decide +kernel) rfl, gw_t 1409 (by decide +kernel) rfl, gw_of (sw 49 (by decide +kernel)) rfl, _, _, rfl⟩
theorem lk_M_round_143 : LKS m_M_round 143 m_M_isShelf 1 := ⟨ok_M_isShelf, gw_t 1301 (by decide +kernel) rfl, gw_t 1302 (by decide +kernel) rfl⟩
theorem lk_M_round_283 : LKS m_M_round 283 m_M_isTime 1 := ⟨ok_M_isTime, gw_t 1427 (by decide +kernel) rfl, gw_t 1428 (by decide +kernel) rfl⟩
theorem lk_M_round_131 : LKS m_M_round 131 m_M_within 3 := ⟨ok_M_within, gw_t 1290 (by decide +kernel) rfl, gw_t 1291 (by decide +kernel) rfl⟩
theorem lk_M_round_286 : LKV m_M_round 286 m_M_rowFault 12 1 := ⟨ok_M_rowFault, gw_t 1430 (by decide +kernel) rfl, gw_t 1432 (by decide +kernel) rfl, gw_of (sw 53 (by decide +kernel)) rfl, _, _, rfl⟩
theorem lk_M_round_289 : LKV m_M_round 289 m_M_begin 12 2 := ⟨ok_M_begin, gw_t 1434 (by decide +kernel) rfl, gw_t 1436 (by decide +kernel) rfl, gw_of (sw 54 (by decide +kernel)) rfl, _, _, rfl⟩
theorem lk_M_round_292 : LKV m_M_round 292 m_M_byteAt 12 2 := ⟨ok_M_byteAt, gw_t 1438 (by decide +kernel) rfl, gw_t 1440 (by decide +kernel) rfl, gw_of (sw 55 (by decide +kernel)) rfl, _, _, rfl⟩
theorem lk_M_round_135 : LKS m_M_round 135 m_M_isRoom 1 := ⟨ok_M_isRoom, gw_t 1287 (by decide +kernel) rfl, gw_t 1288 (by decide +kernel) rfl⟩
theorem lk_M_round_295 : LKV m_M_round 295 m_M_goTo 12 1 := ⟨ok_M_goTo, gw_t 1442 (by decide +kernel) rfl, gw_t 1444 (by decide +kernel) rfl, gw_of (sw 56 (by decide +kernel)) rfl, _, _, rfl⟩
theorem lk_M_round_299 : LKV m_M_round 299 m_M_home 12 0 := ⟨ok_M_home, gw_t 1480 (by decide +kernel) rfl, gw_t 1482 (by decide +kernel) rfl, gw_of (sw 64 (by decide +kernel)) rfl, _, _, rfl⟩
theorem lk_M_round_253 : LKV m_M_round 253 m_M_allMust 12 0 := ⟨ok_M_allMust, gw_t 1454 (by decide +kernel) rfl, gw_t 1456 (by decide +kernel) rfl, gw_of (sw 59 (by decide +kernel)) rfl, _, _, rfl⟩
theorem lk_M_isTime_135 : LKS m_M_isTime 135 m_M_isRoom 1 := ⟨ok_M_isRoom, gw_t 1287 (by decide +kernel) rfl, gw_t 1288 (by decide +kernel) rfl⟩
theorem fp_M_begin_265 : FP m_M_begin 265 12 30 (.int) := ⟨_, _, _, rfl, by decide, fl_M_265.elim fun _ h => by obtain ⟨T, N, h1, h2, h3⟩ := h; cases h1; exact h3, rfl, Or.inl rfl⟩
theorem fp_M_begin_268 : FP m_M_begin 268 12 31 (.int) := ⟨_, _, _, rfl, by decide, fl_M_268.elim fun _ h => by obtain ⟨T, N, h1, h2, h3⟩ := h; cases h1; exact h3, rfl, Or.inl rfl⟩
theorem fp_M_begin_271 : FP m_M_begin 271 12 32 (.int) := ⟨_, _, _, rfl, by decide, fl_M_271.elim fun _ h => by obtain ⟨T, N, h1, h2, h3⟩ := h; cases h1; exact h3, rfl, Or.inl rfl⟩
theorem lk_M_goTo_274 : LKV m_M_goTo 274 m_M_wayOf 12 2 := ⟨ok_M_wayOf, gw_t 1446 (by decide +kernel) rfl, gw_t 1448 (by decide +kernel) rfl, gw_of (sw 57 (by decide +kernel)) rfl, _, _, rfl⟩
theorem fp_M_goTo_268 : FP m_M_goTo 268 12 31 (.int) := ⟨_, _, _, rfl, by decide, fl_M_268.elim fun _ h => by obtain ⟨T, N, h1, h2, h3⟩ := h; cases h1; exact h3, rfl, Or.inl rfl⟩
theorem fp_M_goTo_265 : FP m_M_goTo 265 12 30 (.int) := ⟨_, _, _, rfl, by decide, fl_M_265.elim fun _ h => by obtain ⟨T, N, h1, h2, h3⟩ := h; cases h1; exact h3, rfl, Or.inl rfl⟩
theorem lk_M_goTo_277 : LKV m_M_goTo 277 m_M_tells1 12 3 := ⟨ok_M_tells1, gw_t 1450 (by decide +kernel) rfl, gw_t 1452 (by decide +kernel) rfl, gw_of (sw 58 (by decide +kernel)) rfl, _, _, rfl⟩
theorem lk_M_goTo_280 : LKV m_M_goTo 280 m_M_takes1 12 3 := ⟨ok_M_takes1, gw_t 1462 (by decide +kernel) rfl, gw_t 1464 (by decide +kernel) rfl, gw_of (sw 61 (by decide +kernel)) rfl, _, _, rfl⟩
theorem fp_M_goTo_271 : FP m_M_goTo 271 12 32 (.int) := ⟨_, _, _, rfl, by decide, fl_M_271.elim fun _ h => by obtain ⟨T, N, h1, h2, h3⟩ := h; cases h1; exact h3, rfl, Or.inl rfl⟩
theorem lk_M_tells1_179 : LKV m_M_tells1 179 m_M_thereIn 12 2 := ⟨ok_M_thereIn, gw_t 1356 (by decide +kernel) rfl, gw_t 1358 (by decide +kernel) rfl, gw_of (sw 39 (by decide +kernel)) rfl, _, _, rfl⟩
theorem lk_M_tells1_253 : LKV m_M_tells1 253 m_M_allMust 12 0 := ⟨ok_M_allMust, gw_t 1454 (by decide +kernel) rfl, gw_t 1456 (by decide +kernel) rfl, gw_of (sw 59 (by decide +kernel)) rfl, _, _, rfl⟩
theorem lk_M_tells1_256 : LKV m_M_tells1 256 m_M_hosts 12 0 := ⟨ok_M_hosts, gw_t 1458 (by decide +kernel) rfl, gw_t 1460 (by decide +kernel) rfl, gw_of (sw 60 (by decide +kernel)) rfl, _, _, rfl⟩
theorem lk_M_takes1_259 : LKS m_M_takes1 259 m_M_bitsOf 1 := ⟨ok_M_bitsOf, gw_t 1466 (by decide +kernel) rfl, gw_t 1467 (by decide +kernel) rfl⟩
theorem lk_M_takes1_179 : LKV m_M_takes1 179 m_M_thereIn 12 2 := ⟨ok_M_thereIn, gw_t 1356 (by decide +kernel) rfl, gw_t 1358 (by decide +kernel) rfl, gw_of (sw 39 (by decide +kernel)) rfl, _, _, rfl⟩
theorem lk_M_takes1_256 : LKV m_M_takes1 256 m_M_hosts 12 0 := ⟨ok_M_hosts, gw_t 1458 (by decide +kernel) rfl, gw_t 1460 (by decide +kernel) rfl, gw_of (sw 60 (by decide +kernel)) rfl, _, _, rfl⟩
theorem lk_M_takes1_262 : LKV m_M_takes1 262 m_M_gives 12 1 := ⟨ok_M_gives, gw_t 1469 (by decide +kernel) rfl, gw_t 1471 (by decide +kernel) rfl, gw_of (sw 62 (by decide +kernel)) rfl, _, _, rfl⟩
theorem lk_M_gives_243 : LKV m_M_gives 243 m_M_worked 12 3 := ⟨ok_M_worked, gw_t 1473 (by decide +kernel) rfl, gw_t 1475 (by decide +kernel) rfl, gw_of (sw 63 (by decide +kernel)) rfl, _, _, rfl⟩
theorem lk_M_worked_240 : LKS m_M_worked 240 m_M_twoOf 3 := ⟨ok_M_twoOf, gw_t 1477 (by decide +kernel) rfl, gw_t 1478 (by decide +kernel) rfl⟩
theorem lk_M_home_274 : LKV m_M_home 274 m_M_wayOf 12 2 := ⟨ok_M_wayOf, gw_t 1446 (by decide +kernel) rfl, gw_t 1448 (by decide +kernel) rfl, gw_of (sw 57 (by decide +kernel)) rfl, _, _, rfl⟩
theorem lk_M_soonest_283 : LKS m_M_soonest 283 m_M_isTime 1 := ⟨ok_M_isTime, gw_t 1427 (by decide +kernel) rfl, gw_t 1428 (by decide +kernel) rfl⟩
theorem lk_M_soonest_315 : LKV m_M_soonest 315 m_M_soonestFrom 12 2 := ⟨ok_M_soonestFrom, gw_t 1488 (by decide +kernel) rfl, gw_t 1490 (by decide +kernel) rfl, gw_of (sw 65 (by decide +kernel)) rfl, _, _, rfl⟩
theorem lk_M_soonestFrom_289 : LKV m_M_soonestFrom 289 m_M_begin 12 2 := ⟨ok_M_begin, gw_t 1434 (by decide +kernel) rfl, gw_t 1436 (by decide +kernel) rfl, gw_of (sw 54 (by decide +kernel)) rfl, _, _, rfl⟩
theorem fp_M_soonestFrom_302 : FP m_M_soonestFrom 302 12 36 (.int) := ⟨_, _, _, rfl, by decide, fl_M_302.elim fun _ h => by obtain ⟨T, N, h1, h2, h3⟩ := h; cases h1; exact h3, rfl, Or.inl rfl⟩
theorem fp_M_soonestFrom_308 : FP m_M_soonestFrom 308 12 35 (.int) := ⟨_, _, _, rfl, by decide, fl_M_308.elim fun _ h => by obtain ⟨T, N, h1, h2, h3⟩ := h; cases h1; exact h3, rfl, Or.inl rfl⟩
theorem lk_M_soonestFrom_311 : LKV m_M_soonestFrom 311 m_M_goRows 12 1 := ⟨ok_M_goRows, gw_t 1493 (by decide +kernel) rfl, gw_t 1495 (by decide +kernel) rfl, gw_of (sw 66 (by decide +kernel)) rfl, _, _, rfl⟩
theorem lk_M_goRows_299 : LKV m_M_goRows 299 m_M_home 12 0 := ⟨ok_M_home, gw_t 1480 (by decide +kernel) rfl, gw_t 1482 (by decide +kernel) rfl, gw_of (sw 64 (by decide +kernel)) rfl, _, _, rfl⟩
theorem lk_M_goRows_305 : LKV m_M_goRows 305 m_M_isDone 12 0 := ⟨ok_M_isDone, gw_t 1497 (by decide +kernel) rfl, gw_t 1499 (by decide +kernel) rfl, gw_of (sw 67 (by decide +kernel)) rfl, _, _, rfl⟩
theorem fp_M_goRows_302 : FP m_M_goRows 302 12 36 (.int) := ⟨_, _, _, rfl, by decide, fl_M_302.elim fun _ h => by obtain ⟨T, N, h1, h2, h3⟩ := h; cases h1; exact h3, rfl, Or.inl rfl⟩
theorem fp_M_goRows_308 : FP m_M_goRows 308 12 35 (.int) := ⟨_, _, _, rfl, by decide, fl_M_308.elim fun _ h => by obtain ⟨T, N, h1, h2, h3⟩ := h; cases h1; exact h3, rfl, Or.inl rfl⟩
theorem lk_M_goRows_295 : LKV m_M_goRows 295 m_M_goTo 12 1 := ⟨ok_M_goTo, gw_t 1442 (by decide +kernel) rfl, gw_t 1444 (by decide +kernel) rfl, gw_of (sw 56 (by decide +kernel)) rfl, _, _, rfl⟩
theorem lk_M_goRows_311 : LKV m_M_goRows 311 m_M_goRows 12 1 := ⟨ok_M_goRows, gw_t 1493 (by decide +kernel) rfl, gw_t 1495 (by decide +kernel) rfl, gw_of (sw 66 (by decide +kernel)) rfl, _, _, rfl⟩
theorem fp_M_goRows_265 : FP m_M_goRows 265 12 30 (.int) := ⟨_, _, _, rfl, by decide, fl_M_265.elim fun _ h => by obtain ⟨T, N, h1, h2, h3⟩ := h; cases h1; exact h3, rfl, Or.inl rfl⟩
theorem fp_M_goRows_268 : FP m_M_goRows 268 12 31 (.int) := ⟨_, _, _, rfl, by decide, fl_M_268.elim fun _ h => by obtain ⟨T, N, h1, h2, h3⟩ := h; cases h1; exact h3, rfl, Or.inl rfl⟩
theorem fp_M_goRows_271 : FP m_M_goRows 271 12 32 (.int) := ⟨_, _, _, rfl, by decide, fl_M_271.elim fun _ h => by obtain ⟨T, N, h1, h2, h3⟩ := h; cases h1; exact h3, rfl, Or.inl rfl⟩
theorem lk_M_isDone_253 : LKV m_M_isDone 253 m_M_allMust 12 0 := ⟨ok_M_allMust, gw_t 1454 (by decide +kernel) rfl, gw_t 1456 (by decide +kernel) rfl, gw_of (sw 59 (by decide +kernel)) rfl, _, _, rfl⟩
theorem lk_M_beginBy_135 : LKS m_M_beginBy 135 m_M_isRoom 1 := ⟨ok_M_isRoom, gw_t 1287 (by decide +kernel) rfl, gw_t 1288 (by decide +kernel) rfl⟩
theorem lk_M_beginBy_131 : LKS m_M_beginBy 131 m_M_within 3 := ⟨ok_M_within, gw_t 1290 (by decide +kernel) rfl, gw_t 1291 (by decide +kernel) rfl⟩
theorem lk_M_beginBy_274 : LKV m_M_beginBy 274 m_M_wayOf 12 2 := ⟨ok_M_wayOf, gw_t 1446 (by decide +kernel) rfl, gw_t 1448 (by decide +kernel) rfl, gw_of (sw 57 (by decide +kernel)) rfl, _, _, rfl⟩
theorem lk_M_beginBy_315 : LKV m_M_beginBy 315 m_M_soonestFrom 12 2 := ⟨ok_M_soonestFrom, gw_t 1488 (by decide +kernel) rfl, gw_t 1490 (by decide +kernel) rfl, gw_of (sw 65 (by decide +kernel)) rfl, _, _, rfl⟩
theorem lk_M_slip_283 : LKS m_M_slip 283 m_M_isTime 1 := ⟨ok_M_isTime, gw_t 1427 (by decide +kernel) rfl, gw_t 1428 (by decide +kernel) rfl⟩
theorem lk_M_slip_131 : LKS m_M_slip 131 m_M_within 3 := ⟨ok_M_within, gw_t 1290 (by decide +kernel) rfl, gw_t 1291 (by decide +kernel) rfl⟩
theorem lk_M_slip_318 : LKV m_M_slip 318 m_M_notices 12 2 := ⟨ok_M_notices, gw_t 1509 (by decide +kernel) rfl, gw_t 1511 (by decide +kernel) rfl, gw_of (sw 68 (by decide +kernel)) rfl, _, _, rfl⟩
theorem lk_M_slip_259 : LKS m_M_slip 259 m_M_bitsOf 1 := ⟨ok_M_bitsOf, gw_t 1466 (by decide +kernel) rfl, gw_t 1467 (by decide +kernel) rfl⟩
theorem lk_M_notices_179 : LKV m_M_notices 179 m_M_thereIn 12 2 := ⟨ok_M_thereIn, gw_t 1356 (by decide +kernel) rfl, gw_t 1358 (by decide +kernel) rfl, gw_of (sw 39 (by decide +kernel)) rfl, _, _, rfl⟩
theorem lk_M_pair_143 : LKS m_M_pair 143 m_M_isShelf 1 := ⟨ok_M_isShelf, gw_t 1301 (by decide +kernel) rfl, gw_t 1302 (by decide +kernel) rfl⟩
theorem lk_M_pair_135 : LKS m_M_pair 135 m_M_isRoom 1 := ⟨ok_M_isRoom, gw_t 1287 (by decide +kernel) rfl, gw_t 1288 (by decide +kernel) rfl⟩
theorem lk_M_pair_131 : LKS m_M_pair 131 m_M_within 3 := ⟨ok_M_within, gw_t 1290 (by decide +kernel) rfl, gw_t 1291 (by decide +kernel) rfl⟩
theorem lk_M_pair_286 : LKV m_M_pair 286 m_M_rowFault 12 1 := ⟨ok_M_rowFault, gw_t 1430 (by decide +kernel) rfl, gw_t 1432 (by decide +kernel) rfl, gw_of (sw 53 (by decide +kernel)) rfl, _, _, rfl⟩
theorem lk_M_pair_321 : LKV m_M_pair 321 m_M_hasMore 12 2 := ⟨ok_M_hasMore, gw_t 1517 (by decide +kernel) rfl, gw_t 1519 (by decide +kernel) rfl, gw_of (sw 69 (by decide +kernel)) rfl, _, _, rfl⟩
theorem lk_M_pair_324 : LKV m_M_pair 324 m_M_startOf 12 2 := ⟨ok_M_startOf, gw_t 1521 (by decide +kernel) rfl, gw_t 1523 (by decide +kernel) rfl, gw_of (sw 70 (by decide +kernel)) rfl, _, _, rfl⟩
theorem lk_M_pair_330 : LKV m_M_pair 330 m_M_goPair 12 2 := ⟨ok_M_goPair, gw_t 1525 (by decide +kernel) rfl, gw_t 1527 (by decide +kernel) rfl, gw_of (sw 71 (by decide +kernel)) rfl, _, _, rfl⟩
theorem lk_M_pair_274 : LKV m_M_pair 274 m_M_wayOf 12 2 := ⟨ok_M_wayOf, gw_t 1446 (by decide +kernel) rfl, gw_t 1448 (by decide +kernel) rfl, gw_of (sw 57 (by decide +kernel)) rfl, _, _, rfl⟩
theorem lk_M_pair_253 : LKV m_M_pair 253 m_M_allMust 12 0 := ⟨ok_M_allMust, gw_t 1454 (by decide +kernel) rfl, gw_t 1456 (by decide +kernel) rfl, gw_of (sw 59 (by decide +kernel)) rfl, _, _, rfl⟩
theorem lk_M_pair_327 : LKV m_M_pair 327 m_M_knownTo 12 2 := ⟨ok_M_knownTo, gw_t 1529 (by decide +kernel) rfl, gw_t 1531 (by decide +kernel) rfl, gw_of (sw 72 (by decide +kernel)) rfl, _, _, rfl⟩
theorem lk_M_hasMore_292 : LKV m_M_hasMore 292 m_M_byteAt 12 2 := ⟨ok_M_byteAt, gw_t 1438 (by decide +kernel) rfl, gw_t 1440 (by decide +kernel) rfl, gw_of (sw 55 (by decide +kernel)) rfl, _, _, rfl⟩
theorem lk_M_hasMore_135 : LKS m_M_hasMore 135 m_M_isRoom 1 := ⟨ok_M_isRoom, gw_t 1287 (by decide +kernel) rfl, gw_t 1288 (by decide +kernel) rfl⟩
theorem lk_M_startOf_321 : LKV m_M_startOf 321 m_M_hasMore 12 2 := ⟨ok_M_hasMore, gw_t 1517 (by decide +kernel) rfl, gw_t 1519 (by decide +kernel) rfl, gw_of (sw 69 (by decide +kernel)) rfl, _, _, rfl⟩
theorem lk_M_startOf_292 : LKV m_M_startOf 292 m_M_byteAt 12 2 := ⟨ok_M_byteAt, gw_t 1438 (by decide +kernel) rfl, gw_t 1440 (by decide +kernel) rfl, gw_of (sw 55 (by decide +kernel)) rfl, _, _, rfl⟩
theorem lk_M_startOf_274 : LKV m_M_startOf 274 m_M_wayOf 12 2 := ⟨ok_M_wayOf, gw_t 1446 (by decide +kernel) rfl, gw_t 1448 (by decide +kernel) rfl, gw_of (sw 57 (by decide +kernel)) rfl, _, _, rfl⟩
theorem lk_M_goPair_324 : LKV m_M_goPair 324 m_M_startOf 12 2 := ⟨ok_M_startOf, gw_t 1521 (by decide +kernel) rfl, gw_t 1523 (by decide +kernel) rfl, gw_of (sw 70 (by decide +kernel)) rfl, _, _, rfl⟩
theorem lk_M_goPair_292 : LKV m_M_goPair 292 m_M_byteAt 12 2 := ⟨ok_M_byteAt, gw_t 1438 (by decide +kernel) rfl, gw_t 1440 (by decide +kernel) rfl, gw_of (sw 55 (by decide +kernel)) rfl, _, _, rfl⟩
theorem lk_M_goPair_327 : LKV m_M_goPair 327 m_M_knownTo 12 2 := ⟨ok_M_knownTo, gw_t 1529 (by decide +kernel) rfl, gw_t 1531 (by decide +kernel) rfl, gw_of (sw 72 (by decide +kernel)) rfl, _, _, rfl⟩
theorem lk_M_goPair_277 : LKV m_M_goPair 277 m_M_tells1 12 3 := ⟨ok_M_tells1, gw_t 1450 (by decide +kernel) rfl, gw_t 1452 (by decide +kernel) rfl, gw_of (sw 58 (by decide +kernel)) rfl, _, _, rfl⟩
theorem lk_M_goPair_280 : LKV m_M_goPair 280 m_M_takes1 12 3 := ⟨ok_M_takes1, gw_t 1462 (by decide +kernel) rfl, gw_t 1464 (by decide +kernel) rfl, gw_of (sw 61 (by decide +kernel)) rfl, _, _, rfl⟩
theorem lk_M_coats_143 : LKS m_M_coats 143 m_M_isShelf 1 := ⟨ok_M_isShelf, gw_t 1301 (by decide +kernel) rfl, gw_t 1302 (by decide +kernel) rfl⟩
theorem lk_M_coats_162 : LKV m_M_coats 162 m_M_isGuest 12 1 := ⟨ok_M_isGuest, gw_t 1325 (by decide +kernel) rfl, gw_t 1327 (by decide +kernel) rfl, gw_of (sw 35 (by decide +kernel)) rfl, _, _, rfl⟩
theorem lk_M_coats_286 : LKV m_M_coats 286 m_M_rowFault 12 1 := ⟨ok_M_rowFault, gw_t 1430 (by decide +kernel) rfl, gw_t 1432 (by decide +kernel) rfl, gw_of (sw 53 (by decide +kernel)) rfl, _, _, rfl⟩
theorem lk_M_coats_336 : LKV m_M_coats 336 m_M_layPile 12 1 := ⟨ok_M_layPile, gw_t 1537 (by decide +kernel) rfl, gw_t 1539 (by decide +kernel) rfl, gw_of (sw 73 (by decide +kernel)) rfl, _, _, rfl⟩
theorem lk_M_coats_339 : LKV m_M_coats 339 m_M_lifted 12 1 := ⟨ok_M_lifted, gw_t 1541 (by decide +kernel) rfl, gw_t 1543 (by decide +kernel) rfl, gw_of (sw 74 (by decide +kernel)) rfl, _, _, rfl⟩
theorem fp_M_layPile_333 : FP m_M_layPile 333 12 44 (.int) := ⟨_, _, _, rfl, by decide, fl_M_333.elim fun _ h => by obtain ⟨T, N, h1, h2, h3⟩ := h; cases h1; exact h3, rfl, Or.inl rfl⟩
theorem lk_M_layPile_292 : LKV m_M_layPile 292 m_M_byteAt 12 2 := ⟨ok_M_byteAt, gw_t 1438 (by decide +kernel) rfl, gw_t 1440 (by decide +kernel) rfl, gw_of (sw 55 (by decide +kernel)) rfl, _, _, rfl⟩
theorem lk_M_order_143 : LKS m_M_order 143 m_M_isShelf 1 := ⟨ok_M_isShelf, gw_t 1301 (by decide +kernel) rfl, gw_t 1302 (by decide +kernel) rfl⟩
theorem lk_M_order_286 : LKV m_M_order 286 m_M_rowFault 12 1 := ⟨ok_M_rowFault, gw_t 1430 (by decide +kernel) rfl, gw_t 1432 (by decide +kernel) rfl, gw_of (sw 53 (by decide +kernel)) rfl, _, _, rfl⟩
theorem lk_M_order_336 : LKV m_M_order 336 m_M_layPile 12 1 := ⟨ok_M_layPile, gw_t 1537 (by decide +kernel) rfl, gw_t 1539 (by decide +kernel) rfl, gw_of (sw 73 (by decide +kernel)) rfl, _, _, rfl⟩
theorem lk_M_order_292 : LKV m_M_order 292 m_M_byteAt 12 2 := ⟨ok_M_byteAt, gw_t 1438 (by decide +kernel) rfl, gw_t 1440 (by decide +kernel) rfl, gw_of (sw 55 (by decide +kernel)) rfl, _, _, rfl⟩
theorem lk_M_order_162 : LKV m_M_order 162 m_M_isGuest 12 1 := ⟨ok_M_isGuest, gw_t 1325 (by decide +kernel) rfl, gw_t 1327 (by decide +kernel) rfl, gw_of (sw 35 (by decide +kernel)) rfl, _, _, rfl⟩
theorem lk_M_order_339 : LKV m_M_order 339 m_M_lifted 12 1 := ⟨ok_M_lifted, gw_t 1541 (by decide +kernel) rfl, gw_t 1543 (by decide +kernel) rfl, gw_of (sw 74 (by decide +kernel)) rfl, _, _, rfl⟩
theorem fp_M_order_333 : FP m_M_order 333 12 44 (.int) := ⟨_, _, _, rfl, by decide, fl_M_333.elim fun _ h => by obtain ⟨T, N, h1, h2, h3⟩ := h; cases h1; exact h3, rfl, Or.inl rfl⟩
theorem lk_M_end_162 : LKV m_M_end 162 m_M_isGuest 12 1 := ⟨ok_M_isGuest, gw_t 1325 (by decide +kernel) rfl, gw_t 1327 (by decide +kernel) rfl, gw_of (sw 35 (by decide +kernel)) rfl, _, _, rfl⟩
theorem lk_M_end_131 : LKS m_M_end 131 m_M_within 3 := ⟨ok_M_within, gw_t 1290 (by decide +kernel) rfl, gw_t 1291 (by decide +kernel) rfl⟩
theorem lk_M_end_345 : LKV m_M_end 345 m_M_goEnd 12 1 := ⟨ok_M_goEnd, gw_t 1553 (by decide +kernel) rfl, gw_t 1555 (by decide +kernel) rfl, gw_of (sw 75 (by decide +kernel)) rfl, _, _, rfl⟩
theorem fp_M_goEnd_342 : FP m_M_goEnd 342 12 45 (.int) := ⟨_, _, _, rfl, by decide, fl_M_342.elim fun _ h => by obtain ⟨T, N, h1, h2, h3⟩ := h; cases h1; exact h3, rfl, Or.inl rfl⟩
theorem lk_M_goEnd_259 : LKS m_M_goEnd 259 m_M_bitsOf 1 := ⟨ok_M_bitsOf, gw_t 1466 (by decide +kernel) rfl, gw_t 1467 (by decide +kernel) rfl⟩
theorem lk_M_yawn_345 : LKV m_M_yawn 345 m_M_goEnd 12 1 := ⟨ok_M_goEnd, gw_t 1553 (by decide +kernel) rfl, gw_t 1555 (by decide +kernel) rfl, gw_of (sw 75 (by decide +kernel)) rfl, _, _, rfl⟩
theorem lk_M_yawn_259 : LKS m_M_yawn 259 m_M_bitsOf 1 := ⟨ok_M_bitsOf, gw_t 1466 (by decide +kernel) rfl, gw_t 1467 (by decide +kernel) rfl⟩
theorem lk_M_clear_259 : LKS m_M_clear 259 m_M_bitsOf 1 := ⟨ok_M_bitsOf, gw_t 1466 (by decide +kernel) rfl, gw_t 1467 (by decide +kernel) rfl⟩
theorem lk_M_clear_345 : LKV m_M_clear 345 m_M_goEnd 12 1 := ⟨ok_M_goEnd, gw_t 1553 (by decide +kernel) rfl, gw_t 1555 (by decide +kernel) rfl, gw_of (sw 75 (by decide +kernel)) rfl, _, _, rfl⟩
theorem lk_M_knows_162 : LKV m_M_knows 162 m_M_isGuest 12 1 := ⟨ok_M_isGuest, gw_t 1325 (by decide +kernel) rfl, gw_t 1327 (by decide +kernel) rfl, gw_of (sw 35 (by decide +kernel)) rfl, _, _, rfl⟩
theorem lk_M_knows_131 : LKS m_M_knows 131 m_M_within 3 := ⟨ok_M_within, gw_t 1290 (by decide +kernel) rfl, gw_t 1291 (by decide +kernel) rfl⟩
theorem lk_M_knows_348 : LKV m_M_knows 348 m_M_knowThen 12 2 := ⟨ok_M_knowThen, gw_t 1569 (by decide +kernel) rfl, gw_t 1571 (by decide +kernel) rfl, gw_of (sw 76 (by decide +kernel)) rfl, _, _, rfl⟩
theorem lk_M_knowThen_176 : LKV m_M_knowThen 176 m_M_roomOf 12 2 := ⟨ok_M_roomOf, gw_t 1348 (by decide +kernel) rfl, gw_t 1350 (by decide +kernel) rfl, gw_of (sw 38 (by decide +kernel)) rfl, _, _, rfl⟩
theorem lk_M_drawn_283 : LKS m_M_drawn 283 m_M_isTime 1 := ⟨ok_M_isTime, gw_t 1427 (by decide +kernel) rfl, gw_t 1428 (by decide +kernel) rfl⟩
theorem lk_M_drawn_131 : LKS m_M_drawn 131 m_M_within 3 := ⟨ok_M_within, gw_t 1290 (by decide +kernel) rfl, gw_t 1291 (by decide +kernel) rfl⟩
theorem lk_M_drawn_289 : LKV m_M_drawn 289 m_M_begin 12 2 := ⟨ok_M_begin, gw_t 1434 (by decide +kernel) rfl, gw_t 1436 (by decide +kernel) rfl, gw_of (sw 54 (by decide +kernel)) rfl, _, _, rfl⟩
theorem lk_M_drawn_295 : LKV m_M_drawn 295 m_M_goTo 12 1 := ⟨ok_M_goTo, gw_t 1442 (by decide +kernel) rfl, gw_t 1444 (by decide +kernel) rfl, gw_of (sw 56 (by decide +kernel)) rfl, _, _, rfl⟩
theorem lk_M_drawn_299 : LKV m_M_drawn 299 m_M_home 12 0 := ⟨ok_M_home, gw_t 1480 (by decide +kernel) rfl, gw_t 1482 (by decide +kernel) rfl, gw_of (sw 64 (by decide +kernel)) rfl, _, _, rfl⟩
theorem lk_M_drawn_305 : LKV m_M_drawn 305 m_M_isDone 12 0 := ⟨ok_M_isDone, gw_t 1497 (by decide +kernel) rfl, gw_t 1499 (by decide +kernel) rfl, gw_of (sw 67 (by decide +kernel)) rfl, _, _, rfl⟩
theorem lk_M_judge_143 : LKS m_M_judge 143 m_M_isShelf 1 := ⟨ok_M_isShelf, gw_t 1301 (by decide +kernel) rfl, gw_t 1302 (by decide +kernel) rfl⟩
theorem lk_M_judge_283 : LKS m_M_judge 283 m_M_isTime 1 := ⟨ok_M_isTime, gw_t 1427 (by decide +kernel) rfl, gw_t 1428 (by decide +kernel) rfl⟩
theorem lk_M_judge_286 : LKV m_M_judge 286 m_M_rowFault 12 1 := ⟨ok_M_rowFault, gw_t 1430 (by decide +kernel) rfl, gw_t 1432 (by decide +kernel) rfl, gw_of (sw 53 (by decide +kernel)) rfl, _, _, rfl⟩
theorem lk_M_judge_289 : LKV m_M_judge 289 m_M_begin 12 2 := ⟨ok_M_begin, gw_t 1434 (by decide +kernel) rfl, gw_t 1436 (by decide +kernel) rfl, gw_of (sw 54 (by decide +kernel)) rfl, _, _, rfl⟩
theorem lk_M_judge_292 : LKV m_M_judge 292 m_M_byteAt 12 2 := ⟨ok_M_byteAt, gw_t 1438 (by decide +kernel) rfl, gw_t 1440 (by decide +kernel) rfl, gw_of (sw 55 (by decide +kernel)) rfl, _, _, rfl⟩
theorem lk_M_judge_135 : LKS m_M_judge 135 m_M_isRoom 1 := ⟨ok_M_isRoom, gw_t 1287 (by decide +kernel) rfl, gw_t 1288 (by decide +kernel) rfl⟩
theorem lk_M_judge_295 : LKV m_M_judge 295 m_M_goTo 12 1 := ⟨ok_M_goTo, gw_t 1442 (by decide +kernel) rfl, gw_t 1444 (by decide +kernel) rfl, gw_of (sw 56 (by decide +kernel)) rfl, _, _, rfl⟩
theorem lk_M_go_135 : LKS m_M_go 135 m_M_isRoom 1 := ⟨ok_M_isRoom, gw_t 1287 (by decide +kernel) rfl, gw_t 1288 (by decide +kernel) rfl⟩
theorem lk_M_go_274 : LKV m_M_go 274 m_M_wayOf 12 2 := ⟨ok_M_wayOf, gw_t 1446 (by decide +kernel) rfl, gw_t 1448 (by decide +kernel) rfl, gw_of (sw 57 (by decide +kernel)) rfl, _, _, rfl⟩
theorem lk_M_goodbye_277 : LKV m_M_goodbye 277 m_M_tells1 12 3 := ⟨ok_M_tells1, gw_t 1450 (by decide +kernel) rfl, gw_t 1452 (by decide +kernel) rfl, gw_of (sw 58 (by decide +kernel)) rfl, _, _, rfl⟩
theorem lk_M_goodbye_280 : LKV m_M_goodbye 280 m_M_takes1 12 3 := ⟨ok_M_takes1, gw_t 1462 (by decide +kernel) rfl, gw_t 1464 (by decide +kernel) rfl, gw_of (sw 61 (by decide +kernel)) rfl, _, _, rfl⟩
theorem lk_M_stay_131 : LKS m_M_stay 131 m_M_within 3 := ⟨ok_M_within, gw_t 1290 (by decide +kernel) rfl, gw_t 1291 (by decide +kernel) rfl⟩
theorem lk_M_leave_253 : LKV m_M_leave 253 m_M_allMust 12 0 := ⟨ok_M_allMust, gw_t 1454 (by decide +kernel) rfl, gw_t 1456 (by decide +kernel) rfl, gw_of (sw 59 (by decide +kernel)) rfl, _, _, rfl⟩
theorem lk_M_led_131 : LKS m_M_led 131 m_M_within 3 := ⟨ok_M_within, gw_t 1290 (by decide +kernel) rfl, gw_t 1291 (by decide +kernel) rfl⟩
theorem fp_M_image_352 : FP m_M_image 352 12 48 (.boolean) := ⟨_, _, _, rfl, by decide, fl_M_352.elim fun _ h => by obtain ⟨T, N, h1, h2, h3⟩ := h; cases h1; exact h3, rfl, Or.inl rfl⟩
theorem lk_M_body_131 : LKS m_M_body 131 m_M_within 3 := ⟨ok_M_within, gw_t 1290 (by decide +kernel) rfl, gw_t 1291 (by decide +kernel) rfl⟩
theorem fp_M_body_355 : FP m_M_body 355 12 49 (.int) := ⟨_, _, _, rfl, by decide, fl_M_355.elim fun _ h => by obtain ⟨T, N, h1, h2, h3⟩ := h; cases h1; exact h3, rfl, Or.inl rfl⟩
theorem fp_M_act_358 : FP m_M_act 358 12 51 (.int) := ⟨_, _, _, rfl, by decide, fl_M_358.elim fun _ h => by obtain ⟨T, N, h1, h2, h3⟩ := h; cases h1; exact h3, rfl, Or.inl rfl⟩
theorem lk_M_act_397 : LKV m_M_act 397 m_M_isBody 12 1 := ⟨ok_M_isBody, gw_t 1622 (by decide +kernel) rfl, gw_t 1624 (by decide +kernel) rfl, gw_of (sw 77 (by decide +kernel)) rfl, _, _, rfl⟩
theorem lk_M_act_131 : LKS m_M_act 131 m_M_within 3 := ⟨ok_M_within, gw_t 1290 (by decide +kernel) rfl, gw_t 1291 (by decide +kernel) rfl⟩
theorem lk_M_act_373 : LKV m_M_act 373 m_M_saying 12 2 := ⟨ok_M_saying, gw_t 1626 (by decide +kernel) rfl, gw_t 1628 (by decide +kernel) rfl, gw_of (sw 78 (by decide +kernel)) rfl, _, _, rfl⟩
theorem lk_M_act_391 : LKV m_M_act 391 m_M_staying 12 2 := ⟨ok_M_staying, gw_t 1645 (by decide +kernel) rfl, gw_t 1647 (by decide +kernel) rfl, gw_of (sw 82 (by decide +kernel)) rfl, _, _, rfl⟩
theorem lk_M_act_382 : LKV m_M_act 382 m_M_turning 12 2 := ⟨ok_M_turning, gw_t 1657 (by decide +kernel) rfl, gw_t 1659 (by decide +kernel) rfl, gw_of (sw 85 (by decide +kernel)) rfl, _, _, rfl⟩
theorem lk_M_act_400 : LKV m_M_act 400 m_M_telling 12 2 := ⟨ok_M_telling, gw_t 1669 (by decide +kernel) rfl, gw_t 1671 (by decide +kernel) rfl, gw_of (sw 88 (by decide +kernel)) rfl, _, _, rfl⟩
theorem lk_M_isBody_131 : LKS m_M_isBody 131 m_M_within 3 := ⟨ok_M_within, gw_t 1290 (by decide +kernel) rfl, gw_t 1291 (by decide +kernel) rfl⟩
theorem lk_M_saying_367 : LKS m_M_saying 367 m_M_isUnder 2 := ⟨ok_M_isUnder, gw_t 1630 (by decide +kernel) rfl, gw_t 1631 (by decide +kernel) rfl⟩
theorem lk_M_saying_361 : LKV m_M_saying 361 m_M_ran 12 1 := ⟨ok_M_ran, gw_t 1633 (by decide +kernel) rfl, gw_t 1635 (by decide +kernel) rfl, gw_of (sw 79 (by decide +kernel)) rfl, _, _, rfl⟩
theorem lk_M_saying_364 : LKV m_M_saying 364 m_M_plainSays 12 2 := ⟨ok_M_plainSays, gw_t 1637 (by decide +kernel) rfl, gw_t 1639 (by decide +kernel) rfl, gw_of (sw 80 (by decide +kernel)) rfl, _, _, rfl⟩
theorem lk_M_saying_370 : LKV m_M_saying 370 m_M_missedSays 12 2 := ⟨ok_M_missedSays, gw_t 1641 (by decide +kernel) rfl, gw_t 1643 (by decide +kernel) rfl, gw_of (sw 81 (by decide +kernel)) rfl, _, _, rfl⟩
theorem fp_M_ran_358 : FP m_M_ran 358 12 51 (.int) := ⟨_, _, _, rfl, by decide, fl_M_358.elim fun _ h => by obtain ⟨T, N, h1, h2, h3⟩ := h; cases h1; exact h3, rfl, Or.inl rfl⟩
theorem lk_M_plainSays_361 : LKV m_M_plainSays 361 m_M_ran 12 1 := ⟨ok_M_ran, gw_t 1633 (by decide +kernel) rfl, gw_t 1635 (by decide +kernel) rfl, gw_of (sw 79 (by decide +kernel)) rfl, _, _, rfl⟩
theorem lk_M_missedSays_361 : LKV m_M_missedSays 361 m_M_ran 12 1 := ⟨ok_M_ran, gw_t 1633 (by decide +kernel) rfl, gw_t 1635 (by decide +kernel) rfl, gw_of (sw 79 (by decide +kernel)) rfl, _, _, rfl⟩
theorem lk_M_missedSays_364 : LKV m_M_missedSays 364 m_M_plainSays 12 2 := ⟨ok_M_plainSays, gw_t 1637 (by decide +kernel) rfl, gw_t 1639 (by decide +kernel) rfl, gw_of (sw 80 (by decide +kernel)) rfl, _, _, rfl⟩
theorem lk_M_staying_367 : LKS m_M_staying 367 m_M_isUnder 2 := ⟨ok_M_isUnder, gw_t 1630 (by decide +kernel) rfl, gw_t 1631 (by decide +kernel) rfl⟩
theorem lk_M_staying_361 : LKV m_M_staying 361 m_M_ran 12 1 := ⟨ok_M_ran, gw_t 1633 (by decide +kernel) rfl, gw_t 1635 (by decide +kernel) rfl, gw_of (sw 79 (by decide +kernel)) rfl, _, _, rfl⟩
theorem lk_M_staying_379 : LKV m_M_staying 379 m_M_joinedStays 12 2 := ⟨ok_M_joinedStays, gw_t 1649 (by decide +kernel) rfl, gw_t 1651 (by decide +kernel) rfl, gw_of (sw 83 (by decide +kernel)) rfl, _, _, rfl⟩
theorem lk_M_staying_376 : LKV m_M_staying 376 m_M_plainStays 12 2 := ⟨ok_M_plainStays, gw_t 1653 (by decide +kernel) rfl, gw_t 1655 (by decide +kernel) rfl, gw_of (sw 84 (by decide +kernel)) rfl, _, _, rfl⟩
theorem lk_M_staying_382 : LKV m_M_staying 382 m_M_turning 12 2 := ⟨ok_M_turning, gw_t 1657 (by decide +kernel) rfl, gw_t 1659 (by decide +kernel) rfl, gw_of (sw 85 (by decide +kernel)) rfl, _, _, rfl⟩
theorem lk_M_joinedStays_361 : LKV m_M_joinedStays 361 m_M_ran 12 1 := ⟨ok_M_ran, gw_t 1633 (by decide +kernel) rfl, gw_t 1635 (by decide +kernel) rfl, gw_of (sw 79 (by decide +kernel)) rfl, _, _, rfl⟩
theorem lk_M_joinedStays_376 : LKV m_M_joinedStays 376 m_M_plainStays 12 2 := ⟨ok_M_plainStays, gw_t 1653 (by decide +kernel) rfl, gw_t 1655 (by decide +kernel) rfl, gw_of (sw 84 (by decide +kernel)) rfl, _, _, rfl⟩
theorem lk_M_plainStays_361 : LKV m_M_plainStays 361 m_M_ran 12 1 := ⟨ok_M_ran, gw_t 1633 (by decide +kernel) rfl, gw_t 1635 (by decide +kernel) rfl, gw_of (sw 79 (by decide +kernel)) rfl, _, _, rfl⟩
theorem lk_M_plainStays_373 : LKV m_M_plainStays 373 m_M_saying 12 2 := ⟨ok_M_saying, gw_t 1626 (by decide +kernel) rfl, gw_t 1628 (by decide +kernel) rfl, gw_of (sw 78 (by decide +kernel)) rfl, _, _, rfl⟩
theorem lk_M_turning_361 : LKV m_M_turning 361 m_M_ran 12 1 := ⟨ok_M_ran, gw_t 1633 (by decide +kernel) rfl, gw_t 1635 (by decide +kernel) rfl, gw_of (sw 79 (by decide +kernel)) rfl, _, _, rfl⟩
theorem lk_M_turning_388 : LKV m_M_turning 388 m_M_againTurns 12 2 := ⟨ok_M_againTurns, gw_t 1661 (by decide +kernel) rfl, gw_t 1663 (by decide +kernel) rfl, gw_of (sw 86 (by decide +kernel)) rfl, _, _, rfl⟩
theorem lk_M_turning_373 : LKV m_M_turning 373 m_M_saying 12 2 := ⟨ok_M_saying, gw_t 1626 (by decide +kernel) rfl, gw_t 1628 (by decide +kernel) rfl, gw_of (sw 78 (by decide +kernel)) rfl, _, _, rfl⟩
theorem lk_M_turning_385 : LKV m_M_turning 385 m_M_plainTurns 12 2 := ⟨ok_M_plainTurns, gw_t 1665 (by decide +kernel) rfl, gw_t 1667 (by decide +kernel) rfl, gw_of (sw 87 (by decide +kernel)) rfl, _, _, rfl⟩
theorem lk_M_againTurns_361 : LKV m_M_againTurns 361 m_M_ran 12 1 := ⟨ok_M_ran, gw_t 1633 (by decide +kernel) rfl, gw_t 1635 (by decide +kernel) rfl, gw_of (sw 79 (by decide +kernel)) rfl, _, _, rfl⟩
theorem lk_M_againTurns_385 : LKV m_M_againTurns 385 m_M_plainTurns 12 2 := ⟨ok_M_plainTurns, gw_t 1665 (by decide +kernel) rfl, gw_t 1667 (by decide +kernel) rfl, gw_of (sw 87 (by decide +kernel)) rfl, _, _, rfl⟩
theorem lk_M_plainTurns_361 : LKV m_M_plainTurns 361 m_M_ran 12 1 := ⟨ok_M_ran, gw_t 1633 (by decide +kernel) rfl, gw_t 1635 (by decide +kernel) rfl, gw_of (sw 79 (by decide +kernel)) rfl, _, _, rfl⟩
theorem lk_M_telling_361 : LKV m_M_telling 361 m_M_ran 12 1 := ⟨ok_M_ran, gw_t 1633 (by decide +kernel) rfl, gw_t 1635 (by decide +kernel) rfl, gw_of (sw 79 (by decide +kernel)) rfl, _, _, rfl⟩
theorem lk_M_telling_394 : LKV m_M_telling 394 m_M_plainTells 12 2 := ⟨ok_M_plainTells, gw_t 1673 (by decide +kernel) rfl, gw_t 1675 (by decide +kernel) rfl, gw_of (sw 89 (by decide +kernel)) rfl, _, _, rfl⟩
theorem lk_M_plainTells_361 : LKV m_M_plainTells 361 m_M_ran 12 1 := ⟨ok_M_ran, gw_t 1633 (by decide +kernel) rfl, gw_t 1635 (by decide +kernel) rfl, gw_of (sw 79 (by decide +kernel)) rfl, _, _, rfl⟩
theorem lk_M_plainTells_391 : LKV m_M_plainTells 391 m_M_staying 12 2 := ⟨ok_M_staying, gw_t 1645 (by decide +kernel) rfl, gw_t 1647 (by decide +kernel) rfl, gw_of (sw 82 (by decide +kernel)) rfl, _, _, rfl⟩
theorem lk_M_plainTells_382 : LKV m_M_plainTells 382 m_M_turning 12 2 := ⟨ok_M_turning, gw_t 1657 (by decide +kernel) rfl, gw_t 1659 (by decide +kernel) rfl, gw_of (sw 85 (by decide +kernel)) rfl, _, _, rfl⟩
theorem lk_M_count_253 : LKV m_M_count 253 m_M_allMust 12 0 := ⟨ok_M_allMust, gw_t 1454 (by decide +kernel) rfl, gw_t 1456 (by decide +kernel) rfl, gw_of (sw 59 (by decide +kernel)) rfl, _, _, rfl⟩
theorem lk_M_count_259 : LKS m_M_count 259 m_M_bitsOf 1 := ⟨ok_M_bitsOf, gw_t 1466 (by decide +kernel) rfl, gw_t 1467 (by decide +kernel) rfl⟩
theorem lk_M_keep_143 : LKS m_M_keep 143 m_M_isShelf 1 := ⟨ok_M_isShelf, gw_t 1301 (by decide +kernel) rfl, gw_t 1302 (by decide +kernel) rfl⟩
theorem lk_M_keep_397 : LKV m_M_keep 397 m_M_isBody 12 1 := ⟨ok_M_isBody, gw_t 1622 (by decide +kernel) rfl, gw_t 1624 (by decide +kernel) rfl, gw_of (sw 77 (by decide +kernel)) rfl, _, _, rfl⟩
theorem lk_M_row_143 : LKS m_M_row 143 m_M_isShelf 1 := ⟨ok_M_isShelf, gw_t 1301 (by decide +kernel) rfl, gw_t 1302 (by decide +kernel) rfl⟩
theorem lk_M_row_131 : LKS m_M_row 131 m_M_within 3 := ⟨ok_M_within, gw_t 1290 (by decide +kernel) rfl, gw_t 1291 (by decide +kernel) rfl⟩
theorem lk_M_put_403 : LKV m_M_put 403 m_M_whyNoPlace 12 2 := ⟨ok_M_whyNoPlace, gw_t 1693 (by decide +kernel) rfl, gw_t 1695 (by decide +kernel) rfl, gw_of (sw 90 (by decide +kernel)) rfl, _, _, rfl⟩
theorem lk_M_whyNoPlace_143 : LKS m_M_whyNoPlace 143 m_M_isShelf 1 := ⟨ok_M_isShelf, gw_t 1301 (by decide +kernel) rfl, gw_t 1302 (by decide +kernel) rfl⟩
theorem lk_M_whyNoPlace_131 : LKS m_M_whyNoPlace 131 m_M_within 3 := ⟨ok_M_within, gw_t 1290 (by decide +kernel) rfl, gw_t 1291 (by decide +kernel) rfl⟩
theorem lk_M_element_403 : LKV m_M_element 403 m_M_whyNoPlace 12 2 := ⟨ok_M_whyNoPlace, gw_t 1693 (by decide +kernel) rfl, gw_t 1695 (by decide +kernel) rfl, gw_of (sw 90 (by decide +kernel)) rfl, _, _, rfl⟩
theorem lk_M_shift_143 : LKS m_M_shift 143 m_M_isShelf 1 := ⟨ok_M_isShelf, gw_t 1301 (by decide +kernel) rfl, gw_t 1302 (by decide +kernel) rfl⟩
theorem lk_M_taken_143 : LKS m_M_taken 143 m_M_isShelf 1 := ⟨ok_M_isShelf, gw_t 1301 (by decide +kernel) rfl, gw_t 1302 (by decide +kernel) rfl⟩
theorem lk_M_taken_131 : LKS m_M_taken 131 m_M_within 3 := ⟨ok_M_within, gw_t 1290 (by decide +kernel) rfl, gw_t 1291 (by decide +kernel) rfl⟩
theorem lk_M_taken_367 : LKS m_M_taken 367 m_M_isUnder 2 := ⟨ok_M_isUnder, gw_t 1630 (by decide +kernel) rfl, gw_t 1631 (by decide +kernel) rfl⟩
theorem nl_W_law_7 : NL "GoodbyeAllLaw" 7 0 "GoodbyeAll" 11 := ⟨_, rfl, gw_t 17 (by decide +kernel) rfl, gw_t 18 (by decide +kernel) rfl, gw_t 1 (by decide +kernel) rfl⟩
theorem lk_W_law_9 : LKI m_W_law 9 m_G_init 0 := ⟨ok_G_init, gw_t 19 (by decide +kernel) rfl, gw_t 20 (by decide +kernel) rfl, rfl, rfl⟩
theorem nl_W_law_10 : NL "GoodbyeAllLaw" 10 12 "GoodbyeAllModel" 57 := ⟨_, rfl, gw_t 1104 (by decide +kernel) rfl, gw_t 1105 (by decide +kernel) rfl, gw_t 13 (by decide +kernel) rfl⟩
theorem lk_W_law_12 : LKI m_W_law 12 m_M_init 0 := ⟨ok_M_init, gw_t 1106 (by decide +kernel) rfl, gw_t 1107 (by decide +kernel) rfl, rfl, rfl⟩
theorem lk_W_law_13 : LKV m_W_law 13 m_G_guest 0 2 := ⟨ok_G_guest, gw_t 335 (by decide +kernel) rfl, gw_t 336 (by decide +kernel) rfl, gw_t 337 (by decide +kernel) rfl, _, _, rfl⟩
theorem lk_W_law_17 : LKV m_W_law 17 m_M_guest 12 2 := ⟨ok_M_guest, gw_t 1283 (by decide +kernel) rfl, gw_t 1284 (by decide +kernel) rfl, gw_t 1285 (by decide +kernel) rfl, _, _, rfl⟩
theorem lk_W_law_18 : LKV m_W_law 18 m_G_guests 0 3 := ⟨ok_G_guests, gw_t 379 (by decide +kernel) rfl, gw_t 380 (by decide +kernel) rfl, gw_t 381 (by decide +kernel) rfl, _, _, rfl⟩
theorem lk_W_law_22 : LKV m_W_law 22 m_M_guests 12 3 := ⟨ok_M_guests, gw_t 1297 (by decide +kernel) rfl, gw_t 1298 (by decide +kernel) rfl, gw_t 1299 (by decide +kernel) rfl, _, _, rfl⟩
theorem lk_W_law_23 : LKV m_W_law 23 m_G_mend 0 3 := ⟨ok_G_mend, gw_t 416 (by decide +kernel) rfl, gw_t 417 (by decide +kernel) rfl, gw_t 418 (by decide +kernel) rfl, _, _, rfl⟩
theorem lk_W_law_26 : LKV m_W_law 26 m_M_mend 12 3 := ⟨ok_M_mend, gw_t 1317 (by decide +kernel) rfl, gw_t 1318 (by decide +kernel) rfl, gw_t 1319 (by decide +kernel) rfl, _, _, rfl⟩
theorem lk_W_law_27 : LKV m_W_law 27 m_G_of 0 2 := ⟨ok_G_of, gw_t 434 (by decide +kernel) rfl, gw_t 435 (by decide +kernel) rfl, gw_t 436 (by decide +kernel) rfl, _, _, rfl⟩
theorem lk_W_law_30 : LKV m_W_law 30 m_M_of 12 2 := ⟨ok_M_of, gw_t 1340 (by decide +kernel) rfl, gw_t 1341 (by decide +kernel) rfl, gw_t 1342 (by decide +kernel) rfl, _, _, rfl⟩
theorem lk_W_law_31 : LKV m_W_law 31 m_G_at 0 2 := ⟨ok_G_at, gw_t 438 (by decide +kernel) rfl, gw_t 439 (by decide +kernel) rfl, gw_t 440 (by decide +kernel) rfl, _, _, rfl⟩
theorem lk_W_law_34 : LKV m_W_law 34 m_M_at 12 2 := ⟨ok_M_at, gw_t 1344 (by decide +kernel) rfl, gw_t 1345 (by decide +kernel) rfl, gw_t 1346 (by decide +kernel) rfl, _, _, rfl⟩
theorem lk_W_law_35 : LKV m_W_law 35 m_G_in 0 2 := ⟨ok_G_in, gw_t 444 (by decide +kernel) rfl, gw_t 445 (by decide +kernel) rfl, gw_t 446 (by decide +kernel) rfl, _, _, rfl⟩
theorem lk_W_law_38 : LKV m_W_law 38 m_M_in 12 2 := ⟨ok_M_in, gw_t 1352 (by decide +kernel) rfl, gw_t 1353 (by decide +kernel) rfl, gw_t 1354 (by decide +kernel) rfl, _, _, rfl⟩
theorem lk_W_law_39 : LKV m_W_law 39 m_G_feed 0 1 := ⟨ok_G_feed, gw_t 453 (by decide +kernel) rfl, gw_t 454 (by decide +kernel) rfl, gw_t 455 (by decide +kernel) rfl, _, _, rfl⟩
theorem lk_W_law_43 : LKV m_W_law 43 m_M_feed 12 1 := ⟨ok_M_feed, gw_t 1360 (by decide +kernel) rfl, gw_t 1361 (by decide +kernel) rfl, gw_t 1362 (by decide +kernel) rfl, _, _, rfl⟩
theorem lk_W_law_44 : LKV m_W_law 44 m_G_law 0 0 := ⟨ok_G_law, gw_t 465 (by decide +kernel) rfl, gw_t 466 (by decide +kernel) rfl, gw_t 467 (by decide +kernel) rfl, _, _, rfl⟩
theorem lk_W_law_48 : LKV m_W_law 48 m_M_law 12 0 := ⟨ok_M_law, gw_t 1364 (by decide +kernel) rfl, gw_t 1365 (by decide +kernel) rfl, gw_t 1366 (by decide +kernel) rfl, _, _, rfl⟩
theorem lk_W_law_49 : LKV m_W_law 49 m_G_round 0 3 := ⟨ok_G_round, gw_t 537 (by decide +kernel) rfl, gw_t 538 (by decide +kernel) rfl, gw_t 539 (by decide +kernel) rfl, _, _, rfl⟩
theorem lk_W_law_52 : LKV m_W_law 52 m_M_round 12 3 := ⟨ok_M_round, gw_t 1423 (by decide +kernel) rfl, gw_t 1424 (by decide +kernel) rfl, gw_t 1425 (by decide +kernel) rfl, _, _, rfl⟩
theorem lk_W_law_53 : LKV m_W_law 53 m_G_soonest 0 2 := ⟨ok_G_soonest, gw_t 638 (by decide +kernel) rfl, gw_t 639 (by decide +kernel) rfl, gw_t 640 (by decide +kernel) rfl, _, _, rfl⟩
theorem lk_W_law_56 : LKV m_W_law 56 m_M_soonest 12 2 := ⟨ok_M_soonest, gw_t 1484 (by decide +kernel) rfl, gw_t 1485 (by decide +kernel) rfl, gw_t 1486 (by decide +kernel) rfl, _, _, rfl⟩
theorem lk_W_law_57 : LKV m_W_law 57 m_G_beginBy 0 2 := ⟨ok_G_beginBy, gw_t 675 (by decide +kernel) rfl, gw_t 676 (by decide +kernel) rfl, gw_t 677 (by decide +kernel) rfl, _, _, rfl⟩
theorem lk_W_law_60 : LKV m_W_law 60 m_M_beginBy 12 2 := ⟨ok_M_beginBy, gw_t 1501 (by decide +kernel) rfl, gw_t 1502 (by decide +kernel) rfl, gw_t 1503 (by decide +kernel) rfl, _, _, rfl⟩
theorem lk_W_law_61 : LKV m_W_law 61 m_G_slip 0 2 := ⟨ok_G_slip, gw_t 679 (by decide +kernel) rfl, gw_t 680 (by decide +kernel) rfl, gw_t 681 (by decide +kernel) rfl, _, _, rfl⟩
theorem lk_W_law_64 : LKV m_W_law 64 m_M_slip 12 2 := ⟨ok_M_slip, gw_t 1505 (by decide +kernel) rfl, gw_t 1506 (by decide +kernel) rfl, gw_t 1507 (by decide +kernel) rfl, _, _, rfl⟩
theorem lk_W_law_65 : LKV m_W_law 65 m_G_pair 0 4 := ⟨ok_G_pair, gw_t 689 (by decide +kernel) rfl, gw_t 690 (by decide +kernel) rfl, gw_t 691 (by decide +kernel) rfl, _, _, rfl⟩
theorem lk_W_law_69 : LKV m_W_law 69 m_M_pair 12 4 := ⟨ok_M_pair, gw_t 1513 (by decide +kernel) rfl, gw_t 1514 (by decide +kernel) rfl, gw_t 1515 (by decide +kernel) rfl, _, _, rfl⟩
theorem lk_W_law_70 : LKV m_W_law 70 m_G_coats 0 2 := ⟨ok_G_coats, gw_t 740 (by decide +kernel) rfl, gw_t 741 (by decide +kernel) rfl, gw_t 742 (by decide +kernel) rfl, _, _, rfl⟩
theorem lk_W_law_73 : LKV m_W_law 73 m_M_coats 12 2 := ⟨ok_M_coats, gw_t 1533 (by decide +kernel) rfl, gw_t 1534 (by decide +kernel) rfl, gw_t 1535 (by decide +kernel) rfl, _, _, rfl⟩
theorem lk_W_law_74 : LKV m_W_law 74 m_G_order 0 1 := ⟨ok_G_order, gw_t 753 (by decide +kernel) rfl, gw_t 754 (by decide +kernel) rfl, gw_t 755 (by decide +kernel) rfl, _, _, rfl⟩
theorem lk_W_law_77 : LKV m_W_law 77 m_M_order 12 1 := ⟨ok_M_order, gw_t 1545 (by decide +kernel) rfl, gw_t 1546 (by decide +kernel) rfl, gw_t 1547 (by decide +kernel) rfl, _, _, rfl⟩
theorem lk_W_law_78 : LKV m_W_law 78 m_G_end 0 2 := ⟨ok_G_end, gw_t 761 (by decide +kernel) rfl, gw_t 762 (by decide +kernel) rfl, gw_t 763 (by decide +kernel) rfl, _, _, rfl⟩
theorem lk_W_law_81 : LKV m_W_law 81 m_M_end 12 2 := ⟨ok_M_end, gw_t 1549 (by decide +kernel) rfl, gw_t 1550 (by decide +kernel) rfl, gw_t 1551 (by decide +kernel) rfl, _, _, rfl⟩
theorem lk_W_law_82 : LKV m_W_law 82 m_G_yawn 0 0 := ⟨ok_G_yawn, gw_t 791 (by decide +kernel) rfl, gw_t 792 (by decide +kernel) rfl, gw_t 793 (by decide +kernel) rfl, _, _, rfl⟩
theorem lk_W_law_85 : LKV m_W_law 85 m_M_yawn 12 0 := ⟨ok_M_yawn, gw_t 1557 (by decide +kernel) rfl, gw_t 1558 (by decide +kernel) rfl, gw_t 1559 (by decide +kernel) rfl, _, _, rfl⟩
theorem lk_W_law_86 : LKV m_W_law 86 m_G_clear 0 0 := ⟨ok_G_clear, gw_t 799 (by decide +kernel) rfl, gw_t 800 (by decide +kernel) rfl, gw_t 801 (by decide +kernel) rfl, _, _, rfl⟩
theorem lk_W_law_89 : LKV m_W_law 89 m_M_clear 12 0 := ⟨ok_M_clear, gw_t 1561 (by decide +kernel) rfl, gw_t 1562 (by decide +kernel) rfl, gw_t 1563 (by decide +kernel) rfl, _, _, rfl⟩
theorem lk_W_law_90 : LKV m_W_law 90 m_G_knows 0 2 := ⟨ok_G_knows, gw_t 807 (by decide +kernel) rfl, gw_t 808 (by decide +kernel) rfl, gw_t 809 (by decide +kernel) rfl, _, _, rfl⟩
theorem lk_W_law_93 : LKV m_W_law 93 m_M_knows 12 2 := ⟨ok_M_knows, gw_t 1565 (by decide +kernel) rfl, gw_t 1566 (by decide +kernel) rfl, gw_t 1567 (by decide +kernel) rfl, _, _, rfl⟩
theorem lk_W_law_94 : LKV m_W_law 94 m_G_drawn 0 3 := ⟨ok_G_drawn, gw_t 824 (by decide +kernel) rfl, gw_t 825 (by decide +kernel) rfl, gw_t 826 (by decide +kernel) rfl, _, _, rfl⟩
theorem lk_W_law_97 : LKV m_W_law 97 m_M_drawn 12 3 := ⟨ok_M_drawn, gw_t 1573 (by decide +kernel) rfl, gw_t 1574 (by decide +kernel) rfl, gw_t 1575 (by decide +kernel) rfl, _, _, rfl⟩
theorem lk_W_law_98 : LKV m_W_law 98 m_G_judge 0 2 := ⟨ok_G_judge, gw_t 829 (by decide +kernel) rfl, gw_t 830 (by decide +kernel) rfl, gw_t 831 (by decide +kernel) rfl, _, _, rfl⟩
theorem lk_W_law_101 : LKV m_W_law 101 m_M_judge 12 2 := ⟨ok_M_judge, gw_t 1578 (by decide +kernel) rfl, gw_t 1579 (by decide +kernel) rfl, gw_t 1580 (by decide +kernel) rfl, _, _, rfl⟩
theorem lk_W_law_102 : LKV m_W_law 102 m_G_go 0 1 := ⟨ok_G_go, gw_t 837 (by decide +kernel) rfl, gw_t 838 (by decide +kernel) rfl, gw_t 839 (by decide +kernel) rfl, _, _, rfl⟩
theorem lk_W_law_105 : LKV m_W_law 105 m_M_go 12 1 := ⟨ok_M_go, gw_t 1582 (by decide +kernel) rfl, gw_t 1583 (by decide +kernel) rfl, gw_t 1584 (by decide +kernel) rfl, _, _, rfl⟩
theorem lk_W_law_106 : LKV m_W_law 106 m_G_goodbye 0 0 := ⟨ok_G_goodbye, gw_t 847 (by decide +kernel) rfl, gw_t 848 (by decide +kernel) rfl, gw_t 849 (by decide +kernel) rfl, _, _, rfl⟩
theorem lk_W_law_109 : LKV m_W_law 109 m_M_goodbye 12 0 := ⟨ok_M_goodbye, gw_t 1586 (by decide +kernel) rfl, gw_t 1587 (by decide +kernel) rfl, gw_t 1588 (by decide +kernel) rfl, _, _, rfl⟩
theorem lk_W_law_110 : LKV m_W_law 110 m_G_stay 0 1 := ⟨ok_G_stay, gw_t 856 (by decide +kernel) rfl, gw_t 857 (by decide +kernel) rfl, gw_t 858 (by decide +kernel) rfl, _, _, rfl⟩
theorem lk_W_law_113 : LKV m_W_law 113 m_M_stay 12 1 := ⟨ok_M_stay, gw_t 1590 (by decide +kernel) rfl, gw_t 1591 (by decide +kernel) rfl, gw_t 1592 (by decide +kernel) rfl, _, _, rfl⟩
theorem lk_W_law_114 : LKV m_W_law 114 m_G_leave 0 0 := ⟨ok_G_leave, gw_t 868 (by decide +kernel) rfl, gw_t 869 (by decide +kernel) rfl, gw_t 870 (by decide +kernel) rfl, _, _, rfl⟩
theorem lk_W_law_117 : LKV m_W_law 117 m_M_leave 12 0 := ⟨ok_M_leave, gw_t 1594 (by decide +kernel) rfl, gw_t 1595 (by decide +kernel) rfl, gw_t 1596 (by decide +kernel) rfl, _, _, rfl⟩
theorem lk_W_law_118 : LKV m_W_law 118 m_G_led 0 1 := ⟨ok_G_led, gw_t 887 (by decide +kernel) rfl, gw_t 888 (by decide +kernel) rfl, gw_t 889 (by decide +kernel) rfl, _, _, rfl⟩
theorem lk_W_law_121 : LKV m_W_law 121 m_M_led 12 1 := ⟨ok_M_led, gw_t 1598 (by decide +kernel) rfl, gw_t 1599 (by decide +kernel) rfl, gw_t 1600 (by decide +kernel) rfl, _, _, rfl⟩
theorem lk_W_law_122 : LKV m_W_law 122 m_G_image 0 0 := ⟨ok_G_image, gw_t 895 (by decide +kernel) rfl, gw_t 896 (by decide +kernel) rfl, gw_t 897 (by decide +kernel) rfl, _, _, rfl⟩
theorem lk_W_law_125 : LKV m_W_law 125 m_M_image 12 0 := ⟨ok_M_image, gw_t 1602 (by decide +kernel) rfl, gw_t 1603 (by decide +kernel) rfl, gw_t 1604 (by decide +kernel) rfl, _, _, rfl⟩
theorem lk_W_law_126 : LKV m_W_law 126 m_G_back 0 0 := ⟨ok_G_back, gw_t 904 (by decide +kernel) rfl, gw_t 905 (by decide +kernel) rfl, gw_t 906 (by decide +kernel) rfl, _, _, rfl⟩
theorem lk_W_law_129 : LKV m_W_law 129 m_M_back 12 0 := ⟨ok_M_back, gw_t 1606 (by decide +kernel) rfl, gw_t 1607 (by decide +kernel) rfl, gw_t 1608 (by decide +kernel) rfl, _, _, rfl⟩
theorem lk_W_law_130 : LKV m_W_law 130 m_G_undo 0 0 := ⟨ok_G_undo, gw_t 917 (by decide +kernel) rfl, gw_t 918 (by decide +kernel) rfl, gw_t 919 (by decide +kernel) rfl, _, _, rfl⟩
theorem lk_W_law_133 : LKV m_W_law 133 m_M_undo 12 0 := ⟨ok_M_undo, gw_t 1305 (by decide +kernel) rfl, gw_t 1306 (by decide +kernel) rfl, gw_t 1307 (by decide +kernel) rfl, _, _, rfl⟩
theorem lk_W_law_134 : LKV m_W_law 134 m_G_redo 0 0 := ⟨ok_G_redo, gw_t 930 (by decide +kernel) rfl, gw_t 931 (by decide +kernel) rfl, gw_t 932 (by decide +kernel) rfl, _, _, rfl⟩
theorem lk_W_law_137 : LKV m_W_law 137 m_M_redo 12 0 := ⟨ok_M_redo, gw_t 1313 (by decide +kernel) rfl, gw_t 1314 (by decide +kernel) rfl, gw_t 1315 (by decide +kernel) rfl, _, _, rfl⟩
theorem lk_W_law_138 : LKV m_W_law 138 m_G_body 0 1 := ⟨ok_G_body, gw_t 942 (by decide +kernel) rfl, gw_t 943 (by decide +kernel) rfl, gw_t 944 (by decide +kernel) rfl, _, _, rfl⟩
theorem lk_W_law_141 : LKV m_W_law 141 m_M_body 12 1 := ⟨ok_M_body, gw_t 1614 (by decide +kernel) rfl, gw_t 1615 (by decide +kernel) rfl, gw_t 1616 (by decide +kernel) rfl, _, _, rfl⟩
theorem lk_W_law_142 : LKV m_W_law 142 m_G_act 0 3 := ⟨ok_G_act, gw_t 953 (by decide +kernel) rfl, gw_t 954 (by decide +kernel) rfl, gw_t 955 (by decide +kernel) rfl, _, _, rfl⟩
theorem lk_W_law_145 : LKV m_W_law 145 m_M_act 12 3 := ⟨ok_M_act, gw_t 1618 (by decide +kernel) rfl, gw_t 1619 (by decide +kernel) rfl, gw_t 1620 (by decide +kernel) rfl, _, _, rfl⟩
theorem lk_W_law_146 : LKV m_W_law 146 m_G_trace 0 1 := ⟨ok_G_trace, gw_t 996 (by decide +kernel) rfl, gw_t 997 (by decide +kernel) rfl, gw_t 998 (by decide +kernel) rfl, _, _, rfl⟩
theorem lk_W_law_149 : LKV m_W_law 149 m_M_trace 12 1 := ⟨ok_M_trace, gw_t 1610 (by decide +kernel) rfl, gw_t 1611 (by decide +kernel) rfl, gw_t 1612 (by decide +kernel) rfl, _, _, rfl⟩
theorem lk_W_law_150 : LKV m_W_law 150 m_G_keep 0 2 := ⟨ok_G_keep, gw_t 1004 (by decide +kernel) rfl, gw_t 1005 (by decide +kernel) rfl, gw_t 1006 (by decide +kernel) rfl, _, _, rfl⟩
theorem lk_W_law_153 : LKV m_W_law 153 m_M_keep 12 2 := ⟨ok_M_keep, gw_t 1681 (by decide +kernel) rfl, gw_t 1682 (by decide +kernel) rfl, gw_t 1683 (by decide +kernel) rfl, _, _, rfl⟩
theorem lk_W_law_154 : LKV m_W_law 154 m_G_row 0 3 := ⟨ok_G_row, gw_t 1017 (by decide +kernel) rfl, gw_t 1018 (by decide +kernel) rfl, gw_t 1019 (by decide +kernel) rfl, _, _, rfl⟩
theorem lk_W_law_157 : LKV m_W_law 157 m_M_row 12 3 := ⟨ok_M_row, gw_t 1685 (by decide +kernel) rfl, gw_t 1686 (by decide +kernel) rfl, gw_t 1687 (by decide +kernel) rfl, _, _, rfl⟩
theorem lk_W_law_160 : LKV m_W_law 160 m_G_put 0 3 := ⟨ok_G_put, gw_t 1029 (by decide +kernel) rfl, gw_t 1030 (by decide +kernel) rfl, gw_t 1031 (by decide +kernel) rfl, _, _, rfl⟩
theorem lk_W_law_164 : LKV m_W_law 164 m_M_put 12 3 := ⟨ok_M_put, gw_t 1689 (by decide +kernel) rfl, gw_t 1690 (by decide +kernel) rfl, gw_t 1691 (by decide +kernel) rfl, _, _, rfl⟩
theorem lk_W_law_165 : LKV m_W_law 165 m_G_element 0 2 := ⟨ok_G_element, gw_t 1049 (by decide +kernel) rfl, gw_t 1050 (by decide +kernel) rfl, gw_t 1051 (by decide +kernel) rfl, _, _, rfl⟩
theorem lk_W_law_169 : LKV m_W_law 169 m_M_element 12 2 := ⟨ok_M_element, gw_t 1697 (by decide +kernel) rfl, gw_t 1698 (by decide +kernel) rfl, gw_t 1699 (by decide +kernel) rfl, _, _, rfl⟩
theorem lk_W_law_170 : LKV m_W_law 170 m_G_shift 0 5 := ⟨ok_G_shift, gw_t 1058 (by decide +kernel) rfl, gw_t 1059 (by decide +kernel) rfl, gw_t 1060 (by decide +kernel) rfl, _, _, rfl⟩
theorem lk_W_law_174 : LKV m_W_law 174 m_M_shift 12 5 := ⟨ok_M_shift, gw_t 1702 (by decide +kernel) rfl, gw_t 1703 (by decide +kernel) rfl, gw_t 1704 (by decide +kernel) rfl, _, _, rfl⟩
theorem lk_W_law_175 : LKV m_W_law 175 m_G_taken 0 2 := ⟨ok_G_taken, gw_t 1075 (by decide +kernel) rfl, gw_t 1076 (by decide +kernel) rfl, gw_t 1077 (by decide +kernel) rfl, _, _, rfl⟩
theorem lk_W_law_178 : LKV m_W_law 178 m_M_taken 12 2 := ⟨ok_M_taken, gw_t 1706 (by decide +kernel) rfl, gw_t 1707 (by decide +kernel) rfl, gw_t 1708 (by decide +kernel) rfl, _, _, rfl⟩
theorem lk_W_law_179 : LKV m_W_law 179 m_G_count 0 1 := ⟨ok_G_count, gw_t 1091 (by decide +kernel) rfl, gw_t 1092 (by decide +kernel) rfl, gw_t 1093 (by decide +kernel) rfl, _, _, rfl⟩
theorem lk_W_law_182 : LKV m_W_law 182 m_M_count 12 1 := ⟨ok_M_count, gw_t 1677 (by decide +kernel) rfl, gw_t 1678 (by decide +kernel) rfl, gw_t 1679 (by decide +kernel) rfl, _, _, rfl⟩
theorem ol_G_1 : Cond.methodLink "GoodbyeAll" 1 Lib.objectInit ∈ gw_tbl := gw_t 22 (by decide +kernel) rfl
theorem kk_G_192 : Cond.constant "GoodbyeAll" 192 (1000000) ∈ gw_tbl := gw_t 642 (by decide +kernel) rfl
theorem kk_G_257 : Cond.constant "GoodbyeAll" 257 (1103515245) ∈ gw_tbl := gw_t 828 (by decide +kernel) rfl
theorem kk_G_334 : Cond.constantLong "GoodbyeAll" 334 (-9223372036854775808) ∈ gw_tbl := gw_t 1053 (by decide +kernel) rfl
theorem ol_B_3 : Cond.methodLink "GoodbyeAll$Bodies" 3 Lib.objectInit ∈ gw_tbl := gw_t 263 (by decide +kernel) rfl
theorem sl_B_26 : Cond.fieldLink "GoodbyeAll$Bodies" 26 "GoodbyeAll$Bodies" "ABOVE" "[I" ∈ gw_tbl := gw_t 982 (by decide +kernel) rfl
theorem sl_B_29 : Cond.fieldLink "GoodbyeAll$Bodies" 29 "GoodbyeAll$Bodies" "OWN" "[I" ∈ gw_tbl := gw_t 977 (by decide +kernel) rfl
theorem ol_C_1 : Cond.methodLink "GoodbyeAll$Changes" 1 Lib.objectInit ∈ gw_tbl := gw_t 235 (by decide +kernel) rfl
theorem ol_E_3 : Cond.methodLink "GoodbyeAll$Evening" 3 Lib.objectInit ∈ gw_tbl := gw_t 205 (by decide +kernel) rfl
theorem ol_H_3 : Cond.methodLink "GoodbyeAll$House" 3 Lib.objectInit ∈ gw_tbl := gw_t 30 (by decide +kernel) rfl
theorem sl_H_23 : Cond.fieldLink "GoodbyeAll$House" 23 "GoodbyeAll$House" "LEAST" "[I" ∈ gw_tbl := gw_t 348 (by decide +kernel) rfl
theorem sl_H_26 : Cond.fieldLink "GoodbyeAll$House" 26 "GoodbyeAll$House" "GREATEST" "[I" ∈ gw_tbl := gw_t 350 (by decide +kernel) rfl
theorem ol_L_1 : Cond.methodLink "GoodbyeAll$Law" 1 Lib.objectInit ∈ gw_tbl := gw_t 58 (by decide +kernel) rfl
theorem ol_V_3 : Cond.methodLink "GoodbyeAll$Leaver" 3 Lib.objectInit ∈ gw_tbl := gw_t 108 (by decide +kernel) rfl
theorem ol_P_3 : Cond.methodLink "GoodbyeAll$Pair" 3 Lib.objectInit ∈ gw_tbl := gw_t 158 (by decide +kernel) rfl
theorem ol_Y_3 : Cond.methodLink "GoodbyeAll$Party" 3 Lib.objectInit ∈ gw_tbl := gw_t 189 (by decide +kernel) rfl
theorem ol_S_3 : Cond.methodLink "GoodbyeAll$Search" 3 Lib.objectInit ∈ gw_tbl := gw_t 130 (by decide +kernel) rfl
theorem ol_F_3 : Cond.methodLink "GoodbyeAll$Shelf" 3 Lib.objectInit ∈ gw_tbl := gw_t 283 (by decide +kernel) rfl
theorem ol_T_1 : Cond.methodLink "GoodbyeAll$Tape" 1 Lib.objectInit ∈ gw_tbl := gw_t 83 (by decide +kernel) rfl
theorem kk_W_158 : Cond.constantLong "GoodbyeAllLaw" 158 (4294967295) ∈ gw_tbl := gw_t 1710 (by decide +kernel) rfl
theorem ol_M_1 : Cond.methodLink "GoodbyeAllModel" 1 Lib.objectInit ∈ gw_tbl := gw_t 1109 (by decide +kernel) rfl
theorem kk_M_146 : Cond.constantLong "GoodbyeAllModel" 146 (2) ∈ gw_tbl := gw_t 1304 (by decide +kernel) rfl
theorem kk_M_314 : Cond.constant "GoodbyeAllModel" 314 (1000000) ∈ gw_tbl := gw_t 1492 (by decide +kernel) rfl
theorem kk_M_351 : Cond.constant "GoodbyeAllModel" 351 (1103515245) ∈ gw_tbl := gw_t 1577 (by decide +kernel) rfl
theorem kk_M_408 : Cond.constantLong "GoodbyeAllModel" 408 (-9223372036854775808) ∈ gw_tbl := gw_t 1701 (by decide +kernel) rfl
theorem kk_J_265 : Cond.constant "java/lang/Integer" 265 (1431655765) ∈ gw_tbl := gw_t 594 (by decide +kernel) rfl
theorem kk_J_266 : Cond.constant "java/lang/Integer" 266 (858993459) ∈ gw_tbl := gw_t 595 (by decide +kernel) rfl
theorem kk_J_267 : Cond.constant "java/lang/Integer" 267 (252645135) ∈ gw_tbl := gw_t 596 (by decide +kernel) rfl
theorem ol_i : Cond.instanceMethod Lib.objectInit ∈ gw_tbl := gw_t 23 (by decide +kernel) rfl
theorem ol_c : Cond.code Lib.objectInit ⟨#[0xb1]⟩ 1 none ∈ gw_tbl := gw_t 24 (by decide +kernel) rfl
theorem ac_int : Cond.arrayClass .int ∈ gw_tbl := gw_t 52 (by decide +kernel) rfl
theorem ac_long : Cond.arrayClass .long ∈ gw_tbl := gw_t 300 (by decide +kernel) rfl
theorem ac_byte : Cond.arrayClass .byte ∈ gw_tbl := gw_t 1281 (by decide +kernel) rfl
theorem ac_short : Cond.arrayClass .short ∈ gw_tbl := gw_t 1282 (by decide +kernel) rfl
