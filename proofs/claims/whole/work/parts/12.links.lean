def R_law : String := "MachineBenchLaw"
theorem fX6_9 : z_flB RX6 9 6 0 = true := z_fl_of 82 rfl rfl (by decide +kernel)
theorem pX6_9 : z_fpB RX6 9 6 0 true (.array .int) = true := z_fp_of fX6_9 rfl (by decide +kernel)
theorem fX4_118 : z_flB RX4 118 6 0 = true := z_fl_of 83 rfl rfl (by decide +kernel)
theorem fX6_15 : z_flB RX6 15 6 1 = true := z_fl_of 84 rfl rfl (by decide +kernel)
theorem pX6_15 : z_fpB RX6 15 6 1 false .int = true := z_fp_of fX6_15 rfl (by decide +kernel)
theorem fX9_104 : z_flB RX9 104 6 1 = true := z_fl_of 85 rfl rfl (by decide +kernel)
theorem pX9_104 : z_fpB RX9 104 6 1 false .int = true := z_fp_of fX9_104 rfl (by decide +kernel)
theorem fX4_115 : z_flB RX4 115 6 1 = true := z_fl_of 86 rfl rfl (by decide +kernel)
theorem pX4_115 : z_fpB RX4 115 6 1 false .int = true := z_fp_of fX4_115 rfl (by decide +kernel)
theorem fX4_34 : z_flB RX4 34 4 0 = true := z_fl_of 101 rfl rfl (by decide +kernel)
theorem pX4_34 : z_fpB RX4 34 4 0 true (.object "MachineBench$Tape") = true := z_fp_of fX4_34 rfl (by decide +kernel)
theorem fX4_11 : z_flB RX4 11 4 1 = true := z_fl_of 102 rfl rfl (by decide +kernel)
theorem pX4_11 : z_fpB RX4 11 4 1 true (.array (.array .int)) = true := z_fp_of fX4_11 rfl (by decide +kernel)
theorem fX4_16 : z_flB RX4 16 4 2 = true := z_fl_of 103 rfl rfl (by decide +kernel)
theorem pX4_16 : z_fpB RX4 16 4 2 true (.array (.array .int)) = true := z_fp_of fX4_16 rfl (by decide +kernel)
theorem fX4_19 : z_flB RX4 19 4 3 = true := z_fl_of 104 rfl rfl (by decide +kernel)
theorem pX4_19 : z_fpB RX4 19 4 3 true (.array .int) = true := z_fp_of fX4_19 rfl (by decide +kernel)
theorem fX4_23 : z_flB RX4 23 4 4 = true := z_fl_of 105 rfl rfl (by decide +kernel)
theorem pX4_23 : z_fpB RX4 23 4 4 false .boolean = true := z_fp_of fX4_23 rfl (by decide +kernel)
theorem fX4_27 : z_flB RX4 27 4 5 = true := z_fl_of 106 rfl rfl (by decide +kernel)
theorem pX4_27 : z_fpB RX4 27 4 5 false .boolean = true := z_fp_of fX4_27 rfl (by decide +kernel)
theorem fX4_30 : z_flB RX4 30 4 6 = true := z_fl_of 107 rfl rfl (by decide +kernel)
theorem pX4_30 : z_fpB RX4 30 4 6 false .int = true := z_fp_of fX4_30 rfl (by decide +kernel)
theorem fX2_9 : z_flB RX2 9 2 0 = true := z_fl_of 131 rfl rfl (by decide +kernel)
theorem pX2_9 : z_fpB RX2 9 2 0 true (.array .int) = true := z_fp_of fX2_9 rfl (by decide +kernel)
theorem fX9_124 : z_flB RX9 124 2 0 = true := z_fl_of 132 rfl rfl (by decide +kernel)
theorem fX4_68 : z_flB RX4 68 2 0 = true := z_fl_of 133 rfl rfl (by decide +kernel)
theorem fX2_15 : z_flB RX2 15 2 1 = true := z_fl_of 134 rfl rfl (by decide +kernel)
theorem pX2_15 : z_fpB RX2 15 2 1 true (.array .int) = true := z_fp_of fX2_15 rfl (by decide +kernel)
theorem fX9_127 : z_flB RX9 127 2 1 = true := z_fl_of 135 rfl rfl (by decide +kernel)
theorem fX4_82 : z_flB RX4 82 2 1 = true := z_fl_of 136 rfl rfl (by decide +kernel)
theorem fX2_18 : z_flB RX2 18 2 2 = true := z_fl_of 137 rfl rfl (by decide +kernel)
theorem pX2_18 : z_fpB RX2 18 2 2 true (.array .int) = true := z_fp_of fX2_18 rfl (by decide +kernel)
theorem fX9_130 : z_flB RX9 130 2 2 = true := z_fl_of 138 rfl rfl (by decide +kernel)
theorem fX4_85 : z_flB RX4 85 2 2 = true := z_fl_of 139 rfl rfl (by decide +kernel)
theorem fX2_23 : z_flB RX2 23 2 3 = true := z_fl_of 140 rfl rfl (by decide +kernel)
theorem pX2_23 : z_fpB RX2 23 2 3 true (.array (.array .int)) = true := z_fp_of fX2_23 rfl (by decide +kernel)
theorem fX4_75 : z_flB RX4 75 2 3 = true := z_fl_of 141 rfl rfl (by decide +kernel)
theorem fX2_26 : z_flB RX2 26 2 4 = true := z_fl_of 142 rfl rfl (by decide +kernel)
theorem pX2_26 : z_fpB RX2 26 2 4 false .int = true := z_fp_of fX2_26 rfl (by decide +kernel)
theorem fX4_42 : z_flB RX4 42 2 4 = true := z_fl_of 143 rfl rfl (by decide +kernel)
theorem pX4_42 : z_fpB RX4 42 2 4 false .int = true := z_fp_of fX4_42 rfl (by decide +kernel)
theorem fX9_119 : z_flB RX9 119 2 4 = true := z_fl_of 144 rfl rfl (by decide +kernel)
theorem pX9_119 : z_fpB RX9 119 2 4 false .int = true := z_fp_of fX9_119 rfl (by decide +kernel)
theorem fX8_11 : z_flB RX8 11 8 0 = true := z_fl_of 166 rfl rfl (by decide +kernel)
theorem pX8_11 : z_fpB RX8 11 8 0 true (.array (.array .int)) = true := z_fp_of fX8_11 rfl (by decide +kernel)
theorem fX3_27 : z_flB RX3 27 8 0 = true := z_fl_of 167 rfl rfl (by decide +kernel)
theorem fX9_140 : z_flB RX9 140 8 0 = true := z_fl_of 168 rfl rfl (by decide +kernel)
theorem fX8_16 : z_flB RX8 16 8 1 = true := z_fl_of 169 rfl rfl (by decide +kernel)
theorem pX8_16 : z_fpB RX8 16 8 1 false .int = true := z_fp_of fX8_16 rfl (by decide +kernel)
theorem fX9_133 : z_flB RX9 133 8 1 = true := z_fl_of 170 rfl rfl (by decide +kernel)
theorem pX9_133 : z_fpB RX9 133 8 1 false .int = true := z_fp_of fX9_133 rfl (by decide +kernel)
theorem fX3_9 : z_flB RX3 9 3 0 = true := z_fl_of 182 rfl rfl (by decide +kernel)
theorem pX3_9 : z_fpB RX3 9 3 0 true (.array .int) = true := z_fp_of fX3_9 rfl (by decide +kernel)
theorem fX7_25 : z_flB RX7 25 3 0 = true := z_fl_of 183 rfl rfl (by decide +kernel)
theorem fX9_174 : z_flB RX9 174 3 0 = true := z_fl_of 184 rfl rfl (by decide +kernel)
theorem fX3_15 : z_flB RX3 15 3 1 = true := z_fl_of 185 rfl rfl (by decide +kernel)
theorem pX3_15 : z_fpB RX3 15 3 1 true (.array .int) = true := z_fp_of fX3_15 rfl (by decide +kernel)
theorem fX7_30 : z_flB RX7 30 3 1 = true := z_fl_of 186 rfl rfl (by decide +kernel)
theorem fX9_180 : z_flB RX9 180 3 1 = true := z_fl_of 187 rfl rfl (by decide +kernel)
theorem fX3_18 : z_flB RX3 18 3 2 = true := z_fl_of 188 rfl rfl (by decide +kernel)
theorem pX3_18 : z_fpB RX3 18 3 2 true (.array .int) = true := z_fp_of fX3_18 rfl (by decide +kernel)
theorem fX9_163 : z_flB RX9 163 3 2 = true := z_fl_of 189 rfl rfl (by decide +kernel)
theorem fX3_21 : z_flB RX3 21 3 3 = true := z_fl_of 190 rfl rfl (by decide +kernel)
theorem pX3_21 : z_fpB RX3 21 3 3 true (.array .int) = true := z_fp_of fX3_21 rfl (by decide +kernel)
theorem fX9_166 : z_flB RX9 166 3 3 = true := z_fl_of 191 rfl rfl (by decide +kernel)
theorem fX3_24 : z_flB RX3 24 3 4 = true := z_fl_of 192 rfl rfl (by decide +kernel)
theorem pX3_24 : z_fpB RX3 24 3 4 true (.array .int) = true := z_fp_of fX3_24 rfl (by decide +kernel)
theorem fX9_169 : z_flB RX9 169 3 4 = true := z_fl_of 193 rfl rfl (by decide +kernel)
theorem fX0_11 : z_flB RX0 11 0 0 = true := z_fl_of 212 rfl rfl (by decide +kernel)
theorem pX0_11 : z_fpB RX0 11 0 0 true (.array (.array .int)) = true := z_fp_of fX0_11 rfl (by decide +kernel)
theorem fX1_22 : z_flB RX1 22 0 0 = true := z_fl_of 213 rfl rfl (by decide +kernel)
theorem fX9_198 : z_flB RX9 198 0 0 = true := z_fl_of 214 rfl rfl (by decide +kernel)
theorem fX0_16 : z_flB RX0 16 0 1 = true := z_fl_of 215 rfl rfl (by decide +kernel)
theorem pX0_16 : z_fpB RX0 16 0 1 false .int = true := z_fp_of fX0_16 rfl (by decide +kernel)
theorem fX1_19 : z_flB RX1 19 0 1 = true := z_fl_of 216 rfl rfl (by decide +kernel)
theorem pX1_19 : z_fpB RX1 19 0 1 false .int = true := z_fp_of fX1_19 rfl (by decide +kernel)
theorem fX9_173 : z_flB RX9 173 0 1 = true := z_fl_of 217 rfl rfl (by decide +kernel)
theorem pX9_173 : z_fpB RX9 173 0 1 false .int = true := z_fp_of fX9_173 rfl (by decide +kernel)
theorem fX1_9 : z_flB RX1 9 1 0 = true := z_fl_of 230 rfl rfl (by decide +kernel)
theorem pX1_9 : z_fpB RX1 9 1 0 true (.array .int) = true := z_fp_of fX1_9 rfl (by decide +kernel)
theorem fX9_226 : z_flB RX9 226 1 0 = true := z_fl_of 231 rfl rfl (by decide +kernel)
theorem fX1_15 : z_flB RX1 15 1 1 = true := z_fl_of 232 rfl rfl (by decide +kernel)
theorem pX1_15 : z_fpB RX1 15 1 1 false .int = true := z_fp_of fX1_15 rfl (by decide +kernel)
theorem fX9_225 : z_flB RX9 225 1 1 = true := z_fl_of 233 rfl rfl (by decide +kernel)
theorem pX9_225 : z_fpB RX9 225 1 1 false .int = true := z_fp_of fX9_225 rfl (by decide +kernel)
theorem fX7_9 : z_flB RX7 9 7 0 = true := z_fl_of 245 rfl rfl (by decide +kernel)
theorem pX7_9 : z_fpB RX7 9 7 0 true (.array .int) = true := z_fp_of fX7_9 rfl (by decide +kernel)
theorem fX7_15 : z_flB RX7 15 7 1 = true := z_fl_of 246 rfl rfl (by decide +kernel)
theorem pX7_15 : z_fpB RX7 15 7 1 true (.array .int) = true := z_fp_of fX7_15 rfl (by decide +kernel)
theorem fX7_18 : z_flB RX7 18 7 2 = true := z_fl_of 247 rfl rfl (by decide +kernel)
theorem pX7_18 : z_fpB RX7 18 7 2 true (.array .int) = true := z_fp_of fX7_18 rfl (by decide +kernel)
theorem fX7_21 : z_flB RX7 21 7 3 = true := z_fl_of 248 rfl rfl (by decide +kernel)
theorem pX7_21 : z_fpB RX7 21 7 3 false .int = true := z_fp_of fX7_21 rfl (by decide +kernel)
theorem fX9_247 : z_flB RX9 247 7 3 = true := z_fl_of 249 rfl rfl (by decide +kernel)
theorem pX9_247 : z_fpB RX9 247 7 3 false .int = true := z_fp_of fX9_247 rfl (by decide +kernel)
theorem fX5_9 : z_flB RX5 9 5 0 = true := z_fl_of 266 rfl rfl (by decide +kernel)
theorem pX5_9 : z_fpB RX5 9 5 0 true (.array .int) = true := z_fp_of fX5_9 rfl (by decide +kernel)
theorem fX9_151 : z_flB RX9 151 5 0 = true := z_fl_of 267 rfl rfl (by decide +kernel)
theorem fX5_15 : z_flB RX5 15 5 1 = true := z_fl_of 268 rfl rfl (by decide +kernel)
theorem pX5_15 : z_fpB RX5 15 5 1 false .int = true := z_fp_of fX5_15 rfl (by decide +kernel)
theorem fX9_303 : z_flB RX9 303 5 1 = true := z_fl_of 269 rfl rfl (by decide +kernel)
theorem pX9_303 : z_fpB RX9 303 5 1 false .int = true := z_fp_of fX9_303 rfl (by decide +kernel)
theorem fX5_19 : z_flB RX5 19 5 2 = true := z_fl_of 270 rfl rfl (by decide +kernel)
theorem pX5_19 : z_fpB RX5 19 5 2 false .int = true := z_fp_of fX5_19 rfl (by decide +kernel)
theorem fX9_306 : z_flB RX9 306 5 2 = true := z_fl_of 271 rfl rfl (by decide +kernel)
theorem pX9_306 : z_fpB RX9 306 5 2 false .int = true := z_fp_of fX9_306 rfl (by decide +kernel)
theorem fX9_10 : z_flB RX9 10 9 0 = true := z_fl_of 280 rfl rfl (by decide +kernel)
theorem pX9_10 : z_fpB RX9 10 9 0 true (.object "MachineBench$Tape") = true := z_fp_of fX9_10 rfl (by decide +kernel)
theorem fX9_21 : z_flB RX9 21 9 1 = true := z_fl_of 281 rfl rfl (by decide +kernel)
theorem pX9_21 : z_fpB RX9 21 9 1 true (.object "MachineBench$Reader") = true := z_fp_of fX9_21 rfl (by decide +kernel)
theorem fX9_28 : z_flB RX9 28 9 2 = true := z_fl_of 282 rfl rfl (by decide +kernel)
theorem pX9_28 : z_fpB RX9 28 9 2 true (.array (.object "MachineBench$Machine")) = true := z_fp_of fX9_28 rfl (by decide +kernel)
theorem fX9_32 : z_flB RX9 32 9 3 = true := z_fl_of 283 rfl rfl (by decide +kernel)
theorem pX9_32 : z_fpB RX9 32 9 3 false (.object "MachineBench$Machine") = true := z_fp_of fX9_32 rfl (by decide +kernel)
theorem fX9_39 : z_flB RX9 39 9 4 = true := z_fl_of 284 rfl rfl (by decide +kernel)
theorem pX9_39 : z_fpB RX9 39 9 4 true (.object "MachineBench$World") = true := z_fp_of fX9_39 rfl (by decide +kernel)
theorem fX9_46 : z_flB RX9 46 9 5 = true := z_fl_of 285 rfl rfl (by decide +kernel)
theorem pX9_46 : z_fpB RX9 46 9 5 true (.object "MachineBench$Play") = true := z_fp_of fX9_46 rfl (by decide +kernel)
theorem fX9_53 : z_flB RX9 53 9 6 = true := z_fl_of 286 rfl rfl (by decide +kernel)
theorem pX9_53 : z_fpB RX9 53 9 6 true (.object "MachineBench$Book") = true := z_fp_of fX9_53 rfl (by decide +kernel)
theorem fX9_60 : z_flB RX9 60 9 7 = true := z_fl_of 287 rfl rfl (by decide +kernel)
theorem pX9_60 : z_fpB RX9 60 9 7 true (.array (.object "MachineBench$Keeper")) = true := z_fp_of fX9_60 rfl (by decide +kernel)
theorem fX9_67 : z_flB RX9 67 9 8 = true := z_fl_of 288 rfl rfl (by decide +kernel)
theorem pX9_67 : z_fpB RX9 67 9 8 true (.object "MachineBench$Things") = true := z_fp_of fX9_67 rfl (by decide +kernel)
theorem fX9_71 : z_flB RX9 71 9 9 = true := z_fl_of 289 rfl rfl (by decide +kernel)
theorem pX9_71 : z_fpB RX9 71 9 9 true (.array .boolean) = true := z_fp_of fX9_71 rfl (by decide +kernel)
theorem fX9_75 : z_flB RX9 75 9 10 = true := z_fl_of 290 rfl rfl (by decide +kernel)
theorem pX9_75 : z_fpB RX9 75 9 10 true (.array .int) = true := z_fp_of fX9_75 rfl (by decide +kernel)
theorem fX9_79 : z_flB RX9 79 9 11 = true := z_fl_of 291 rfl rfl (by decide +kernel)
theorem pX9_79 : z_fpB RX9 79 9 11 true (.array .int) = true := z_fp_of fX9_79 rfl (by decide +kernel)
theorem fX9_85 : z_flB RX9 85 9 12 = true := z_fl_of 292 rfl rfl (by decide +kernel)
theorem pX9_85 : z_fpB RX9 85 9 12 true (.array (.object "MachineBench$Sheet")) = true := z_fp_of fX9_85 rfl (by decide +kernel)
theorem fX9_89 : z_flB RX9 89 9 13 = true := z_fl_of 293 rfl rfl (by decide +kernel)
theorem pX9_89 : z_fpB RX9 89 9 13 false .boolean = true := z_fp_of fX9_89 rfl (by decide +kernel)
theorem fX9_93 : z_flB RX9 93 9 14 = true := z_fl_of 294 rfl rfl (by decide +kernel)
theorem pX9_93 : z_fpB RX9 93 9 14 false .int = true := z_fp_of fX9_93 rfl (by decide +kernel)
theorem fX9_97 : z_flB RX9 97 9 15 = true := z_fl_of 295 rfl rfl (by decide +kernel)
theorem pX9_97 : z_fpB RX9 97 9 15 false .int = true := z_fp_of fX9_97 rfl (by decide +kernel)
theorem fX10_7 : z_flB RX10 7 10 0 = true := z_fl_of 735 rfl rfl (by decide +kernel)
theorem pX10_7 : z_fpB RX10 7 10 0 true (.array .int) = true := z_fp_of fX10_7 rfl (by decide +kernel)
theorem fX10_141 : z_flB RX10 141 10 1 = true := z_fl_of 736 rfl rfl (by decide +kernel)
theorem pX10_141 : z_fpB RX10 141 10 1 false .int = true := z_fp_of fX10_141 rfl (by decide +kernel)
theorem fX10_144 : z_flB RX10 144 10 2 = true := z_fl_of 737 rfl rfl (by decide +kernel)
theorem pX10_144 : z_fpB RX10 144 10 2 false .int = true := z_fp_of fX10_144 rfl (by decide +kernel)
theorem fX10_147 : z_flB RX10 147 10 3 = true := z_fl_of 738 rfl rfl (by decide +kernel)
theorem pX10_147 : z_fpB RX10 147 10 3 false .boolean = true := z_fp_of fX10_147 rfl (by decide +kernel)
theorem fX10_13 : z_flB RX10 13 10 4 = true := z_fl_of 739 rfl rfl (by decide +kernel)
theorem pX10_13 : z_fpB RX10 13 10 4 true (.array .boolean) = true := z_fp_of fX10_13 rfl (by decide +kernel)
theorem fX10_17 : z_flB RX10 17 10 5 = true := z_fl_of 740 rfl rfl (by decide +kernel)
theorem pX10_17 : z_fpB RX10 17 10 5 true (.array .boolean) = true := z_fp_of fX10_17 rfl (by decide +kernel)
theorem fX10_20 : z_flB RX10 20 10 6 = true := z_fl_of 741 rfl rfl (by decide +kernel)
theorem pX10_20 : z_fpB RX10 20 10 6 true (.array .boolean) = true := z_fp_of fX10_20 rfl (by decide +kernel)
theorem fX10_23 : z_flB RX10 23 10 7 = true := z_fl_of 742 rfl rfl (by decide +kernel)
theorem pX10_23 : z_fpB RX10 23 10 7 true (.array .int) = true := z_fp_of fX10_23 rfl (by decide +kernel)
theorem fX10_26 : z_flB RX10 26 10 8 = true := z_fl_of 743 rfl rfl (by decide +kernel)
theorem pX10_26 : z_fpB RX10 26 10 8 true (.array .int) = true := z_fp_of fX10_26 rfl (by decide +kernel)
theorem fX10_29 : z_flB RX10 29 10 9 = true := z_fl_of 744 rfl rfl (by decide +kernel)
theorem pX10_29 : z_fpB RX10 29 10 9 true (.array .int) = true := z_fp_of fX10_29 rfl (by decide +kernel)
theorem fX10_32 : z_flB RX10 32 10 10 = true := z_fl_of 745 rfl rfl (by decide +kernel)
theorem pX10_32 : z_fpB RX10 32 10 10 true (.array .int) = true := z_fp_of fX10_32 rfl (by decide +kernel)
theorem fX10_35 : z_flB RX10 35 10 11 = true := z_fl_of 746 rfl rfl (by decide +kernel)
theorem pX10_35 : z_fpB RX10 35 10 11 true (.array .boolean) = true := z_fp_of fX10_35 rfl (by decide +kernel)
theorem fX10_38 : z_flB RX10 38 10 12 = true := z_fl_of 747 rfl rfl (by decide +kernel)
theorem pX10_38 : z_fpB RX10 38 10 12 true (.array .int) = true := z_fp_of fX10_38 rfl (by decide +kernel)
theorem fX10_41 : z_flB RX10 41 10 13 = true := z_fl_of 748 rfl rfl (by decide +kernel)
theorem pX10_41 : z_fpB RX10 41 10 13 true (.array .int) = true := z_fp_of fX10_41 rfl (by decide +kernel)
theorem fX10_44 : z_flB RX10 44 10 14 = true := z_fl_of 749 rfl rfl (by decide +kernel)
theorem pX10_44 : z_fpB RX10 44 10 14 true (.array .int) = true := z_fp_of fX10_44 rfl (by decide +kernel)
theorem fX10_47 : z_flB RX10 47 10 15 = true := z_fl_of 750 rfl rfl (by decide +kernel)
theorem pX10_47 : z_fpB RX10 47 10 15 true (.array .boolean) = true := z_fp_of fX10_47 rfl (by decide +kernel)
theorem fX10_50 : z_flB RX10 50 10 16 = true := z_fl_of 751 rfl rfl (by decide +kernel)
theorem pX10_50 : z_fpB RX10 50 10 16 false .int = true := z_fp_of fX10_50 rfl (by decide +kernel)
theorem fX10_54 : z_flB RX10 54 10 17 = true := z_fl_of 752 rfl rfl (by decide +kernel)
theorem pX10_54 : z_fpB RX10 54 10 17 true (.array .int) = true := z_fp_of fX10_54 rfl (by decide +kernel)
theorem fX10_57 : z_flB RX10 57 10 18 = true := z_fl_of 753 rfl rfl (by decide +kernel)
theorem pX10_57 : z_fpB RX10 57 10 18 true (.array .int) = true := z_fp_of fX10_57 rfl (by decide +kernel)
theorem fX10_60 : z_flB RX10 60 10 19 = true := z_fl_of 754 rfl rfl (by decide +kernel)
theorem pX10_60 : z_fpB RX10 60 10 19 true (.array .int) = true := z_fp_of fX10_60 rfl (by decide +kernel)
theorem fX10_63 : z_flB RX10 63 10 20 = true := z_fl_of 755 rfl rfl (by decide +kernel)
theorem pX10_63 : z_fpB RX10 63 10 20 true (.array .int) = true := z_fp_of fX10_63 rfl (by decide +kernel)
theorem fX10_66 : z_flB RX10 66 10 21 = true := z_fl_of 756 rfl rfl (by decide +kernel)
theorem pX10_66 : z_fpB RX10 66 10 21 true (.array .int) = true := z_fp_of fX10_66 rfl (by decide +kernel)
theorem fX10_69 : z_flB RX10 69 10 22 = true := z_fl_of 757 rfl rfl (by decide +kernel)
theorem pX10_69 : z_fpB RX10 69 10 22 true (.array .int) = true := z_fp_of fX10_69 rfl (by decide +kernel)
theorem fX10_72 : z_flB RX10 72 10 23 = true := z_fl_of 758 rfl rfl (by decide +kernel)
theorem pX10_72 : z_fpB RX10 72 10 23 true (.array .int) = true := z_fp_of fX10_72 rfl (by decide +kernel)
theorem fX10_75 : z_flB RX10 75 10 24 = true := z_fl_of 759 rfl rfl (by decide +kernel)
theorem pX10_75 : z_fpB RX10 75 10 24 true (.array .int) = true := z_fp_of fX10_75 rfl (by decide +kernel)
theorem fX10_209 : z_flB RX10 209 10 25 = true := z_fl_of 760 rfl rfl (by decide +kernel)
theorem pX10_209 : z_fpB RX10 209 10 25 false .int = true := z_fp_of fX10_209 rfl (by decide +kernel)
theorem fX10_78 : z_flB RX10 78 10 26 = true := z_fl_of 761 rfl rfl (by decide +kernel)
theorem pX10_78 : z_fpB RX10 78 10 26 true (.array .int) = true := z_fp_of fX10_78 rfl (by decide +kernel)
theorem fX10_81 : z_flB RX10 81 10 27 = true := z_fl_of 762 rfl rfl (by decide +kernel)
theorem pX10_81 : z_fpB RX10 81 10 27 true (.array .int) = true := z_fp_of fX10_81 rfl (by decide +kernel)
theorem fX10_84 : z_flB RX10 84 10 28 = true := z_fl_of 763 rfl rfl (by decide +kernel)
theorem pX10_84 : z_fpB RX10 84 10 28 true (.array .int) = true := z_fp_of fX10_84 rfl (by decide +kernel)
theorem fX10_87 : z_flB RX10 87 10 29 = true := z_fl_of 764 rfl rfl (by decide +kernel)
theorem pX10_87 : z_fpB RX10 87 10 29 true (.array .int) = true := z_fp_of fX10_87 rfl (by decide +kernel)
theorem fX10_90 : z_flB RX10 90 10 30 = true := z_fl_of 765 rfl rfl (by decide +kernel)
theorem pX10_90 : z_fpB RX10 90 10 30 true (.array .int) = true := z_fp_of fX10_90 rfl (by decide +kernel)
theorem fX10_93 : z_flB RX10 93 10 31 = true := z_fl_of 766 rfl rfl (by decide +kernel)
theorem pX10_93 : z_fpB RX10 93 10 31 true (.array .int) = true := z_fp_of fX10_93 rfl (by decide +kernel)
theorem fX10_247 : z_flB RX10 247 10 32 = true := z_fl_of 767 rfl rfl (by decide +kernel)
theorem pX10_247 : z_fpB RX10 247 10 32 false .int = true := z_fp_of fX10_247 rfl (by decide +kernel)
theorem fX10_96 : z_flB RX10 96 10 33 = true := z_fl_of 768 rfl rfl (by decide +kernel)
theorem pX10_96 : z_fpB RX10 96 10 33 false .int = true := z_fp_of fX10_96 rfl (by decide +kernel)
theorem fX10_244 : z_flB RX10 244 10 34 = true := z_fl_of 769 rfl rfl (by decide +kernel)
theorem pX10_244 : z_fpB RX10 244 10 34 false .int = true := z_fp_of fX10_244 rfl (by decide +kernel)
theorem fX10_99 : z_flB RX10 99 10 35 = true := z_fl_of 770 rfl rfl (by decide +kernel)
theorem pX10_99 : z_fpB RX10 99 10 35 true (.array .int) = true := z_fp_of fX10_99 rfl (by decide +kernel)
theorem fX10_102 : z_flB RX10 102 10 36 = true := z_fl_of 771 rfl rfl (by decide +kernel)
theorem pX10_102 : z_fpB RX10 102 10 36 true (.array .int) = true := z_fp_of fX10_102 rfl (by decide +kernel)
theorem fX10_105 : z_flB RX10 105 10 37 = true := z_fl_of 772 rfl rfl (by decide +kernel)
theorem pX10_105 : z_fpB RX10 105 10 37 true (.array .int) = true := z_fp_of fX10_105 rfl (by decide +kernel)
theorem fX10_108 : z_flB RX10 108 10 38 = true := z_fl_of 773 rfl rfl (by decide +kernel)
theorem pX10_108 : z_fpB RX10 108 10 38 true (.array .boolean) = true := z_fp_of fX10_108 rfl (by decide +kernel)
theorem fX10_275 : z_flB RX10 275 10 39 = true := z_fl_of 774 rfl rfl (by decide +kernel)
theorem pX10_275 : z_fpB RX10 275 10 39 false .boolean = true := z_fp_of fX10_275 rfl (by decide +kernel)
theorem fX10_111 : z_flB RX10 111 10 40 = true := z_fl_of 775 rfl rfl (by decide +kernel)
theorem pX10_111 : z_fpB RX10 111 10 40 true (.array .boolean) = true := z_fp_of fX10_111 rfl (by decide +kernel)
theorem fX10_114 : z_flB RX10 114 10 41 = true := z_fl_of 776 rfl rfl (by decide +kernel)
theorem pX10_114 : z_fpB RX10 114 10 41 true (.array .boolean) = true := z_fp_of fX10_114 rfl (by decide +kernel)
theorem fX10_117 : z_flB RX10 117 10 42 = true := z_fl_of 777 rfl rfl (by decide +kernel)
theorem pX10_117 : z_fpB RX10 117 10 42 true (.array .int) = true := z_fp_of fX10_117 rfl (by decide +kernel)
theorem fX10_120 : z_flB RX10 120 10 43 = true := z_fl_of 778 rfl rfl (by decide +kernel)
theorem pX10_120 : z_fpB RX10 120 10 43 true (.array .int) = true := z_fp_of fX10_120 rfl (by decide +kernel)
theorem fX10_123 : z_flB RX10 123 10 44 = true := z_fl_of 779 rfl rfl (by decide +kernel)
theorem pX10_123 : z_fpB RX10 123 10 44 true (.array .int) = true := z_fp_of fX10_123 rfl (by decide +kernel)
theorem fX10_126 : z_flB RX10 126 10 45 = true := z_fl_of 780 rfl rfl (by decide +kernel)
theorem pX10_126 : z_fpB RX10 126 10 45 true (.array .int) = true := z_fp_of fX10_126 rfl (by decide +kernel)
theorem kL_9 : z_ciB R_law 9 yX9_init cX9_init 1 0 = true := z_ci_of 72 70 53 71 (by decide +kernel) (by decide +kernel) (by decide +kernel) (by decide +kernel) rfl (by decide +kernel) rfl
theorem kX9_9 : z_ciNB RX9 9 yX6_init cX6_init 1 0 = true := z_ciN_of 80 78 54 79 (by decide +kernel) (by decide +kernel) (by decide +kernel) (by decide +kernel) rfl (by decide +kernel) rfl
theorem kX9_18 : z_ciB RX9 18 yX4_init cX4_init 2 1 = true := z_ci_of 97 95 55 96 (by decide +kernel) (by decide +kernel) (by decide +kernel) (by decide +kernel) rfl (by decide +kernel) rfl
theorem kX9_27 : z_ciNB RX9 27 yX2_init cX2_init 1 0 = true := z_ciN_of 128 126 56 127 (by decide +kernel) (by decide +kernel) (by decide +kernel) (by decide +kernel) rfl (by decide +kernel) rfl
theorem kX9_38 : z_ciB RX9 38 yX8_init cX8_init 1 0 = true := z_ci_of 160 158 57 159 (by decide +kernel) (by decide +kernel) (by decide +kernel) (by decide +kernel) rfl (by decide +kernel) rfl
theorem kX8_20 : z_csB RX8 20 yJ7_fill_53178 cJ7_fill_53178 4 none 2 = true := z_cs_of [163, 164, 58, 165] (by decide +kernel) (by decide +kernel) rfl
theorem kX9_45 : z_ciNB RX9 45 yX3_init cX3_init 1 0 = true := z_ciN_of 180 178 59 179 (by decide +kernel) (by decide +kernel) (by decide +kernel) (by decide +kernel) rfl (by decide +kernel) rfl
theorem kX9_52 : z_ciNB RX9 52 yX0_init cX0_init 1 0 = true := z_ciN_of 209 207 60 208 (by decide +kernel) (by decide +kernel) (by decide +kernel) (by decide +kernel) rfl (by decide +kernel) rfl
theorem kX9_59 : z_ciNB RX9 59 yX1_init cX1_init 1 0 = true := z_ciN_of 228 226 61 227 (by decide +kernel) (by decide +kernel) (by decide +kernel) (by decide +kernel) rfl (by decide +kernel) rfl
theorem kX9_66 : z_ciNB RX9 66 yX7_init cX7_init 1 0 = true := z_ciN_of 243 241 62 242 (by decide +kernel) (by decide +kernel) (by decide +kernel) (by decide +kernel) rfl (by decide +kernel) rfl
theorem kX9_84 : z_ciNB RX9 84 yX5_init cX5_init 1 0 = true := z_ciN_of 264 262 63 263 (by decide +kernel) (by decide +kernel) (by decide +kernel) (by decide +kernel) rfl (by decide +kernel) rfl
theorem kL_15 : z_cvB R_law 15 9 yX9_type cX9_type 6 (some .int) 2 = true := z_cv_of [329, 330, 331, 53, 332] rfl (by decide +kernel) (by decide +kernel) rfl
theorem kX9_100 : z_csB RX9 100 yX9_byteOf cX9_byteOf 3 (some .int) 2 = true := z_cs_of [333, 334, 53, 335] (by decide +kernel) (by decide +kernel) rfl
theorem kX9_107 : z_cvB RX9 107 6 yX6_add cX6_add 2 none 1 = true := z_cv_of [336, 337, 338, 54, 339] rfl (by decide +kernel) (by decide +kernel) rfl
theorem kL_20 : z_cvB R_law 20 9 yX9_rules cX9_rules 4 (some .int) 1 = true := z_cv_of [340, 341, 342, 53, 343] rfl (by decide +kernel) (by decide +kernel) rfl
theorem kX9_111 : z_cvB RX9 111 9 yX9_noMachine cX9_noMachine 2 (some .boolean) 1 = true := z_cv_of [344, 346, 0, 53, 347] rfl (by decide +kernel) (by decide +kernel) rfl
theorem kX9_120 : z_csB RX9 120 yX9_beyond cX9_beyond 2 (some .boolean) 2 = true := z_cs_of [348, 349, 53, 350] (by decide +kernel) (by decide +kernel) rfl
theorem kX9_115 : z_cvB RX9 115 4 yX4_readRules cX4_readRules 3 (some .int) 1 = true := z_cv_of [351, 352, 353, 55, 354] rfl (by decide +kernel) (by decide +kernel) rfl
theorem kX4_38 : z_cvB RX4 38 4 yX4_start cX4_start 2 none 1 = true := z_cv_of [355, 357, 1, 55, 358] rfl (by decide +kernel) (by decide +kernel) rfl
theorem kX4_47 : z_cvB RX4 47 4 yX4_readClause cX4_readClause 3 none 2 = true := z_cv_of [359, 361, 2, 55, 362] rfl (by decide +kernel) (by decide +kernel) rfl
theorem kX4_71 : z_cvB RX4 71 4 yX4_takeDigit cX4_takeDigit 2 (some .int) 0 = true := z_cv_of [363, 365, 3, 55, 366] rfl (by decide +kernel) (by decide +kernel) rfl
theorem kX4_108 : z_cvB RX4 108 4 yX4_nextSign cX4_nextSign 1 (some .int) 0 = true := z_cv_of [367, 369, 4, 55, 370] rfl (by decide +kernel) (by decide +kernel) rfl
theorem kX4_111 : z_csNB RX4 111 yX9_beyond cX9_beyond 2 (some .boolean) 2 = true := z_csN_of 350 371 53 349 (by decide +kernel) (by decide +kernel) (by decide +kernel) (by decide +kernel) (by decide +kernel) rfl
theorem kX4_58 : z_cvB RX4 58 4 yX4_readTest cX4_readTest 5 none 1 = true := z_cv_of [372, 374, 5, 55, 375] rfl (by decide +kernel) (by decide +kernel) rfl
theorem kX4_88 : z_csB RX4 88 yJ7_fill_53178 cJ7_fill_53178 4 none 2 = true := z_cs_of [376, 164, 58, 165] (by decide +kernel) (by decide +kernel) rfl
theorem kX4_94 : z_cvB RX4 94 4 yX4_readCase cX4_readCase 5 none 1 = true := z_cv_of [377, 379, 6, 55, 380] rfl (by decide +kernel) (by decide +kernel) rfl
theorem kX4_97 : z_cvB RX4 97 4 yX4_readClaim cX4_readClaim 4 none 1 = true := z_cv_of [381, 383, 7, 55, 384] rfl (by decide +kernel) (by decide +kernel) rfl
theorem kX4_51 : z_cvB RX4 51 4 yX4_takes cX4_takes 2 (some .boolean) 1 = true := z_cv_of [385, 387, 8, 55, 388] rfl (by decide +kernel) (by decide +kernel) rfl
theorem kX4_103 : z_cvB RX4 103 4 yX4_claimWords cX4_claimWords 4 none 2 = true := z_cv_of [391, 393, 9, 55, 394] rfl (by decide +kernel) (by decide +kernel) rfl
theorem kX4_78 : z_cvB RX4 78 4 yX4_need cX4_need 2 none 1 = true := z_cv_of [396, 398, 10, 55, 399] rfl (by decide +kernel) (by decide +kernel) rfl
theorem kX4_55 : z_cvB RX4 55 4 yX4_needEnd cX4_needEnd 1 none 0 = true := z_cv_of [403, 405, 11, 55, 406] rfl (by decide +kernel) (by decide +kernel) rfl
theorem kL_25 : z_cvB R_law 25 9 yX9_rule cX9_rule 5 (some .int) 3 = true := z_cv_of [407, 408, 409, 53, 410] rfl (by decide +kernel) (by decide +kernel) rfl
theorem kL_30 : z_cvB R_law 30 9 yX9_ticks cX9_ticks 3 (some .int) 1 = true := z_cv_of [411, 412, 413, 53, 414] rfl (by decide +kernel) (by decide +kernel) rfl
theorem kX9_134 : z_cvB RX9 134 8 yX8_resize cX8_resize 3 none 1 = true := z_cv_of [415, 416, 417, 57, 418] rfl (by decide +kernel) (by decide +kernel) rfl
theorem kL_34 : z_cvB R_law 34 9 yX9_world cX9_world 5 (some .int) 3 = true := z_cv_of [419, 420, 421, 53, 422] rfl (by decide +kernel) (by decide +kernel) rfl
theorem kX9_137 : z_cvB RX9 137 9 yX9_noTick cX9_noTick 2 (some .boolean) 1 = true := z_cv_of [423, 425, 12, 53, 426] rfl (by decide +kernel) (by decide +kernel) rfl
theorem kL_38 : z_cvB R_law 38 9 yX9_sights cX9_sights 7 (some .int) 3 = true := z_cv_of [427, 428, 429, 53, 430] rfl (by decide +kernel) (by decide +kernel) rfl
theorem kX9_144 : z_cvB RX9 144 9 yX9_noSheet cX9_noSheet 2 (some .boolean) 1 = true := z_cv_of [431, 433, 13, 53, 434] rfl (by decide +kernel) (by decide +kernel) rfl
theorem kX9_147 : z_cvB RX9 147 5 yX5_findFault cX5_findFault 4 (some .int) 3 = true := z_cv_of [435, 436, 437, 63, 438] rfl (by decide +kernel) (by decide +kernel) rfl
theorem kX5_28 : z_cvB RX5 28 5 yX5_lacks cX5_lacks 3 (some .boolean) 2 = true := z_cv_of [439, 440, 441, 63, 442] rfl (by decide +kernel) (by decide +kernel) rfl
theorem kL_42 : z_cvB R_law 42 9 yX9_lots cX9_lots 7 (some .int) 2 = true := z_cv_of [444, 445, 446, 53, 447] rfl (by decide +kernel) (by decide +kernel) rfl
theorem kL_47 : z_cvB R_law 47 9 yX9_play cX9_play 4 (some .int) 3 = true := z_cv_of [448, 449, 450, 53, 451] rfl (by decide +kernel) (by decide +kernel) rfl
theorem kX9_159 : z_cvB RX9 159 9 yX9_playAsIs cX9_playAsIs 2 none 1 = true := z_cv_of [452, 454, 14, 53, 455] rfl (by decide +kernel) (by decide +kernel) rfl
theorem kX9_229 : z_cvB RX9 229 3 yX3_look cX3_look 2 none 1 = true := z_cv_of [456, 457, 458, 59, 459] rfl (by decide +kernel) (by decide +kernel) rfl
theorem kX9_236 : z_cvB RX9 236 3 yX3_run cX3_run 7 none 3 = true := z_cv_of [461, 462, 463, 59, 464] rfl (by decide +kernel) (by decide +kernel) rfl
theorem kX3_39 : z_cvB RX3 39 2 yX2_choose cX2_choose 5 (some .int) 3 = true := z_cv_of [465, 466, 467, 56, 468] rfl (by decide +kernel) (by decide +kernel) rfl
theorem kX3_45 : z_cvB RX3 45 2 yX2_actOf cX2_actOf 2 (some .int) 1 = true := z_cv_of [469, 470, 471, 56, 472] rfl (by decide +kernel) (by decide +kernel) rfl
theorem kX3_49 : z_cvB RX3 49 2 yX2_stateAfter cX2_stateAfter 3 (some .int) 2 = true := z_cv_of [473, 474, 475, 56, 476] rfl (by decide +kernel) (by decide +kernel) rfl
theorem kL_51 : z_cvB R_law 51 9 yX9_chooses cX9_chooses 5 (some .int) 4 = true := z_cv_of [477, 478, 479, 53, 480] rfl (by decide +kernel) (by decide +kernel) rfl
theorem kX9_170 : z_cvB RX9 170 2 yX2_choose cX2_choose 5 (some .int) 3 = true := z_cv_of [481, 466, 467, 56, 468] rfl (by decide +kernel) (by decide +kernel) rfl
theorem kL_56 : z_cvB R_law 56 9 yX9_write cX9_write 3 (some .int) 1 = true := z_cv_of [482, 483, 484, 53, 485] rfl (by decide +kernel) (by decide +kernel) rfl
theorem kX9_177 : z_cvB RX9 177 0 yX0_add cX0_add 4 none 3 = true := z_cv_of [486, 487, 488, 60, 489] rfl (by decide +kernel) (by decide +kernel) rfl
theorem kX9_183 : z_csB RX9 183 yJ9_max_7cf53 cJ9_max_7cf53 2 (some .int) 2 = true := z_cs_of [490, 491, 66, 492] (by decide +kernel) (by decide +kernel) rfl
theorem kX9_189 : z_cvB RX9 189 0 yX0_lose cX0_lose 5 none 1 = true := z_cv_of [493, 494, 495, 60, 496] rfl (by decide +kernel) (by decide +kernel) rfl
theorem kX9_192 : z_cvB RX9 192 0 yX0_sealAll cX0_sealAll 4 none 0 = true := z_cv_of [499, 500, 501, 60, 502] rfl (by decide +kernel) (by decide +kernel) rfl
theorem kL_60 : z_cvB R_law 60 9 yX9_tell cX9_tell 3 (some .int) 2 = true := z_cv_of [503, 504, 505, 53, 506] rfl (by decide +kernel) (by decide +kernel) rfl
theorem kL_64 : z_cvB R_law 64 9 yX9_line cX9_line 3 (some .int) 2 = true := z_cv_of [507, 508, 509, 53, 510] rfl (by decide +kernel) (by decide +kernel) rfl
theorem kX9_195 : z_cvB RX9 195 9 yX9_noLine cX9_noLine 2 (some .boolean) 1 = true := z_cv_of [511, 513, 15, 53, 514] rfl (by decide +kernel) (by decide +kernel) rfl
theorem kX9_201 : z_cvB RX9 201 9 yX9_countHolders cX9_countHolders 3 (some .int) 0 = true := z_cv_of [515, 517, 16, 53, 518] rfl (by decide +kernel) (by decide +kernel) rfl
theorem kX9_205 : z_cvB RX9 205 9 yX9_isHeld cX9_isHeld 5 (some .boolean) 2 = true := z_cv_of [519, 521, 17, 53, 522] rfl (by decide +kernel) (by decide +kernel) rfl
theorem kL_68 : z_cvB R_law 68 9 yX9_forge cX9_forge 4 (some .int) 2 = true := z_cv_of [523, 524, 525, 53, 526] rfl (by decide +kernel) (by decide +kernel) rfl
theorem kL_72 : z_cvB R_law 72 9 yX9_swap cX9_swap 3 (some .int) 2 = true := z_cv_of [529, 530, 531, 53, 532] rfl (by decide +kernel) (by decide +kernel) rfl
theorem kX9_211 : z_cvB RX9 211 0 yX0_exchange cX0_exchange 5 none 2 = true := z_cv_of [533, 534, 535, 60, 536] rfl (by decide +kernel) (by decide +kernel) rfl
theorem kL_76 : z_cvB R_law 76 9 yX9_tear cX9_tear 2 (some .int) 1 = true := z_cv_of [537, 538, 539, 53, 540] rfl (by decide +kernel) (by decide +kernel) rfl
theorem kX9_215 : z_cvB RX9 215 0 yX0_takeOut cX0_takeOut 3 none 1 = true := z_cv_of [541, 542, 543, 60, 544] rfl (by decide +kernel) (by decide +kernel) rfl
theorem kL_80 : z_cvB R_law 80 9 yX9_give cX9_give 2 (some .int) 1 = true := z_cv_of [546, 547, 548, 53, 549] rfl (by decide +kernel) (by decide +kernel) rfl
theorem kX9_218 : z_cvB RX9 218 9 yX9_noKeeper cX9_noKeeper 2 (some .boolean) 1 = true := z_cv_of [550, 552, 18, 53, 553] rfl (by decide +kernel) (by decide +kernel) rfl
theorem kX9_221 : z_cvB RX9 221 1 yX1_hold cX1_hold 2 none 1 = true := z_cv_of [554, 555, 556, 61, 557] rfl (by decide +kernel) (by decide +kernel) rfl
theorem kL_84 : z_cvB R_law 84 9 yX9_kept cX9_kept 3 (some .int) 2 = true := z_cv_of [559, 560, 561, 53, 562] rfl (by decide +kernel) (by decide +kernel) rfl
theorem kL_88 : z_cvB R_law 88 9 yX9_torn cX9_torn 3 (some .int) 0 = true := z_cv_of [563, 564, 565, 53, 566] rfl (by decide +kernel) (by decide +kernel) rfl
theorem kL_93 : z_cvB R_law 93 9 yX9_differs cX9_differs 3 (some .int) 0 = true := z_cv_of [567, 568, 569, 53, 570] rfl (by decide +kernel) (by decide +kernel) rfl
theorem kX9_233 : z_cvB RX9 233 9 yX9_seeByBook cX9_seeByBook 3 none 0 = true := z_cv_of [571, 573, 19, 53, 574] rfl (by decide +kernel) (by decide +kernel) rfl
theorem kX9_240 : z_cvB RX9 240 9 yX9_isUnlikePlayed cX9_isUnlikePlayed 4 (some .boolean) 3 = true := z_cv_of [575, 577, 20, 53, 578] rfl (by decide +kernel) (by decide +kernel) rfl
theorem kL_97 : z_cvB R_law 97 9 yX9_count cX9_count 2 (some .int) 1 = true := z_cv_of [579, 580, 581, 53, 582] rfl (by decide +kernel) (by decide +kernel) rfl
theorem kX9_244 : z_cvB RX9 244 0 yX0_countLost cX0_countLost 3 (some .int) 0 = true := z_cv_of [583, 584, 585, 60, 586] rfl (by decide +kernel) (by decide +kernel) rfl
theorem kL_101 : z_cvB R_law 101 9 yX9_doing cX9_doing 3 (some .int) 2 = true := z_cv_of [587, 588, 589, 53, 590] rfl (by decide +kernel) (by decide +kernel) rfl
theorem kX9_248 : z_cvB RX9 248 9 yX9_comesOtherwise cX9_comesOtherwise 3 (some .boolean) 1 = true := z_cv_of [591, 593, 21, 53, 594] rfl (by decide +kernel) (by decide +kernel) rfl
theorem kX9_310 : z_cvB RX9 310 7 yX7_undo cX7_undo 5 (some .int) 2 = true := z_cv_of [595, 596, 597, 62, 598] rfl (by decide +kernel) (by decide +kernel) rfl
theorem kX9_314 : z_cvB RX9 314 9 yX9_comesWithRules cX9_comesWithRules 2 (some .boolean) 1 = true := z_cv_of [599, 601, 22, 53, 602] rfl (by decide +kernel) (by decide +kernel) rfl
theorem kL_105 : z_cvB R_law 105 9 yX9_thing cX9_thing 4 (some .int) 3 = true := z_cv_of [603, 604, 605, 53, 606] rfl (by decide +kernel) (by decide +kernel) rfl
theorem kX9_251 : z_csB RX9 251 yX9_lastOfThing cX9_lastOfThing 1 (some .int) 1 = true := z_cs_of [607, 608, 53, 609] (by decide +kernel) (by decide +kernel) rfl
theorem kX9_255 : z_cvB RX9 255 7 yX7_has cX7_has 5 (some .boolean) 3 = true := z_cv_of [610, 611, 612, 62, 613] rfl (by decide +kernel) (by decide +kernel) rfl
theorem kX9_258 : z_cvB RX9 258 7 yX7_add cX7_add 4 none 3 = true := z_cv_of [614, 615, 616, 62, 617] rfl (by decide +kernel) (by decide +kernel) rfl
theorem kL_109 : z_cvB R_law 109 9 yX9_clear cX9_clear 2 (some .int) 0 = true := z_cv_of [618, 619, 620, 53, 621] rfl (by decide +kernel) (by decide +kernel) rfl
theorem kL_113 : z_cvB R_law 113 9 yX9_otherwise cX9_otherwise 2 (some .int) 1 = true := z_cv_of [622, 623, 624, 53, 625] rfl (by decide +kernel) (by decide +kernel) rfl
theorem kX9_259 : z_cvB RX9 259 7 yX7_allBits cX7_allBits 1 (some .int) 0 = true := z_cv_of [626, 627, 628, 62, 629] rfl (by decide +kernel) (by decide +kernel) rfl
theorem kX9_262 : z_cvB RX9 262 9 yX9_noDoing cX9_noDoing 1 (some .boolean) 0 = true := z_cv_of [630, 632, 23, 53, 633] rfl (by decide +kernel) (by decide +kernel) rfl
theorem kL_117 : z_cvB R_law 117 9 yX9_because cX9_because 1 (some .int) 0 = true := z_cv_of [634, 635, 636, 53, 637] rfl (by decide +kernel) (by decide +kernel) rfl
theorem kX9_266 : z_cvB RX9 266 9 yX9_leastSet cX9_leastSet 6 (some .int) 1 = true := z_cv_of [638, 640, 24, 53, 641] rfl (by decide +kernel) (by decide +kernel) rfl
theorem kX9_270 : z_cvB RX9 270 9 yX9_tryAllSets cX9_tryAllSets 2 none 0 = true := z_cv_of [642, 644, 25, 53, 645] rfl (by decide +kernel) (by decide +kernel) rfl
theorem kX9_285 : z_csB RX9 285 yJ6_bitCount_0f7a4 cJ6_bitCount_0f7a4 1 (some .int) 1 = true := z_cs_of [646, 647, 67, 648] (by decide +kernel) (by decide +kernel) rfl
theorem kX9_276 : z_cvB RX9 276 9 yX9_isEnough cX9_isEnough 3 (some .boolean) 1 = true := z_cv_of [652, 654, 26, 53, 655] rfl (by decide +kernel) (by decide +kernel) rfl
theorem kX9_273 : z_cvB RX9 273 9 yX9_isBecause cX9_isBecause 2 (some .boolean) 1 = true := z_cv_of [656, 658, 27, 53, 659] rfl (by decide +kernel) (by decide +kernel) rfl
theorem kL_121 : z_cvB R_law 121 9 yX9_enough cX9_enough 1 (some .int) 0 = true := z_cv_of [660, 661, 662, 53, 663] rfl (by decide +kernel) (by decide +kernel) rfl
theorem kL_125 : z_cvB R_law 125 9 yX9_sets cX9_sets 4 (some .int) 1 = true := z_cv_of [664, 665, 666, 53, 667] rfl (by decide +kernel) (by decide +kernel) rfl
theorem kL_129 : z_cvB R_law 129 9 yX9_part cX9_part 5 (some .int) 1 = true := z_cv_of [668, 669, 670, 53, 671] rfl (by decide +kernel) (by decide +kernel) rfl
theorem kX9_279 : z_cvB RX9 279 9 yX9_comesWithMakers cX9_comesWithMakers 2 (some .boolean) 1 = true := z_cv_of [672, 674, 28, 53, 675] rfl (by decide +kernel) (by decide +kernel) rfl
theorem kX9_317 : z_cvB RX9 317 2 yX2_rulesOf cX2_rulesOf 4 (some .int) 1 = true := z_cv_of [676, 677, 678, 56, 679] rfl (by decide +kernel) (by decide +kernel) rfl
theorem kL_133 : z_cvB R_law 133 9 yX9_careful cX9_careful 3 (some .int) 2 = true := z_cv_of [682, 683, 684, 53, 685] rfl (by decide +kernel) (by decide +kernel) rfl
theorem kX9_290 : z_cvB RX9 290 3 yX3_hide cX3_hide 3 none 1 = true := z_cv_of [686, 687, 688, 59, 689] rfl (by decide +kernel) (by decide +kernel) rfl
theorem kL_137 : z_cvB R_law 137 9 yX9_saying cX9_saying 7 (some .int) 3 = true := z_cv_of [690, 691, 692, 53, 693] rfl (by decide +kernel) (by decide +kernel) rfl
theorem kX9_293 : z_cvB RX9 293 2 yX2_actOf cX2_actOf 2 (some .int) 1 = true := z_cv_of [694, 470, 471, 56, 472] rfl (by decide +kernel) (by decide +kernel) rfl
theorem kL_142 : z_cvB R_law 142 9 yX9_duty cX9_duty 2 (some .int) 0 = true := z_cv_of [695, 696, 697, 53, 698] rfl (by decide +kernel) (by decide +kernel) rfl
theorem kX9_296 : z_cvB RX9 296 4 yX4_readDuty cX4_readDuty 2 (some .int) 1 = true := z_cv_of [699, 700, 701, 55, 702] rfl (by decide +kernel) (by decide +kernel) rfl
theorem kL_146 : z_cvB R_law 146 9 yX9_broken cX9_broken 3 (some .int) 0 = true := z_cv_of [703, 704, 705, 53, 706] rfl (by decide +kernel) (by decide +kernel) rfl
theorem kL_150 : z_cvB R_law 150 9 yX9_sheet cX9_sheet 4 (some .int) 3 = true := z_cv_of [707, 708, 709, 53, 710] rfl (by decide +kernel) (by decide +kernel) rfl
theorem kX9_300 : z_cvB RX9 300 5 yX5_renew cX5_renew 3 none 2 = true := z_cv_of [711, 712, 713, 63, 714] rfl (by decide +kernel) (by decide +kernel) rfl
theorem kX5_22 : z_csB RX5 22 yJ7_fill_53178 cJ7_fill_53178 4 none 2 = true := z_cs_of [715, 164, 58, 165] (by decide +kernel) (by decide +kernel) rfl
theorem kL_154 : z_cvB R_law 154 9 yX9_drop cX9_drop 3 (some .int) 1 = true := z_cv_of [716, 717, 718, 53, 719] rfl (by decide +kernel) (by decide +kernel) rfl
theorem kL_158 : z_cvB R_law 158 9 yX9_item cX9_item 7 (some .int) 4 = true := z_cv_of [720, 721, 722, 53, 723] rfl (by decide +kernel) (by decide +kernel) rfl
theorem kL_162 : z_cvB R_law 162 9 yX9_copy cX9_copy 8 (some .int) 5 = true := z_cv_of [724, 725, 726, 53, 727] rfl (by decide +kernel) (by decide +kernel) rfl
theorem kX9_307 : z_cvB RX9 307 5 yX5_lacks cX5_lacks 3 (some .boolean) 2 = true := z_cv_of [728, 440, 441, 63, 442] rfl (by decide +kernel) (by decide +kernel) rfl
theorem kL_12 : z_ciB R_law 12 yX10_init cX10_init 2 0 = true := z_ci_of 733 731 64 732 (by decide +kernel) (by decide +kernel) (by decide +kernel) (by decide +kernel) rfl (by decide +kernel) rfl
theorem kL_19 : z_cvB R_law 19 10 yX10_type cX10_type 5 (some .int) 2 = true := z_cv_of [874, 875, 876, 64, 877] rfl (by decide +kernel) (by decide +kernel) rfl
theorem kX10_131 : z_csB RX10 131 yX10_in cX10_in 6 (some .boolean) 3 = true := z_cs_of [879, 880, 64, 881] (by decide +kernel) (by decide +kernel) rfl
theorem kL_24 : z_cvB R_law 24 10 yX10_rules cX10_rules 6 (some .int) 1 = true := z_cv_of [885, 886, 887, 64, 888] rfl (by decide +kernel) (by decide +kernel) rfl
theorem kX10_173 : z_csB RX10 173 yX10_isMachine cX10_isMachine 1 (some .boolean) 1 = true := z_cs_of [889, 890, 64, 891] (by decide +kernel) (by decide +kernel) rfl
theorem kX10_176 : z_cvB RX10 176 10 yX10_clause cX10_clause 5 none 1 = true := z_cv_of [892, 894, 29, 64, 895] rfl (by decide +kernel) (by decide +kernel) rfl
theorem kX10_159 : z_cvB RX10 159 10 yX10_digit cX10_digit 2 (some .int) 0 = true := z_cv_of [896, 898, 30, 64, 899] rfl (by decide +kernel) (by decide +kernel) rfl
theorem kX10_151 : z_cvB RX10 151 10 yX10_next cX10_next 1 (some .int) 0 = true := z_cv_of [900, 902, 31, 64, 903] rfl (by decide +kernel) (by decide +kernel) rfl
theorem kX10_170 : z_cvB RX10 170 10 yX10_test cX10_test 8 (some .boolean) 3 = true := z_cv_of [906, 908, 32, 64, 909] rfl (by decide +kernel) (by decide +kernel) rfl
theorem kX10_162 : z_cvB RX10 162 10 yX10_passes cX10_passes 3 (some .boolean) 1 = true := z_cv_of [910, 912, 33, 64, 913] rfl (by decide +kernel) (by decide +kernel) rfl
theorem kX10_166 : z_cvB RX10 166 10 yX10_claim cX10_claim 7 (some .boolean) 3 = true := z_cv_of [914, 916, 34, 64, 917] rfl (by decide +kernel) (by decide +kernel) rfl
theorem kL_29 : z_cvB R_law 29 10 yX10_rule cX10_rule 5 (some .int) 3 = true := z_cv_of [918, 919, 920, 64, 921] rfl (by decide +kernel) (by decide +kernel) rfl
theorem kL_33 : z_cvB R_law 33 10 yX10_ticks cX10_ticks 3 (some .int) 1 = true := z_cv_of [923, 924, 925, 64, 926] rfl (by decide +kernel) (by decide +kernel) rfl
theorem kL_37 : z_cvB R_law 37 10 yX10_world cX10_world 5 (some .int) 3 = true := z_cv_of [928, 929, 930, 64, 931] rfl (by decide +kernel) (by decide +kernel) rfl
theorem kX10_184 : z_cvB RX10 184 10 yX10_isTick cX10_isTick 2 (some .boolean) 1 = true := z_cv_of [932, 934, 35, 64, 935] rfl (by decide +kernel) (by decide +kernel) rfl
theorem kL_41 : z_cvB R_law 41 10 yX10_sights cX10_sights 6 (some .int) 3 = true := z_cv_of [937, 938, 939, 64, 940] rfl (by decide +kernel) (by decide +kernel) rfl
theorem kX10_189 : z_csB RX10 189 yX10_isSheet cX10_isSheet 1 (some .boolean) 1 = true := z_cs_of [941, 942, 64, 943] (by decide +kernel) (by decide +kernel) rfl
theorem kX10_192 : z_cvB RX10 192 10 yX10_finds cX10_finds 5 (some .int) 4 = true := z_cv_of [945, 947, 36, 64, 948] rfl (by decide +kernel) (by decide +kernel) rfl
theorem kL_46 : z_cvB R_law 46 10 yX10_lots cX10_lots 6 (some .int) 2 = true := z_cv_of [949, 950, 951, 64, 952] rfl (by decide +kernel) (by decide +kernel) rfl
theorem kL_50 : z_cvB R_law 50 10 yX10_play cX10_play 4 (some .int) 3 = true := z_cv_of [953, 954, 955, 64, 956] rfl (by decide +kernel) (by decide +kernel) rfl
theorem kX10_200 : z_cvB RX10 200 10 yX10_lays cX10_lays 2 none 0 = true := z_cv_of [957, 959, 37, 64, 960] rfl (by decide +kernel) (by decide +kernel) rfl
theorem kX10_203 : z_cvB RX10 203 10 yX10_plays cX10_plays 7 none 2 = true := z_cv_of [961, 963, 38, 64, 964] rfl (by decide +kernel) (by decide +kernel) rfl
theorem kX10_196 : z_cvB RX10 196 10 yX10_chosen cX10_chosen 5 (some .int) 3 = true := z_cv_of [965, 967, 39, 64, 968] rfl (by decide +kernel) (by decide +kernel) rfl
theorem kL_55 : z_cvB R_law 55 10 yX10_chooses cX10_chooses 5 (some .int) 4 = true := z_cv_of [969, 970, 971, 64, 972] rfl (by decide +kernel) (by decide +kernel) rfl
theorem kL_59 : z_cvB R_law 59 10 yX10_write cX10_write 4 (some .int) 1 = true := z_cv_of [973, 974, 975, 64, 976] rfl (by decide +kernel) (by decide +kernel) rfl
theorem kX10_212 : z_cvB RX10 212 10 yX10_writes cX10_writes 4 none 3 = true := z_cv_of [977, 979, 40, 64, 980] rfl (by decide +kernel) (by decide +kernel) rfl
theorem kX10_216 : z_cvB RX10 216 10 yX10_loses cX10_loses 5 (some .int) 2 = true := z_cv_of [981, 983, 41, 64, 984] rfl (by decide +kernel) (by decide +kernel) rfl
theorem kL_63 : z_cvB R_law 63 10 yX10_tell cX10_tell 3 (some .int) 2 = true := z_cv_of [985, 986, 987, 64, 988] rfl (by decide +kernel) (by decide +kernel) rfl
theorem kL_67 : z_cvB R_law 67 10 yX10_line cX10_line 3 (some .int) 2 = true := z_cv_of [991, 992, 993, 64, 994] rfl (by decide +kernel) (by decide +kernel) rfl
theorem kX10_224 : z_cvB RX10 224 10 yX10_isLine cX10_isLine 2 (some .boolean) 1 = true := z_cv_of [995, 997, 42, 64, 998] rfl (by decide +kernel) (by decide +kernel) rfl
theorem kX10_229 : z_cvB RX10 229 10 yX10_seal cX10_seal 3 none 0 = true := z_cv_of [1000, 1002, 43, 64, 1003] rfl (by decide +kernel) (by decide +kernel) rfl
theorem kX10_232 : z_cvB RX10 232 10 yX10_isHeld cX10_isHeld 5 (some .boolean) 1 = true := z_cv_of [1004, 1006, 44, 64, 1007] rfl (by decide +kernel) (by decide +kernel) rfl
theorem kL_71 : z_cvB R_law 71 10 yX10_forge cX10_forge 4 (some .int) 2 = true := z_cv_of [1008, 1009, 1010, 64, 1011] rfl (by decide +kernel) (by decide +kernel) rfl
theorem kX10_235 : z_csB RX10 235 yX10_mostOf cX10_mostOf 1 (some .int) 1 = true := z_cs_of [1012, 1013, 64, 1014] (by decide +kernel) (by decide +kernel) rfl
theorem kL_75 : z_cvB R_law 75 10 yX10_swap cX10_swap 6 (some .int) 2 = true := z_cv_of [1015, 1016, 1017, 64, 1018] rfl (by decide +kernel) (by decide +kernel) rfl
theorem kX10_239 : z_cvB RX10 239 10 yX10_moves cX10_moves 3 none 2 = true := z_cv_of [1019, 1021, 45, 64, 1022] rfl (by decide +kernel) (by decide +kernel) rfl
theorem kL_79 : z_cvB R_law 79 10 yX10_tear cX10_tear 3 (some .int) 1 = true := z_cv_of [1023, 1024, 1025, 64, 1026] rfl (by decide +kernel) (by decide +kernel) rfl
theorem kL_83 : z_cvB R_law 83 10 yX10_give cX10_give 3 (some .int) 1 = true := z_cv_of [1027, 1028, 1029, 64, 1030] rfl (by decide +kernel) (by decide +kernel) rfl
theorem kL_87 : z_cvB R_law 87 10 yX10_kept cX10_kept 3 (some .int) 2 = true := z_cv_of [1031, 1032, 1033, 64, 1034] rfl (by decide +kernel) (by decide +kernel) rfl
theorem kL_92 : z_cvB R_law 92 10 yX10_torn cX10_torn 2 (some .int) 0 = true := z_cv_of [1036, 1037, 1038, 64, 1039] rfl (by decide +kernel) (by decide +kernel) rfl
theorem kL_96 : z_cvB R_law 96 10 yX10_differs cX10_differs 4 (some .int) 0 = true := z_cv_of [1040, 1041, 1042, 64, 1043] rfl (by decide +kernel) (by decide +kernel) rfl
theorem kL_100 : z_cvB R_law 100 10 yX10_count cX10_count 4 (some .int) 1 = true := z_cv_of [1044, 1045, 1046, 64, 1047] rfl (by decide +kernel) (by decide +kernel) rfl
theorem kL_104 : z_cvB R_law 104 10 yX10_doing cX10_doing 3 (some .int) 2 = true := z_cv_of [1048, 1049, 1050, 64, 1051] rfl (by decide +kernel) (by decide +kernel) rfl
theorem kX10_250 : z_cvB RX10 250 10 yX10_comesBy cX10_comesBy 6 (some .boolean) 2 = true := z_cv_of [1052, 1054, 46, 64, 1055] rfl (by decide +kernel) (by decide +kernel) rfl
theorem kL_108 : z_cvB R_law 108 10 yX10_thing cX10_thing 6 (some .int) 3 = true := z_cv_of [1056, 1057, 1058, 64, 1059] rfl (by decide +kernel) (by decide +kernel) rfl
theorem kL_112 : z_cvB R_law 112 10 yX10_clear cX10_clear 2 (some .int) 0 = true := z_cv_of [1061, 1062, 1063, 64, 1064] rfl (by decide +kernel) (by decide +kernel) rfl
theorem kL_116 : z_cvB R_law 116 10 yX10_otherwise cX10_otherwise 2 (some .int) 1 = true := z_cv_of [1065, 1066, 1067, 64, 1068] rfl (by decide +kernel) (by decide +kernel) rfl
theorem kX10_256 : z_cvB RX10 256 10 yX10_isTold cX10_isTold 1 (some .boolean) 0 = true := z_cv_of [1069, 1071, 47, 64, 1072] rfl (by decide +kernel) (by decide +kernel) rfl
theorem kL_120 : z_cvB R_law 120 10 yX10_because cX10_because 1 (some .int) 0 = true := z_cv_of [1073, 1074, 1075, 64, 1076] rfl (by decide +kernel) (by decide +kernel) rfl
theorem kX10_269 : z_cvB RX10 269 10 yX10_leastOf cX10_leastOf 4 (some .int) 1 = true := z_cv_of [1077, 1079, 48, 64, 1080] rfl (by decide +kernel) (by decide +kernel) rfl
theorem kX10_260 : z_cvB RX10 260 10 yX10_tries cX10_tries 2 none 0 = true := z_cv_of [1081, 1083, 49, 64, 1084] rfl (by decide +kernel) (by decide +kernel) rfl
theorem kX10_263 : z_cvB RX10 263 10 yX10_isSuch cX10_isSuch 5 (some .boolean) 2 = true := z_cv_of [1085, 1087, 50, 64, 1088] rfl (by decide +kernel) (by decide +kernel) rfl
theorem kX10_266 : z_csB RX10 266 yX10_size cX10_size 3 (some .int) 1 = true := z_cs_of [1089, 1090, 64, 1091] (by decide +kernel) (by decide +kernel) rfl
theorem kL_124 : z_cvB R_law 124 10 yX10_enough cX10_enough 1 (some .int) 0 = true := z_cv_of [1092, 1093, 1094, 64, 1095] rfl (by decide +kernel) (by decide +kernel) rfl
theorem kL_128 : z_cvB R_law 128 10 yX10_sets cX10_sets 4 (some .int) 1 = true := z_cv_of [1096, 1097, 1098, 64, 1099] rfl (by decide +kernel) (by decide +kernel) rfl
theorem kL_132 : z_cvB R_law 132 10 yX10_part cX10_part 4 (some .int) 1 = true := z_cv_of [1100, 1101, 1102, 64, 1103] rfl (by decide +kernel) (by decide +kernel) rfl
theorem kL_136 : z_cvB R_law 136 10 yX10_careful cX10_careful 4 (some .int) 2 = true := z_cv_of [1104, 1105, 1106, 64, 1107] rfl (by decide +kernel) (by decide +kernel) rfl
theorem kL_141 : z_cvB R_law 141 10 yX10_saying cX10_saying 8 (some .int) 3 = true := z_cv_of [1108, 1109, 1110, 64, 1111] rfl (by decide +kernel) (by decide +kernel) rfl
theorem kX10_272 : z_cvB RX10 272 10 yX10_actAt cX10_actAt 3 (some .int) 1 = true := z_cv_of [1112, 1114, 51, 64, 1115] rfl (by decide +kernel) (by decide +kernel) rfl
theorem kL_145 : z_cvB R_law 145 10 yX10_duty cX10_duty 2 (some .int) 0 = true := z_cv_of [1116, 1117, 1118, 64, 1119] rfl (by decide +kernel) (by decide +kernel) rfl
theorem kL_149 : z_cvB R_law 149 10 yX10_broken cX10_broken 3 (some .int) 0 = true := z_cv_of [1120, 1121, 1122, 64, 1123] rfl (by decide +kernel) (by decide +kernel) rfl
theorem kL_153 : z_cvB R_law 153 10 yX10_sheet cX10_sheet 5 (some .int) 3 = true := z_cv_of [1124, 1125, 1126, 64, 1127] rfl (by decide +kernel) (by decide +kernel) rfl
theorem kX10_278 : z_csB RX10 278 yX10_isLane cX10_isLane 1 (some .boolean) 1 = true := z_cs_of [1128, 1129, 64, 1130] (by decide +kernel) (by decide +kernel) rfl
theorem kL_157 : z_cvB R_law 157 10 yX10_drop cX10_drop 2 (some .int) 1 = true := z_cv_of [1131, 1132, 1133, 64, 1134] rfl (by decide +kernel) (by decide +kernel) rfl
theorem kL_161 : z_cvB R_law 161 10 yX10_item cX10_item 6 (some .int) 4 = true := z_cv_of [1135, 1136, 1137, 64, 1138] rfl (by decide +kernel) (by decide +kernel) rfl
theorem kL_166 : z_cvB R_law 166 10 yX10_copy cX10_copy 7 (some .int) 5 = true := z_cv_of [1139, 1140, 1141, 64, 1142] rfl (by decide +kernel) (by decide +kernel) rfl
section AWY
variable {l : Launch} {g : zG} {own : String} {cc : ByteArray} {nL : Nat} {rt : Option FieldType} {ini : Bool} {d bc bs pc : Nat} {ls : List (Option Value)} {st : List Value} {S : zS} {M : zM} {Q : Option Value → zS → zM → Prop}
theorem AW.cVi0 (pc' : Nat) {ci k : Nat} {ix n2 : Nat} {y : MethodName} {c2 : ByteArray} {r2 : Option FieldType} (hd : decode cc pc = .ok (.invokevirtual ix, 3)) (hw : z_cvB own ix ci y c2 n2 r2 0 = true) (hc : z_is S k ci) (hcat : (st.map fun v => v.category).sum ≤ 8) (hp : pc + 3 = pc') (hM : AMet l g y c2 n2 r2 d 0 0 (.ref k :: []) S M (z_Qi fun r S' M' => AW l g own cc nL rt ini (d + 1) 0 0 pc' ls (.int r :: st) S' M' Q)) : AW l g own cc nL rt ini (d + 1) 0 0 pc ls (.ref k :: st) S M Q := AW.cVi pc' [] hd hw hc rfl rfl hcat hp hM
theorem AW.cVi1 (pc' : Nat) {ci k : Nat} {ix n2 : Nat} {y : MethodName} {c2 : ByteArray} {r2 : Option FieldType} {a1 : Value} (hd : decode cc pc = .ok (.invokevirtual ix, 3)) (hw : z_cvB own ix ci y c2 n2 r2 1 = true) (hc : z_is S k ci) (hcat : (st.map fun v => v.category).sum ≤ 8) (hp : pc + 3 = pc') (hM : AMet l g y c2 n2 r2 d 0 0 (.ref k :: [a1]) S M (z_Qi fun r S' M' => AW l g own cc nL rt ini (d + 1) 0 0 pc' ls (.int r :: st) S' M' Q)) : AW l g own cc nL rt ini (d + 1) 0 0 pc ls (a1 :: .ref k :: st) S M Q := AW.cVi pc' [a1] hd hw hc rfl rfl hcat hp hM
theorem AW.cVi2 (pc' : Nat) {ci k : Nat} {ix n2 : Nat} {y : MethodName} {c2 : ByteArray} {r2 : Option FieldType} {a1 a2 : Value} (hd : decode cc pc = .ok (.invokevirtual ix, 3)) (hw : z_cvB own ix ci y c2 n2 r2 2 = true) (hc : z_is S k ci) (hcat : (st.map fun v => v.category).sum ≤ 8) (hp : pc + 3 = pc') (hM : AMet l g y c2 n2 r2 d 0 0 (.ref k :: [a1, a2]) S M (z_Qi fun r S' M' => AW l g own cc nL rt ini (d + 1) 0 0 pc' ls (.int r :: st) S' M' Q)) : AW l g own cc nL rt ini (d + 1) 0 0 pc ls (a2 :: a1 :: .ref k :: st) S M Q := AW.cVi pc' [a1, a2] hd hw hc rfl rfl hcat hp hM
theorem AW.cVi3 (pc' : Nat) {ci k : Nat} {ix n2 : Nat} {y : MethodName} {c2 : ByteArray} {r2 : Option FieldType} {a1 a2 a3 : Value} (hd : decode cc pc = .ok (.invokevirtual ix, 3)) (hw : z_cvB own ix ci y c2 n2 r2 3 = true) (hc : z_is S k ci) (hcat : (st.map fun v => v.category).sum ≤ 8) (hp : pc + 3 = pc') (hM : AMet l g y c2 n2 r2 d 0 0 (.ref k :: [a1, a2, a3]) S M (z_Qi fun r S' M' => AW l g own cc nL rt ini (d + 1) 0 0 pc' ls (.int r :: st) S' M' Q)) : AW l g own cc nL rt ini (d + 1) 0 0 pc ls (a3 :: a2 :: a1 :: .ref k :: st) S M Q := AW.cVi pc' [a1, a2, a3] hd hw hc rfl rfl hcat hp hM
theorem AW.cVi4 (pc' : Nat) {ci k : Nat} {ix n2 : Nat} {y : MethodName} {c2 : ByteArray} {r2 : Option FieldType} {a1 a2 a3 a4 : Value} (hd : decode cc pc = .ok (.invokevirtual ix, 3)) (hw : z_cvB own ix ci y c2 n2 r2 4 = true) (hc : z_is S k ci) (hcat : (st.map fun v => v.category).sum ≤ 8) (hp : pc + 3 = pc') (hM : AMet l g y c2 n2 r2 d 0 0 (.ref k :: [a1, a2, a3, a4]) S M (z_Qi fun r S' M' => AW l g own cc nL rt ini (d + 1) 0 0 pc' ls (.int r :: st) S' M' Q)) : AW l g own cc nL rt ini (d + 1) 0 0 pc ls (a4 :: a3 :: a2 :: a1 :: .ref k :: st) S M Q := AW.cVi pc' [a1, a2, a3, a4] hd hw hc rfl rfl hcat hp hM
theorem AW.cVi5 (pc' : Nat) {ci k : Nat} {ix n2 : Nat} {y : MethodName} {c2 : ByteArray} {r2 : Option FieldType} {a1 a2 a3 a4 a5 : Value} (hd : decode cc pc = .ok (.invokevirtual ix, 3)) (hw : z_cvB own ix ci y c2 n2 r2 5 = true) (hc : z_is S k ci) (hcat : (st.map fun v => v.category).sum ≤ 8) (hp : pc + 3 = pc') (hM : AMet l g y c2 n2 r2 d 0 0 (.ref k :: [a1, a2, a3, a4, a5]) S M (z_Qi fun r S' M' => AW l g own cc nL rt ini (d + 1) 0 0 pc' ls (.int r :: st) S' M' Q)) : AW l g own cc nL rt ini (d + 1) 0 0 pc ls (a5 :: a4 :: a3 :: a2 :: a1 :: .ref k :: st) S M Q := AW.cVi pc' [a1, a2, a3, a4, a5] hd hw hc rfl rfl hcat hp hM
theorem AW.cVv0 (pc' : Nat) {ci k : Nat} {ix n2 : Nat} {y : MethodName} {c2 : ByteArray} {r2 : Option FieldType} (hd : decode cc pc = .ok (.invokevirtual ix, 3)) (hw : z_cvB own ix ci y c2 n2 r2 0 = true) (hc : z_is S k ci) (hcat : (st.map fun v => v.category).sum ≤ 8) (hp : pc + 3 = pc') (hM : AMet l g y c2 n2 r2 d 0 0 (.ref k :: []) S M (z_Qv fun S' M' => AW l g own cc nL rt ini (d + 1) 0 0 pc' ls st S' M' Q)) : AW l g own cc nL rt ini (d + 1) 0 0 pc ls (.ref k :: st) S M Q := AW.cVv pc' [] hd hw hc rfl rfl hcat hp hM
theorem AW.cVv1 (pc' : Nat) {ci k : Nat} {ix n2 : Nat} {y : MethodName} {c2 : ByteArray} {r2 : Option FieldType} {a1 : Value} (hd : decode cc pc = .ok (.invokevirtual ix, 3)) (hw : z_cvB own ix ci y c2 n2 r2 1 = true) (hc : z_is S k ci) (hcat : (st.map fun v => v.category).sum ≤ 8) (hp : pc + 3 = pc') (hM : AMet l g y c2 n2 r2 d 0 0 (.ref k :: [a1]) S M (z_Qv fun S' M' => AW l g own cc nL rt ini (d + 1) 0 0 pc' ls st S' M' Q)) : AW l g own cc nL rt ini (d + 1) 0 0 pc ls (a1 :: .ref k :: st) S M Q := AW.cVv pc' [a1] hd hw hc rfl rfl hcat hp hM
theorem AW.cVv2 (pc' : Nat) {ci k : Nat} {ix n2 : Nat} {y : MethodName} {c2 : ByteArray} {r2 : Option FieldType} {a1 a2 : Value} (hd : decode cc pc = .ok (.invokevirtual ix, 3)) (hw : z_cvB own ix ci y c2 n2 r2 2 = true) (hc : z_is S k ci) (hcat : (st.map fun v => v.category).sum ≤ 8) (hp : pc + 3 = pc') (hM : AMet l g y c2 n2 r2 d 0 0 (.ref k :: [a1, a2]) S M (z_Qv fun S' M' => AW l g own cc nL rt ini (d + 1) 0 0 pc' ls st S' M' Q)) : AW l g own cc nL rt ini (d + 1) 0 0 pc ls (a2 :: a1 :: .ref k :: st) S M Q := AW.cVv pc' [a1, a2] hd hw hc rfl rfl hcat hp hM
theorem AW.cVv3 (pc' : Nat) {ci k : Nat} {ix n2 : Nat} {y : MethodName} {c2 : ByteArray} {r2 : Option FieldType} {a1 a2 a3 : Value} (hd : decode cc pc = .ok (.invokevirtual ix, 3)) (hw : z_cvB own ix ci y c2 n2 r2 3 = true) (hc : z_is S k ci) (hcat : (st.map fun v => v.category).sum ≤ 8) (hp : pc + 3 = pc') (hM : AMet l g y c2 n2 r2 d 0 0 (.ref k :: [a1, a2, a3]) S M (z_Qv fun S' M' => AW l g own cc nL rt ini (d + 1) 0 0 pc' ls st S' M' Q)) : AW l g own cc nL rt ini (d + 1) 0 0 pc ls (a3 :: a2 :: a1 :: .ref k :: st) S M Q := AW.cVv pc' [a1, a2, a3] hd hw hc rfl rfl hcat hp hM
theorem AW.cVv4 (pc' : Nat) {ci k : Nat} {ix n2 : Nat} {y : MethodName} {c2 : ByteArray} {r2 : Option FieldType} {a1 a2 a3 a4 : Value} (hd : decode cc pc = .ok (.invokevirtual ix, 3)) (hw : z_cvB own ix ci y c2 n2 r2 4 = true) (hc : z_is S k ci) (hcat : (st.map fun v => v.category).sum ≤ 8) (hp : pc + 3 = pc') (hM : AMet l g y c2 n2 r2 d 0 0 (.ref k :: [a1, a2, a3, a4]) S M (z_Qv fun S' M' => AW l g own cc nL rt ini (d + 1) 0 0 pc' ls st S' M' Q)) : AW l g own cc nL rt ini (d + 1) 0 0 pc ls (a4 :: a3 :: a2 :: a1 :: .ref k :: st) S M Q := AW.cVv pc' [a1, a2, a3, a4] hd hw hc rfl rfl hcat hp hM
theorem AW.cVv5 (pc' : Nat) {ci k : Nat} {ix n2 : Nat} {y : MethodName} {c2 : ByteArray} {r2 : Option FieldType} {a1 a2 a3 a4 a5 : Value} (hd : decode cc pc = .ok (.invokevirtual ix, 3)) (hw : z_cvB own ix ci y c2 n2 r2 5 = true) (hc : z_is S k ci) (hcat : (st.map fun v => v.category).sum ≤ 8) (hp : pc + 3 = pc') (hM : AMet l g y c2 n2 r2 d 0 0 (.ref k :: [a1, a2, a3, a4, a5]) S M (z_Qv fun S' M' => AW l g own cc nL rt ini (d + 1) 0 0 pc' ls st S' M' Q)) : AW l g own cc nL rt ini (d + 1) 0 0 pc ls (a5 :: a4 :: a3 :: a2 :: a1 :: .ref k :: st) S M Q := AW.cVv pc' [a1, a2, a3, a4, a5] hd hw hc rfl rfl hcat hp hM
theorem AW.cSi0 (pc' : Nat) {ix n2 : Nat} {y : MethodName} {c2 : ByteArray} {r2 : Option FieldType} (hd : decode cc pc = .ok (.invokestatic ix, 3)) (hw : z_csB own ix y c2 n2 r2 0 = true) (hcat : (st.map fun v => v.category).sum ≤ 8) (hp : pc + 3 = pc') (hM : AMet l g y c2 n2 r2 d 0 0 ([]) S M (z_Qi fun r S' M' => AW l g own cc nL rt ini (d + 1) 0 0 pc' ls (.int r :: st) S' M' Q)) : AW l g own cc nL rt ini (d + 1) 0 0 pc ls (st) S M Q := AW.cSi pc' [] hd hw rfl rfl hcat hp hM
theorem AW.cSi1 (pc' : Nat) {ix n2 : Nat} {y : MethodName} {c2 : ByteArray} {r2 : Option FieldType} {a1 : Value} (hd : decode cc pc = .ok (.invokestatic ix, 3)) (hw : z_csB own ix y c2 n2 r2 1 = true) (hcat : (st.map fun v => v.category).sum ≤ 8) (hp : pc + 3 = pc') (hM : AMet l g y c2 n2 r2 d 0 0 ([a1]) S M (z_Qi fun r S' M' => AW l g own cc nL rt ini (d + 1) 0 0 pc' ls (.int r :: st) S' M' Q)) : AW l g own cc nL rt ini (d + 1) 0 0 pc ls (a1 :: st) S M Q := AW.cSi pc' [a1] hd hw rfl rfl hcat hp hM
theorem AW.cSi2 (pc' : Nat) {ix n2 : Nat} {y : MethodName} {c2 : ByteArray} {r2 : Option FieldType} {a1 a2 : Value} (hd : decode cc pc = .ok (.invokestatic ix, 3)) (hw : z_csB own ix y c2 n2 r2 2 = true) (hcat : (st.map fun v => v.category).sum ≤ 8) (hp : pc + 3 = pc') (hM : AMet l g y c2 n2 r2 d 0 0 ([a1, a2]) S M (z_Qi fun r S' M' => AW l g own cc nL rt ini (d + 1) 0 0 pc' ls (.int r :: st) S' M' Q)) : AW l g own cc nL rt ini (d + 1) 0 0 pc ls (a2 :: a1 :: st) S M Q := AW.cSi pc' [a1, a2] hd hw rfl rfl hcat hp hM
theorem AW.cSi3 (pc' : Nat) {ix n2 : Nat} {y : MethodName} {c2 : ByteArray} {r2 : Option FieldType} {a1 a2 a3 : Value} (hd : decode cc pc = .ok (.invokestatic ix, 3)) (hw : z_csB own ix y c2 n2 r2 3 = true) (hcat : (st.map fun v => v.category).sum ≤ 8) (hp : pc + 3 = pc') (hM : AMet l g y c2 n2 r2 d 0 0 ([a1, a2, a3]) S M (z_Qi fun r S' M' => AW l g own cc nL rt ini (d + 1) 0 0 pc' ls (.int r :: st) S' M' Q)) : AW l g own cc nL rt ini (d + 1) 0 0 pc ls (a3 :: a2 :: a1 :: st) S M Q := AW.cSi pc' [a1, a2, a3] hd hw rfl rfl hcat hp hM
theorem AW.cSi4 (pc' : Nat) {ix n2 : Nat} {y : MethodName} {c2 : ByteArray} {r2 : Option FieldType} {a1 a2 a3 a4 : Value} (hd : decode cc pc = .ok (.invokestatic ix, 3)) (hw : z_csB own ix y c2 n2 r2 4 = true) (hcat : (st.map fun v => v.category).sum ≤ 8) (hp : pc + 3 = pc') (hM : AMet l g y c2 n2 r2 d 0 0 ([a1, a2, a3, a4]) S M (z_Qi fun r S' M' => AW l g own cc nL rt ini (d + 1) 0 0 pc' ls (.int r :: st) S' M' Q)) : AW l g own cc nL rt ini (d + 1) 0 0 pc ls (a4 :: a3 :: a2 :: a1 :: st) S M Q := AW.cSi pc' [a1, a2, a3, a4] hd hw rfl rfl hcat hp hM
theorem AW.cSi5 (pc' : Nat) {ix n2 : Nat} {y : MethodName} {c2 : ByteArray} {r2 : Option FieldType} {a1 a2 a3 a4 a5 : Value} (hd : decode cc pc = .ok (.invokestatic ix, 3)) (hw : z_csB own ix y c2 n2 r2 5 = true) (hcat : (st.map fun v => v.category).sum ≤ 8) (hp : pc + 3 = pc') (hM : AMet l g y c2 n2 r2 d 0 0 ([a1, a2, a3, a4, a5]) S M (z_Qi fun r S' M' => AW l g own cc nL rt ini (d + 1) 0 0 pc' ls (.int r :: st) S' M' Q)) : AW l g own cc nL rt ini (d + 1) 0 0 pc ls (a5 :: a4 :: a3 :: a2 :: a1 :: st) S M Q := AW.cSi pc' [a1, a2, a3, a4, a5] hd hw rfl rfl hcat hp hM
theorem AW.cSv0 (pc' : Nat) {ix n2 : Nat} {y : MethodName} {c2 : ByteArray} {r2 : Option FieldType} (hd : decode cc pc = .ok (.invokestatic ix, 3)) (hw : z_csB own ix y c2 n2 r2 0 = true) (hcat : (st.map fun v => v.category).sum ≤ 8) (hp : pc + 3 = pc') (hM : AMet l g y c2 n2 r2 d 0 0 ([]) S M (z_Qv fun S' M' => AW l g own cc nL rt ini (d + 1) 0 0 pc' ls st S' M' Q)) : AW l g own cc nL rt ini (d + 1) 0 0 pc ls (st) S M Q := AW.cSv pc' [] hd hw rfl rfl hcat hp hM
theorem AW.cSv1 (pc' : Nat) {ix n2 : Nat} {y : MethodName} {c2 : ByteArray} {r2 : Option FieldType} {a1 : Value} (hd : decode cc pc = .ok (.invokestatic ix, 3)) (hw : z_csB own ix y c2 n2 r2 1 = true) (hcat : (st.map fun v => v.category).sum ≤ 8) (hp : pc + 3 = pc') (hM : AMet l g y c2 n2 r2 d 0 0 ([a1]) S M (z_Qv fun S' M' => AW l g own cc nL rt ini (d + 1) 0 0 pc' ls st S' M' Q)) : AW l g own cc nL rt ini (d + 1) 0 0 pc ls (a1 :: st) S M Q := AW.cSv pc' [a1] hd hw rfl rfl hcat hp hM
theorem AW.cSv2 (pc' : Nat) {ix n2 : Nat} {y : MethodName} {c2 : ByteArray} {r2 : Option FieldType} {a1 a2 : Value} (hd : decode cc pc = .ok (.invokestatic ix, 3)) (hw : z_csB own ix y c2 n2 r2 2 = true) (hcat : (st.map fun v => v.category).sum ≤ 8) (hp : pc + 3 = pc') (hM : AMet l g y c2 n2 r2 d 0 0 ([a1, a2]) S M (z_Qv fun S' M' => AW l g own cc nL rt ini (d + 1) 0 0 pc' ls st S' M' Q)) : AW l g own cc nL rt ini (d + 1) 0 0 pc ls (a2 :: a1 :: st) S M Q := AW.cSv pc' [a1, a2] hd hw rfl rfl hcat hp hM
theorem AW.cSv3 (pc' : Nat) {ix n2 : Nat} {y : MethodName} {c2 : ByteArray} {r2 : Option FieldType} {a1 a2 a3 : Value} (hd : decode cc pc = .ok (.invokestatic ix, 3)) (hw : z_csB own ix y c2 n2 r2 3 = true) (hcat : (st.map fun v => v.category).sum ≤ 8) (hp : pc + 3 = pc') (hM : AMet l g y c2 n2 r2 d 0 0 ([a1, a2, a3]) S M (z_Qv fun S' M' => AW l g own cc nL rt ini (d + 1) 0 0 pc' ls st S' M' Q)) : AW l g own cc nL rt ini (d + 1) 0 0 pc ls (a3 :: a2 :: a1 :: st) S M Q := AW.cSv pc' [a1, a2, a3] hd hw rfl rfl hcat hp hM
theorem AW.cSv4 (pc' : Nat) {ix n2 : Nat} {y : MethodName} {c2 : ByteArray} {r2 : Option FieldType} {a1 a2 a3 a4 : Value} (hd : decode cc pc = .ok (.invokestatic ix, 3)) (hw : z_csB own ix y c2 n2 r2 4 = true) (hcat : (st.map fun v => v.category).sum ≤ 8) (hp : pc + 3 = pc') (hM : AMet l g y c2 n2 r2 d 0 0 ([a1, a2, a3, a4]) S M (z_Qv fun S' M' => AW l g own cc nL rt ini (d + 1) 0 0 pc' ls st S' M' Q)) : AW l g own cc nL rt ini (d + 1) 0 0 pc ls (a4 :: a3 :: a2 :: a1 :: st) S M Q := AW.cSv pc' [a1, a2, a3, a4] hd hw rfl rfl hcat hp hM
theorem AW.cSv5 (pc' : Nat) {ix n2 : Nat} {y : MethodName} {c2 : ByteArray} {r2 : Option FieldType} {a1 a2 a3 a4 a5 : Value} (hd : decode cc pc = .ok (.invokestatic ix, 3)) (hw : z_csB own ix y c2 n2 r2 5 = true) (hcat : (st.map fun v => v.category).sum ≤ 8) (hp : pc + 3 = pc') (hM : AMet l g y c2 n2 r2 d 0 0 ([a1, a2, a3, a4, a5]) S M (z_Qv fun S' M' => AW l g own cc nL rt ini (d + 1) 0 0 pc' ls st S' M' Q)) : AW l g own cc nL rt ini (d + 1) 0 0 pc ls (a5 :: a4 :: a3 :: a2 :: a1 :: st) S M Q := AW.cSv pc' [a1, a2, a3, a4, a5] hd hw rfl rfl hcat hp hM
theorem AW.cNi0 (pc' : Nat) {ix n2 : Nat} {y : MethodName} {c2 : ByteArray} {r2 : Option FieldType} (hd : decode cc pc = .ok (.invokestatic ix, 3)) (hw : z_csNB own ix y c2 n2 r2 0 = true) (hcat : (st.map fun v => v.category).sum ≤ 8) (hp : pc + 3 = pc') (hM : AMet l g y c2 n2 r2 d 0 0 ([]) S M (z_Qi fun r S' M' => AW l g own cc nL rt ini (d + 1) 0 0 pc' ls (.int r :: st) S' M' Q)) : AW l g own cc nL rt ini (d + 1) 0 0 pc ls (st) S M Q := AW.cNi pc' [] hd hw rfl rfl hcat hp hM
theorem AW.cNi1 (pc' : Nat) {ix n2 : Nat} {y : MethodName} {c2 : ByteArray} {r2 : Option FieldType} {a1 : Value} (hd : decode cc pc = .ok (.invokestatic ix, 3)) (hw : z_csNB own ix y c2 n2 r2 1 = true) (hcat : (st.map fun v => v.category).sum ≤ 8) (hp : pc + 3 = pc') (hM : AMet l g y c2 n2 r2 d 0 0 ([a1]) S M (z_Qi fun r S' M' => AW l g own cc nL rt ini (d + 1) 0 0 pc' ls (.int r :: st) S' M' Q)) : AW l g own cc nL rt ini (d + 1) 0 0 pc ls (a1 :: st) S M Q := AW.cNi pc' [a1] hd hw rfl rfl hcat hp hM
theorem AW.cNi2 (pc' : Nat) {ix n2 : Nat} {y : MethodName} {c2 : ByteArray} {r2 : Option FieldType} {a1 a2 : Value} (hd : decode cc pc = .ok (.invokestatic ix, 3)) (hw : z_csNB own ix y c2 n2 r2 2 = true) (hcat : (st.map fun v => v.category).sum ≤ 8) (hp : pc + 3 = pc') (hM : AMet l g y c2 n2 r2 d 0 0 ([a1, a2]) S M (z_Qi fun r S' M' => AW l g own cc nL rt ini (d + 1) 0 0 pc' ls (.int r :: st) S' M' Q)) : AW l g own cc nL rt ini (d + 1) 0 0 pc ls (a2 :: a1 :: st) S M Q := AW.cNi pc' [a1, a2] hd hw rfl rfl hcat hp hM
theorem AW.cNi3 (pc' : Nat) {ix n2 : Nat} {y : MethodName} {c2 : ByteArray} {r2 : Option FieldType} {a1 a2 a3 : Value} (hd : decode cc pc = .ok (.invokestatic ix, 3)) (hw : z_csNB own ix y c2 n2 r2 3 = true) (hcat : (st.map fun v => v.category).sum ≤ 8) (hp : pc + 3 = pc') (hM : AMet l g y c2 n2 r2 d 0 0 ([a1, a2, a3]) S M (z_Qi fun r S' M' => AW l g own cc nL rt ini (d + 1) 0 0 pc' ls (.int r :: st) S' M' Q)) : AW l g own cc nL rt ini (d + 1) 0 0 pc ls (a3 :: a2 :: a1 :: st) S M Q := AW.cNi pc' [a1, a2, a3] hd hw rfl rfl hcat hp hM
theorem AW.cNi4 (pc' : Nat) {ix n2 : Nat} {y : MethodName} {c2 : ByteArray} {r2 : Option FieldType} {a1 a2 a3 a4 : Value} (hd : decode cc pc = .ok (.invokestatic ix, 3)) (hw : z_csNB own ix y c2 n2 r2 4 = true) (hcat : (st.map fun v => v.category).sum ≤ 8) (hp : pc + 3 = pc') (hM : AMet l g y c2 n2 r2 d 0 0 ([a1, a2, a3, a4]) S M (z_Qi fun r S' M' => AW l g own cc nL rt ini (d + 1) 0 0 pc' ls (.int r :: st) S' M' Q)) : AW l g own cc nL rt ini (d + 1) 0 0 pc ls (a4 :: a3 :: a2 :: a1 :: st) S M Q := AW.cNi pc' [a1, a2, a3, a4] hd hw rfl rfl hcat hp hM
theorem AW.cNi5 (pc' : Nat) {ix n2 : Nat} {y : MethodName} {c2 : ByteArray} {r2 : Option FieldType} {a1 a2 a3 a4 a5 : Value} (hd : decode cc pc = .ok (.invokestatic ix, 3)) (hw : z_csNB own ix y c2 n2 r2 5 = true) (hcat : (st.map fun v => v.category).sum ≤ 8) (hp : pc + 3 = pc') (hM : AMet l g y c2 n2 r2 d 0 0 ([a1, a2, a3, a4, a5]) S M (z_Qi fun r S' M' => AW l g own cc nL rt ini (d + 1) 0 0 pc' ls (.int r :: st) S' M' Q)) : AW l g own cc nL rt ini (d + 1) 0 0 pc ls (a5 :: a4 :: a3 :: a2 :: a1 :: st) S M Q := AW.cNi pc' [a1, a2, a3, a4, a5] hd hw rfl rfl hcat hp hM
theorem AW.cNv0 (pc' : Nat) {ix n2 : Nat} {y : MethodName} {c2 : ByteArray} {r2 : Option FieldType} (hd : decode cc pc = .ok (.invokestatic ix, 3)) (hw : z_csNB own ix y c2 n2 r2 0 = true) (hcat : (st.map fun v => v.category).sum ≤ 8) (hp : pc + 3 = pc') (hM : AMet l g y c2 n2 r2 d 0 0 ([]) S M (z_Qv fun S' M' => AW l g own cc nL rt ini (d + 1) 0 0 pc' ls st S' M' Q)) : AW l g own cc nL rt ini (d + 1) 0 0 pc ls (st) S M Q := AW.cNv pc' [] hd hw rfl rfl hcat hp hM
theorem AW.cNv1 (pc' : Nat) {ix n2 : Nat} {y : MethodName} {c2 : ByteArray} {r2 : Option FieldType} {a1 : Value} (hd : decode cc pc = .ok (.invokestatic ix, 3)) (hw : z_csNB own ix y c2 n2 r2 1 = true) (hcat : (st.map fun v => v.category).sum ≤ 8) (hp : pc + 3 = pc') (hM : AMet l g y c2 n2 r2 d 0 0 ([a1]) S M (z_Qv fun S' M' => AW l g own cc nL rt ini (d + 1) 0 0 pc' ls st S' M' Q)) : AW l g own cc nL rt ini (d + 1) 0 0 pc ls (a1 :: st) S M Q := AW.cNv pc' [a1] hd hw rfl rfl hcat hp hM
theorem AW.cNv2 (pc' : Nat) {ix n2 : Nat} {y : MethodName} {c2 : ByteArray} {r2 : Option FieldType} {a1 a2 : Value} (hd : decode cc pc = .ok (.invokestatic ix, 3)) (hw : z_csNB own ix y c2 n2 r2 2 = true) (hcat : (st.map fun v => v.category).sum ≤ 8) (hp : pc + 3 = pc') (hM : AMet l g y c2 n2 r2 d 0 0 ([a1, a2]) S M (z_Qv fun S' M' => AW l g own cc nL rt ini (d + 1) 0 0 pc' ls st S' M' Q)) : AW l g own cc nL rt ini (d + 1) 0 0 pc ls (a2 :: a1 :: st) S M Q := AW.cNv pc' [a1, a2] hd hw rfl rfl hcat hp hM
theorem AW.cNv3 (pc' : Nat) {ix n2 : Nat} {y : MethodName} {c2 : ByteArray} {r2 : Option FieldType} {a1 a2 a3 : Value} (hd : decode cc pc = .ok (.invokestatic ix, 3)) (hw : z_csNB own ix y c2 n2 r2 3 = true) (hcat : (st.map fun v => v.category).sum ≤ 8) (hp : pc + 3 = pc') (hM : AMet l g y c2 n2 r2 d 0 0 ([a1, a2, a3]) S M (z_Qv fun S' M' => AW l g own cc nL rt ini (d + 1) 0 0 pc' ls st S' M' Q)) : AW l g own cc nL rt ini (d + 1) 0 0 pc ls (a3 :: a2 :: a1 :: st) S M Q := AW.cNv pc' [a1, a2, a3] hd hw rfl rfl hcat hp hM
theorem AW.cNv4 (pc' : Nat) {ix n2 : Nat} {y : MethodName} {c2 : ByteArray} {r2 : Option FieldType} {a1 a2 a3 a4 : Value} (hd : decode cc pc = .ok (.invokestatic ix, 3)) (hw : z_csNB own ix y c2 n2 r2 4 = true) (hcat : (st.map fun v => v.category).sum ≤ 8) (hp : pc + 3 = pc') (hM : AMet l g y c2 n2 r2 d 0 0 ([a1, a2, a3, a4]) S M (z_Qv fun S' M' => AW l g own cc nL rt ini (d + 1) 0 0 pc' ls st S' M' Q)) : AW l g own cc nL rt ini (d + 1) 0 0 pc ls (a4 :: a3 :: a2 :: a1 :: st) S M Q := AW.cNv pc' [a1, a2, a3, a4] hd hw rfl rfl hcat hp hM
theorem AW.cNv5 (pc' : Nat) {ix n2 : Nat} {y : MethodName} {c2 : ByteArray} {r2 : Option FieldType} {a1 a2 a3 a4 a5 : Value} (hd : decode cc pc = .ok (.invokestatic ix, 3)) (hw : z_csNB own ix y c2 n2 r2 5 = true) (hcat : (st.map fun v => v.category).sum ≤ 8) (hp : pc + 3 = pc') (hM : AMet l g y c2 n2 r2 d 0 0 ([a1, a2, a3, a4, a5]) S M (z_Qv fun S' M' => AW l g own cc nL rt ini (d + 1) 0 0 pc' ls st S' M' Q)) : AW l g own cc nL rt ini (d + 1) 0 0 pc ls (a5 :: a4 :: a3 :: a2 :: a1 :: st) S M Q := AW.cNv pc' [a1, a2, a3, a4, a5] hd hw rfl rfl hcat hp hM
end AWY
