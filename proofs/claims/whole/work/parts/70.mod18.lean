theorem ml_147 : vml 147 = 5 := by decide +kernel
theorem ml_148 : vml 148 = 5 := by decide +kernel
theorem ml_149 : vml 149 = 5 := by decide +kernel
theorem ml_150 : vml 150 = 4 := by decide +kernel
theorem ml_151 : vml 151 = 5 := by decide +kernel
theorem ml_152 : vml 152 = 8 := by decide +kernel
theorem ml_153 : vml 153 = 7 := by decide +kernel
theorem vr_146 : vrc 146 = some (6, 1) := by decide +kernel
theorem vr_147 : vrc 147 = some (6, 2) := by decide +kernel
theorem vr_148 : vrc 148 = some (6, 2) := by decide +kernel
theorem vr_151 : vrc 151 = some (6, 1) := by decide +kernel
theorem c147_0 : vlk 147 0 = some (1, 0, 0, 0, 1) := by decide +kernel
theorem c147_1 : vlk 147 1 = some (7, 3, 0, 0, 2) := by decide +kernel
theorem c147_2 : vlk 147 2 = some (1, 0, 0, 0, 3) := by decide +kernel
theorem c147_3 : vlk 147 3 = some (7, 4, 0, 0, 5) := by decide +kernel
theorem c147_5 : vlk 147 5 = some (4, 4, 0, 0, 7) := by decide +kernel
theorem c147_7 : vlk 147 7 = some (1, 0, 0, 10, 9) := by decide +kernel
theorem c147_9 : vlk 147 9 = some (79, 49, 0, 0, 12) := by decide +kernel
theorem c147_12 : vlk 147 12 = some (4, 3, 0, 0, 13) := by decide +kernel
theorem c147_13 : vlk 147 13 = some (4, 1, 0, 0, 14) := by decide +kernel
theorem c147_14 : vlk 147 14 = some (4, 4, 0, 0, 16) := by decide +kernel
theorem c147_16 : vlk 147 16 = some (20, 0, 0, 0, 17) := by decide +kernel
theorem c147_17 : vlk 147 17 = some (1, 0, 0, 1, 18) := by decide +kernel
theorem c147_18 : vlk 147 18 = some (17, 0, 0, 0, 19) := by decide +kernel
theorem c147_19 : vlk 147 19 = some (1, 0, 0, 1, 20) := by decide +kernel
theorem c147_20 : vlk 147 20 = some (77, 40, 0, 0, 23) := by decide +kernel
theorem c147_23 : vlk 147 23 = some (6, 0, 0, 0, 24) := by decide +kernel
theorem c147_24 : vlk 147 24 = some (4, 4, 0, 0, 26) := by decide +kernel
theorem c147_26 : vlk 147 26 = some (4, 2, 0, 0, 27) := by decide +kernel
theorem c147_27 : vlk 147 27 = some (58, 106, 0, 0, 30) := by decide +kernel
theorem c147_33 : vlk 147 33 = some (1, 0, 0, 1, 34) := by decide +kernel
theorem c147_34 : vlk 147 34 = some (4, 4, 0, 0, 36) := by decide +kernel
theorem c147_36 : vlk 147 36 = some (19, 0, 0, 0, 37) := by decide +kernel
theorem c147_37 : vlk 147 37 = some (37, 41, 0, 0, 40) := by decide +kernel
theorem c147_40 : vlk 147 40 = some (1, 0, 0, 0, 41) := by decide +kernel
theorem c147_41 : vlk 147 41 = some (18, 0, 0, 0, 42) := by decide +kernel
theorem c147_42 : vlk 147 42 = some (7, 3, 0, 0, 43) := by decide +kernel
theorem c147_43 : vlk 147 43 = some (10, 4, 0, 1, 46) := by decide +kernel
theorem c147_46 : vlk 147 46 = some (37, 5, 0, 0, 49) := by decide +kernel
theorem c147_49 : vlk 147 49 = some (4, 3, 0, 0, 50) := by decide +kernel
theorem c147_50 : vlk 147 50 = some (63, 0, 0, 0, 51) := by decide +kernel
theorem c148_0 : vlk 148 0 = some (4, 2, 0, 0, 1) := by decide +kernel
theorem c148_1 : vlk 148 1 = some (7, 3, 0, 0, 2) := by decide +kernel
theorem c148_2 : vlk 148 2 = some (1, 0, 0, 0, 3) := by decide +kernel
theorem c148_3 : vlk 148 3 = some (7, 4, 0, 0, 5) := by decide +kernel
theorem c148_5 : vlk 148 5 = some (4, 4, 0, 0, 7) := by decide +kernel
theorem c148_7 : vlk 148 7 = some (1, 0, 0, 720, 10) := by decide +kernel
theorem c148_10 : vlk 148 10 = some (79, 39, 0, 0, 13) := by decide +kernel
theorem c148_13 : vlk 148 13 = some (6, 0, 0, 0, 14) := by decide +kernel
theorem c148_14 : vlk 148 14 = some (4, 1, 0, 0, 15) := by decide +kernel
theorem c148_15 : vlk 148 15 = some (4, 4, 0, 0, 17) := by decide +kernel
theorem c148_17 : vlk 148 17 = some (58, 147, 0, 0, 20) := by decide +kernel
theorem c148_20 : vlk 148 20 = some (70, 33, 0, 0, 23) := by decide +kernel
theorem c148_23 : vlk 148 23 = some (4, 3, 0, 0, 24) := by decide +kernel
theorem c148_24 : vlk 148 24 = some (71, 30, 0, 0, 27) := by decide +kernel
theorem c148_27 : vlk 148 27 = some (4, 4, 0, 0, 29) := by decide +kernel
theorem c148_29 : vlk 148 29 = some (63, 0, 0, 0, 30) := by decide +kernel
theorem c148_30 : vlk 148 30 = some (10, 3, 0, (-1), 33) := by decide +kernel
theorem c148_33 : vlk 148 33 = some (10, 4, 0, 1, 36) := by decide +kernel
theorem c148_36 : vlk 148 36 = some (37, 5, 0, 0, 39) := by decide +kernel
theorem c148_39 : vlk 148 39 = some (1, 0, 0, (-5), 41) := by decide +kernel
theorem c148_41 : vlk 148 41 = some (63, 0, 0, 0, 42) := by decide +kernel
theorem c149_0 : vlk 149 0 = some (4, 1, 0, 0, 1) := by decide +kernel
theorem c149_1 : vlk 149 1 = some (59, 146, 0, 0, 4) := by decide +kernel
theorem c149_4 : vlk 149 4 = some (71, 10, 0, 0, 7) := by decide +kernel
theorem c149_7 : vlk 149 7 = some (1, 0, 0, (-2), 9) := by decide +kernel
theorem c149_9 : vlk 149 9 = some (63, 0, 0, 0, 10) := by decide +kernel
theorem c149_10 : vlk 149 10 = some (4, 2, 0, 0, 11) := by decide +kernel
theorem c149_11 : vlk 149 11 = some (1, 0, 0, (-1), 12) := by decide +kernel
theorem c149_12 : vlk 149 12 = some (79, 17, 0, 0, 15) := by decide +kernel
theorem c149_15 : vlk 149 15 = some (1, 0, 0, (-1), 16) := by decide +kernel
theorem c149_16 : vlk 149 16 = some (63, 0, 0, 0, 17) := by decide +kernel
theorem c149_17 : vlk 149 17 = some (4, 2, 0, 0, 18) := by decide +kernel
theorem c149_18 : vlk 149 18 = some (1, 0, 0, (-1), 19) := by decide +kernel
theorem c149_19 : vlk 149 19 = some (77, 61, 0, 0, 22) := by decide +kernel
theorem c149_22 : vlk 149 22 = some (1, 0, 0, 0, 23) := by decide +kernel
theorem c149_23 : vlk 149 23 = some (7, 3, 0, 0, 24) := by decide +kernel
theorem c149_24 : vlk 149 24 = some (1, 0, 0, 0, 25) := by decide +kernel
theorem c149_25 : vlk 149 25 = some (7, 4, 0, 0, 27) := by decide +kernel
theorem c149_27 : vlk 149 27 = some (4, 4, 0, 0, 29) := by decide +kernel
theorem c149_29 : vlk 149 29 = some (1, 0, 0, 720, 32) := by decide +kernel
theorem c149_32 : vlk 149 32 = some (79, 59, 0, 0, 35) := by decide +kernel
theorem c149_35 : vlk 149 35 = some (4, 3, 0, 0, 36) := by decide +kernel
theorem c149_36 : vlk 149 36 = some (6, 0, 0, 0, 37) := by decide +kernel
theorem c149_37 : vlk 149 37 = some (4, 1, 0, 0, 38) := by decide +kernel
theorem c149_38 : vlk 149 38 = some (4, 4, 0, 0, 40) := by decide +kernel
theorem c149_40 : vlk 149 40 = some (58, 147, 0, 0, 43) := by decide +kernel
theorem c149_43 : vlk 149 43 = some (70, 50, 0, 0, 46) := by decide +kernel
theorem c149_46 : vlk 149 46 = some (1, 0, 0, 1, 47) := by decide +kernel
theorem c149_47 : vlk 149 47 = some (37, 51, 0, 0, 50) := by decide +kernel
theorem c149_50 : vlk 149 50 = some (1, 0, 0, 0, 51) := by decide +kernel
theorem c149_51 : vlk 149 51 = some (11, 0, 0, 0, 52) := by decide +kernel
theorem c149_52 : vlk 149 52 = some (7, 3, 0, 0, 53) := by decide +kernel
theorem c149_53 : vlk 149 53 = some (10, 4, 0, 1, 56) := by decide +kernel
theorem c149_56 : vlk 149 56 = some (37, 27, 0, 0, 59) := by decide +kernel
theorem c149_59 : vlk 149 59 = some (4, 3, 0, 0, 60) := by decide +kernel
theorem c149_60 : vlk 149 60 = some (63, 0, 0, 0, 61) := by decide +kernel
theorem c149_61 : vlk 149 61 = some (6, 0, 0, 0, 62) := by decide +kernel
theorem c149_62 : vlk 149 62 = some (4, 1, 0, 0, 63) := by decide +kernel
theorem c149_63 : vlk 149 63 = some (4, 2, 0, 0, 64) := by decide +kernel
theorem c149_64 : vlk 149 64 = some (58, 148, 0, 0, 67) := by decide +kernel
theorem c149_67 : vlk 149 67 = some (63, 0, 0, 0, 68) := by decide +kernel
theorem c150_0 : vlk 150 0 = some (4, 1, 0, 0, 1) := by decide +kernel
theorem c150_1 : vlk 150 1 = some (59, 146, 0, 0, 4) := by decide +kernel
theorem c150_4 : vlk 150 4 = some (71, 10, 0, 0, 7) := by decide +kernel
theorem c150_7 : vlk 150 7 = some (1, 0, 0, (-2), 9) := by decide +kernel
theorem c150_9 : vlk 150 9 = some (63, 0, 0, 0, 10) := by decide +kernel
theorem c150_10 : vlk 150 10 = some (4, 2, 0, 0, 11) := by decide +kernel
theorem c150_11 : vlk 150 11 = some (73, 16, 0, 0, 14) := by decide +kernel
theorem c150_14 : vlk 150 14 = some (1, 0, 0, (-1), 15) := by decide +kernel
theorem c150_15 : vlk 150 15 = some (63, 0, 0, 0, 16) := by decide +kernel
theorem c150_16 : vlk 150 16 = some (6, 0, 0, 0, 17) := by decide +kernel
theorem c150_17 : vlk 150 17 = some (4, 1, 0, 0, 18) := by decide +kernel
theorem c150_18 : vlk 150 18 = some (4, 2, 0, 0, 19) := by decide +kernel
theorem c150_19 : vlk 150 19 = some (58, 148, 0, 0, 22) := by decide +kernel
theorem c150_22 : vlk 150 22 = some (7, 3, 0, 0, 23) := by decide +kernel
theorem c150_23 : vlk 150 23 = some (4, 3, 0, 0, 24) := by decide +kernel
theorem c150_24 : vlk 150 24 = some (73, 31, 0, 0, 27) := by decide +kernel
theorem c150_27 : vlk 150 27 = some (1, 0, 0, 0, 28) := by decide +kernel
theorem c150_28 : vlk 150 28 = some (37, 37, 0, 0, 31) := by decide +kernel
theorem c150_31 : vlk 150 31 = some (6, 0, 0, 0, 32) := by decide +kernel
theorem c150_32 : vlk 150 32 = some (4, 1, 0, 0, 33) := by decide +kernel
theorem c150_33 : vlk 150 33 = some (4, 3, 0, 0, 34) := by decide +kernel
theorem c150_34 : vlk 150 34 = some (58, 147, 0, 0, 37) := by decide +kernel
theorem c150_37 : vlk 150 37 = some (63, 0, 0, 0, 38) := by decide +kernel
theorem c151_0 : vlk 151 0 = some (6, 0, 0, 0, 1) := by decide +kernel
theorem c151_1 : vlk 151 1 = some (1, 0, 0, 1023, 4) := by decide +kernel
theorem c151_4 : vlk 151 4 = some (4, 1, 0, 0, 5) := by decide +kernel
theorem c151_5 : vlk 151 5 = some (58, 147, 0, 0, 8) := by decide +kernel
theorem c151_8 : vlk 151 8 = some (7, 2, 0, 0, 9) := by decide +kernel
theorem c151_9 : vlk 151 9 = some (1, 0, 0, 0, 10) := by decide +kernel
theorem c151_10 : vlk 151 10 = some (7, 3, 0, 0, 11) := by decide +kernel
theorem c151_11 : vlk 151 11 = some (1, 0, 0, 0, 12) := by decide +kernel
theorem c151_12 : vlk 151 12 = some (7, 4, 0, 0, 14) := by decide +kernel
theorem c151_14 : vlk 151 14 = some (4, 4, 0, 0, 16) := by decide +kernel
theorem c151_16 : vlk 151 16 = some (1, 0, 0, 10, 18) := by decide +kernel
theorem c151_18 : vlk 151 18 = some (79, 36, 0, 0, 21) := by decide +kernel
theorem c151_21 : vlk 151 21 = some (4, 3, 0, 0, 22) := by decide +kernel
theorem c151_22 : vlk 151 22 = some (4, 2, 0, 0, 23) := by decide +kernel
theorem c151_23 : vlk 151 23 = some (4, 4, 0, 0, 25) := by decide +kernel
theorem c151_25 : vlk 151 25 = some (20, 0, 0, 0, 26) := by decide +kernel
theorem c151_26 : vlk 151 26 = some (1, 0, 0, 1, 27) := by decide +kernel
theorem c151_27 : vlk 151 27 = some (17, 0, 0, 0, 28) := by decide +kernel
theorem c151_28 : vlk 151 28 = some (11, 0, 0, 0, 29) := by decide +kernel
theorem c151_29 : vlk 151 29 = some (7, 3, 0, 0, 30) := by decide +kernel
theorem c151_30 : vlk 151 30 = some (10, 4, 0, 1, 33) := by decide +kernel
theorem c151_33 : vlk 151 33 = some (37, 14, 0, 0, 36) := by decide +kernel
theorem c151_36 : vlk 151 36 = some (4, 3, 0, 0, 37) := by decide +kernel
theorem c151_37 : vlk 151 37 = some (63, 0, 0, 0, 38) := by decide +kernel
theorem c152_0 : vlk 152 0 = some (4, 1, 0, 0, 1) := by decide +kernel
theorem c152_1 : vlk 152 1 = some (59, 104, 0, 0, 4) := by decide +kernel
theorem c152_4 : vlk 152 4 = some (70, 19, 0, 0, 7) := by decide +kernel
theorem c152_7 : vlk 152 7 = some (4, 2, 0, 0, 8) := by decide +kernel
theorem c152_8 : vlk 152 8 = some (59, 104, 0, 0, 11) := by decide +kernel
theorem c152_11 : vlk 152 11 = some (70, 19, 0, 0, 14) := by decide +kernel
theorem c152_14 : vlk 152 14 = some (4, 2, 0, 0, 15) := by decide +kernel
theorem c152_15 : vlk 152 15 = some (4, 1, 0, 0, 16) := by decide +kernel
theorem c152_16 : vlk 152 16 = some (79, 22, 0, 0, 19) := by decide +kernel
theorem c152_19 : vlk 152 19 = some (1, 0, 0, (-2), 21) := by decide +kernel
theorem c152_21 : vlk 152 21 = some (63, 0, 0, 0, 22) := by decide +kernel
theorem c152_22 : vlk 152 22 = some (4, 3, 0, 0, 23) := by decide +kernel
theorem c152_23 : vlk 152 23 = some (32, 0, 0, 0, 24) := by decide +kernel
theorem c152_24 : vlk 152 24 = some (2, 0, 0, 0, 25) := by decide +kernel
theorem c152_25 : vlk 152 25 = some (2, 0, 0, 1, 26) := by decide +kernel
theorem c152_26 : vlk 152 26 = some (59, 102, 0, 0, 29) := by decide +kernel
theorem c152_29 : vlk 152 29 = some (71, 34, 0, 0, 32) := by decide +kernel
theorem c152_32 : vlk 152 32 = some (1, 0, 0, (-1), 33) := by decide +kernel
theorem c152_33 : vlk 152 33 = some (63, 0, 0, 0, 34) := by decide +kernel
theorem c152_34 : vlk 152 34 = some (1, 0, 0, (-5), 36) := by decide +kernel
theorem c152_36 : vlk 152 36 = some (7, 4, 0, 0, 38) := by decide +kernel
theorem c152_38 : vlk 152 38 = some (1, 0, 0, 0, 39) := by decide +kernel
theorem c152_39 : vlk 152 39 = some (7, 5, 0, 0, 41) := by decide +kernel
theorem c152_41 : vlk 152 41 = some (4, 1, 0, 0, 42) := by decide +kernel
theorem c152_42 : vlk 152 42 = some (7, 6, 0, 0, 44) := by decide +kernel
theorem c152_44 : vlk 152 44 = some (4, 6, 0, 0, 46) := by decide +kernel
theorem c152_46 : vlk 152 46 = some (4, 2, 0, 0, 47) := by decide +kernel
theorem c152_47 : vlk 152 47 = some (80, 89, 0, 0, 50) := by decide +kernel
theorem c152_50 : vlk 152 50 = some (6, 0, 0, 0, 51) := by decide +kernel
theorem c152_51 : vlk 152 51 = some (4, 6, 0, 0, 53) := by decide +kernel
theorem c152_53 : vlk 152 53 = some (58, 151, 0, 0, 56) := by decide +kernel
theorem c152_56 : vlk 152 56 = some (7, 7, 0, 0, 58) := by decide +kernel
theorem c152_58 : vlk 152 58 = some (4, 7, 0, 0, 60) := by decide +kernel
theorem c152_60 : vlk 152 60 = some (4, 5, 0, 0, 62) := by decide +kernel
theorem c152_62 : vlk 152 62 = some (81, 70, 0, 0, 65) := by decide +kernel
theorem c152_65 : vlk 152 65 = some (4, 6, 0, 0, 67) := by decide +kernel
theorem c152_67 : vlk 152 67 = some (37, 72, 0, 0, 70) := by decide +kernel
theorem c152_70 : vlk 152 70 = some (4, 4, 0, 0, 72) := by decide +kernel
theorem c152_72 : vlk 152 72 = some (7, 4, 0, 0, 74) := by decide +kernel
theorem c152_74 : vlk 152 74 = some (4, 5, 0, 0, 76) := by decide +kernel
theorem c152_76 : vlk 152 76 = some (4, 7, 0, 0, 78) := by decide +kernel
theorem c152_78 : vlk 152 78 = some (84, 0, 0, 0, 81) := by decide +kernel
theorem c152_81 : vlk 152 81 = some (7, 5, 0, 0, 83) := by decide +kernel
theorem c152_83 : vlk 152 83 = some (10, 6, 0, 1, 86) := by decide +kernel
theorem c152_86 : vlk 152 86 = some (37, 44, 0, 0, 89) := by decide +kernel
theorem c152_89 : vlk 152 89 = some (4, 3, 0, 0, 90) := by decide +kernel
theorem c152_90 : vlk 152 90 = some (71, 98, 0, 0, 93) := by decide +kernel
theorem c152_93 : vlk 152 93 = some (4, 4, 0, 0, 95) := by decide +kernel
theorem c152_95 : vlk 152 95 = some (37, 100, 0, 0, 98) := by decide +kernel
theorem c152_98 : vlk 152 98 = some (4, 5, 0, 0, 100) := by decide +kernel
theorem c152_100 : vlk 152 100 = some (63, 0, 0, 0, 101) := by decide +kernel
theorem c153_0 : vlk 153 0 = some (4, 1, 0, 0, 1) := by decide +kernel
theorem c153_1 : vlk 153 1 = some (59, 146, 0, 0, 4) := by decide +kernel
theorem c153_4 : vlk 153 4 = some (70, 26, 0, 0, 7) := by decide +kernel
theorem c153_7 : vlk 153 7 = some (4, 2, 0, 0, 8) := by decide +kernel
theorem c153_8 : vlk 153 8 = some (59, 104, 0, 0, 11) := by decide +kernel
theorem c153_11 : vlk 153 11 = some (70, 26, 0, 0, 14) := by decide +kernel
theorem c153_14 : vlk 153 14 = some (4, 3, 0, 0, 15) := by decide +kernel
theorem c153_15 : vlk 153 15 = some (32, 0, 0, 0, 16) := by decide +kernel
theorem c153_16 : vlk 153 16 = some (2, 0, 0, 1, 17) := by decide +kernel
theorem c153_17 : vlk 153 17 = some (2, 0, 0, 99, 20) := by decide +kernel
theorem c153_20 : vlk 153 20 = some (59, 102, 0, 0, 23) := by decide +kernel
theorem c153_23 : vlk 153 23 = some (71, 29, 0, 0, 26) := by decide +kernel
theorem c153_26 : vlk 153 26 = some (1, 0, 0, (-2), 28) := by decide +kernel
theorem c153_28 : vlk 153 28 = some (63, 0, 0, 0, 29) := by decide +kernel
theorem c153_29 : vlk 153 29 = some (4, 2, 0, 0, 30) := by decide +kernel
theorem c153_30 : vlk 153 30 = some (7, 4, 0, 0, 32) := by decide +kernel
theorem c153_32 : vlk 153 32 = some (4, 4, 0, 0, 34) := by decide +kernel
theorem c153_34 : vlk 153 34 = some (4, 3, 0, 0, 35) := by decide +kernel
theorem c153_35 : vlk 153 35 = some (11, 0, 0, 0, 36) := by decide +kernel
theorem c153_36 : vlk 153 36 = some (1, 0, 0, 720, 39) := by decide +kernel
theorem c153_39 : vlk 153 39 = some (80, 100, 0, 0, 42) := by decide +kernel
theorem c153_42 : vlk 153 42 = some (1, 0, 0, 1, 43) := by decide +kernel
theorem c153_43 : vlk 153 43 = some (7, 5, 0, 0, 45) := by decide +kernel
theorem c153_45 : vlk 153 45 = some (4, 4, 0, 0, 47) := by decide +kernel
theorem c153_47 : vlk 153 47 = some (7, 6, 0, 0, 49) := by decide +kernel
theorem c153_49 : vlk 153 49 = some (4, 6, 0, 0, 51) := by decide +kernel
theorem c153_51 : vlk 153 51 = some (4, 4, 0, 0, 53) := by decide +kernel
theorem c153_53 : vlk 153 53 = some (4, 3, 0, 0, 54) := by decide +kernel
theorem c153_54 : vlk 153 54 = some (11, 0, 0, 0, 55) := by decide +kernel
theorem c153_55 : vlk 153 55 = some (79, 86, 0, 0, 58) := by decide +kernel
theorem c153_58 : vlk 153 58 = some (4, 5, 0, 0, 60) := by decide +kernel
theorem c153_63 : vlk 153 63 = some (6, 0, 0, 0, 64) := by decide +kernel
theorem c153_64 : vlk 153 64 = some (4, 1, 0, 0, 65) := by decide +kernel
theorem c153_65 : vlk 153 65 = some (4, 6, 0, 0, 67) := by decide +kernel
theorem c153_67 : vlk 153 67 = some (58, 147, 0, 0, 70) := by decide +kernel
theorem c153_70 : vlk 153 70 = some (71, 77, 0, 0, 73) := by decide +kernel
theorem c153_73 : vlk 153 73 = some (1, 0, 0, 1, 74) := by decide +kernel
theorem c153_74 : vlk 153 74 = some (37, 78, 0, 0, 77) := by decide +kernel
theorem c153_77 : vlk 153 77 = some (1, 0, 0, 0, 78) := by decide +kernel
theorem c153_78 : vlk 153 78 = some (7, 5, 0, 0, 80) := by decide +kernel
theorem c153_80 : vlk 153 80 = some (10, 6, 0, 1, 83) := by decide +kernel
theorem c153_83 : vlk 153 83 = some (37, 49, 0, 0, 86) := by decide +kernel
theorem c153_86 : vlk 153 86 = some (4, 5, 0, 0, 88) := by decide +kernel
theorem c153_91 : vlk 153 91 = some (4, 4, 0, 0, 93) := by decide +kernel
theorem c153_93 : vlk 153 93 = some (63, 0, 0, 0, 94) := by decide +kernel
theorem c153_94 : vlk 153 94 = some (10, 4, 0, 1, 97) := by decide +kernel
theorem c153_97 : vlk 153 97 = some (37, 32, 0, 0, 100) := by decide +kernel
theorem c153_100 : vlk 153 100 = some (1, 0, 0, (-5), 102) := by decide +kernel
theorem c153_102 : vlk 153 102 = some (63, 0, 0, 0, 103) := by decide +kernel
/-! the reference: sets of names -/
def vhv (N : vNmS) (m e : Nat) : Nat → Nat
  | 0 => 0
  | u + 1 => vhv N m e u + if (m.testBit u && vDd N u e) = true then 2 ^ u else 0
theorem vhv_lt (N : vNmS) (m e : Nat) : ∀ u, vhv N m e u < 2 ^ u
  | 0 => Nat.one_pos
  | u + 1 => by
    have := vhv_lt N m e u
    unfold vhv
    rw [Nat.pow_succ]
    split <;> omega
theorem vhv_jn (N : vNmS) (m e : Nat) : ∀ u, (vhv N m e u ≠ 0 ↔ vjn N m u e = true)
  | 0 => ⟨fun q => absurd rfl q, fun q => by cases q⟩
  | u + 1 => by
    have ih := vhv_jn N m e u
    have hp : 0 < 2 ^ u := Nat.two_pow_pos u
    show (vhv N m e u + (if (m.testBit u && vDd N u e) = true then 2 ^ u else 0) ≠ 0) ↔ (vjn N m u e || (m.testBit u && vDd N u e)) = true
    rw [Bool.or_eq_true, ← ih]
    by_cases q : (m.testBit u && vDd N u e) = true
    · rw [if_pos q]
      exact ⟨fun _ => Or.inr q, fun _ => by omega⟩
    · rw [if_neg q, Nat.add_zero]
      exact ⟨fun g => Or.inl g, fun g => g.elim id (fun z => absurd z q)⟩
theorem vhv_tb (N : vNmS) (m e : Nat) : ∀ u j, (vhv N m e u).testBit j = (decide (j < u) && (m.testBit j && vDd N j e))
  | 0, j => by
    show (0 : Nat).testBit j = _
    rw [Nat.zero_testBit, decide_eq_false (Nat.not_lt_zero j), Bool.false_and]
  | u + 1, j => by
    have hl := vhv_lt N m e u
    have e1 : vhv N m e (u + 1) = 2 ^ u * (if (m.testBit u && vDd N u e) = true then 1 else 0) + vhv N m e u := by
      show vhv N m e u + (if (m.testBit u && vDd N u e) = true then 2 ^ u else 0) = _
      split <;> omega
    rw [e1, Nat.testBit_two_pow_mul_add _ hl]
    by_cases h : j < u
    · rw [if_pos h, vhv_tb N m e u j, decide_eq_true h, decide_eq_true (show j < u + 1 by omega)]
    · rw [if_neg h]
      by_cases h2 : j = u
      · subst h2
        rw [Nat.sub_self, decide_eq_true (show j < j + 1 by omega), Bool.true_and]
        cases hb : (m.testBit j && vDd N j e)
        · rw [if_neg (by decide)]; rfl
        · rw [if_pos rfl]; rfl
      · rw [decide_eq_false (show ¬ j < u + 1 by omega), Bool.false_and]
        have hp : 2 ≤ 2 ^ (j - u) := by
          rw [show j - u = (j - u - 1) + 1 by omega, Nat.pow_succ]
          have := Nat.two_pow_pos (j - u - 1)
          omega
        exact Nat.testBit_lt_two_pow (by split <;> omega)
theorem vow_hv {N : vNmS} {e : Nat} (he : e < 720) : ∀ u, u ≤ 10 → vow N (e : Int) u = vhv N 1023 e u
  | 0, _ => rfl
  | u + 1, hu => by
    have ih := vow_hv (N := N) he u (by omega)
    have hb : ∀ j, j < 10 → (1023 : Nat).testBit j = true := by decide
    show vow N (e : Int) u + (if 0 ≤ (e : Int) ∧ (e : Int) < 720 ∧ vDd N u ((e : Int)).toNat = true then 2 ^ u else 0) = vhv N 1023 e u + (if ((1023 : Nat).testBit u && vDd N u e) = true then 2 ^ u else 0)
    rw [ih, hb u (by omega), Bool.true_and, Int.toNat_natCast]
    by_cases q : vDd N u e = true
    · rw [if_pos q, if_pos ⟨by omega, by omega, q⟩]
    · rw [if_neg q, if_neg (fun g => q g.2.2)]
theorem vow_no {N : vNmS} {z : Int} (hz : z < 0) : ∀ u, vow N z u = 0
  | 0 => rfl
  | u + 1 => by
    show vow N z u + (if 0 ≤ z ∧ z < 720 ∧ vDd N u z.toNat = true then 2 ^ u else 0) = 0
    rw [vow_no hz u, if_neg (fun q => by omega)]
theorem iI_ofn (n : Nat) : iI (n : Int) = Int32.ofNat n := Int32.ofInt_eq_ofNat
theorem vandI_nat {a b : Nat} (ha : a < 2 ^ 31) : vandI (a : Int) (b : Int) = ((a &&& b : Nat) : Int) := by
  have e : Int32.ofNat a &&& Int32.ofNat b = Int32.ofNat (a &&& b) := by
    apply Int32.toBitVec_inj.1
    show BitVec.ofNat 32 a &&& BitVec.ofNat 32 b = BitVec.ofNat 32 (a &&& b)
    apply BitVec.eq_of_getLsbD_eq
    intro i hi
    simp [hi]
  have h : a &&& b ≤ a := Nat.and_le_left
  unfold vandI
  rw [iI_ofn, iI_ofn, e, ← iI_ofn, iI_toInt (by omega) (by omega)]
theorem vhv_and {N : vNmS} {m e : Nat} (he : e < 720) : vandI ((vow N (e : Int) 10 : Nat) : Int) (m : Int) = ((vhv N m e 10 : Nat) : Int) := by
  have hl := vow_lt N (e : Int) 10
  rw [vandI_nat (by omega), vow_hv he 10 (Nat.le_refl _)]
  congr 1
  apply Nat.eq_of_testBit_eq
  intro j
  rw [Nat.testBit_and, vhv_tb, vhv_tb]
  by_cases hj : j < 10
  · have hb : ∀ j, j < 10 → (1023 : Nat).testBit j = true := by decide
    rw [hb j hj]
    cases m.testBit j <;> cases vDd N j e <;> simp
  · rw [decide_eq_false hj]
    simp
theorem vor_0 : ∀ o : Nat, o < 1024 → vorI (o : Int) 0 = (o : Int) := by decide +kernel
theorem m_having {d c m e : Nat} {N : vNmS} {h : vHp} {Q : vQ} (hM : vMn h c N) (hm : m < 1024) (he : e < 720) (k : Q (some (.int (iI ((vhv N m e 10 : Nat) : Int)))) h) : vCall (d + 2) 0 0 147 [.ref c, .int (iI (m : Int)), .int (iI (e : Int))] h Q := by
  obtain ⟨fs, ho⟩ := vMn_o hM
  have loop : ∀ u i : Nat, i + u = 10 → vW (vCall (d + 1)) 147 Q 5 [.ref c, .int (iI (m : Int)), .int (iI (e : Int)), .int (iI ((vhv N m e i : Nat) : Int)), .int (iI (i : Int))] [] h 0 0 := by
    intro u
    induction u with
    | zero =>
      intro i hi
      obtain rfl : i = 10 := by omega
      refine r_iload c147_5 rfl (r_ci c147_7 ?_)
      refine r_icge c147_9 (by omega) (by omega) (by omega) (by omega) (fun c_9 => ?_) (fun q => by exfalso; omega)
      refine r_iload c147_49 rfl ?_
      refine r_iret (st := []) c147_50 ?_
      exact k
    | succ u ih =>
      intro i hi
      have hl := vhv_lt N m e i
      have hl2 : vhv N m e i < 1024 := Nat.lt_of_lt_of_le hl (Nat.pow_le_pow_right (by decide) (show i ≤ 10 by omega))
      have e1 : vhv N m e (i + 1) = vhv N m e i + (if (m.testBit i && vDd N i e) = true then 2 ^ i else 0) := rfl
      have no : (m.testBit i && vDd N i e) = false → vW (vCall (d + 1)) 147 Q 40 [.ref c, .int (iI (m : Int)), .int (iI (e : Int)), .int (iI ((vhv N m e i : Nat) : Int)), .int (iI (i : Int))] [.int (iI ((vhv N m e i : Nat) : Int))] h 0 0 := fun q => by
        rw [q, if_neg (by decide)] at e1
        have e2 : vhv N m e (i + 1) = vhv N m e i := e1
        refine r_ci c147_40 (r_ior c147_41 (r_istore c147_42 rfl (r_iinc c147_43 rfl rfl (r_goto c147_46 ?_))))
        try dsimp only [vst]
        rw [vor_0 _ hl2, ← e2, vsu]
        exact ih (i + 1) (by omega)
      refine r_iload c147_5 rfl (r_ci c147_7 ?_)
      refine r_icge c147_9 (by omega) (by omega) (by omega) (by omega) (fun q => by exfalso; omega) (fun c_9 => ?_)
      refine r_iload c147_12 rfl (r_iload c147_13 rfl (r_iload c147_14 rfl (r_ishr c147_16 (r_ci c147_17 (r_iand c147_18 (r_ci c147_19 ?_))))))
      rw [vbit_m m hm i (by omega)]
      cases hb : m.testBit i
      · rw [if_neg (by decide)]
        refine r_icne c147_20 (by omega) (by omega) (by omega) (by omega) (fun c_20 => ?_) (fun q => by exfalso; omega)
        exact no (by rw [hb, Bool.false_and])
      · rw [if_pos rfl]
        refine r_icne c147_20 (by omega) (by omega) (by omega) (by omega) (fun q => by exfalso; omega) (fun c_20 => ?_)
        refine r_aload c147_23 rfl (r_iload c147_24 rfl (r_iload c147_26 rfl ?_))
        refine r_iv2 c147_27 vr_106 ho rfl (k_mOf hM (by omega) he ?_)
        dsimp only [vpush]
        refine vife (by decide +kernel : vlk 147 30 = some (70, 40, 0, 0, 33)) (fun b => ?_) (fun b => ?_)
        · exact no (by rw [b, Bool.and_false])
        · rw [hb, b, if_pos (by rfl)] at e1
          refine r_ci c147_33 (r_iload c147_34 rfl (r_ishl c147_36 (r_goto c147_37 (r_ior c147_41 (r_istore c147_42 rfl (r_iinc c147_43 rfl rfl (r_goto c147_46 ?_)))))))
          try dsimp only [vst]
          rw [vor_m i (by omega) _ hl, ← e1, vsu]
          exact ih (i + 1) (by omega)
  refine vin 5 [_, _, _, _, _] ml_147 rfl rfl ?_
  refine r_ci c147_0 (r_istore c147_1 rfl (r_ci c147_2 (r_istore c147_3 rfl ?_)))
  try dsimp only [vst]
  exact loop 10 0 rfl
theorem vhv_rg (N : vNmS) (m e : Nat) : vhv N m e 10 < 1024 := vhv_lt N m e 10
theorem m_mday {d c m : Nat} {N : vNmS} {y : Nat} {h : vHp} {Q : vQ} (hM : vMn h c N) (hm : m < 1024) (hy : y ≤ 2147483647) (k : Q (some (.int (iI (vfw (vjn N m 10) 720 0 y)))) h) : vCall (d + 3) 0 0 148 [.ref c, .int (iI (m : Int)), .int (iI (y : Int))] h Q := by
  obtain ⟨fs, ho⟩ := vMn_o hM
  have loop : ∀ u i : Nat, i + u = 720 → ∀ l : Nat, l ≤ 2147483647 → vfw (vjn N m 10) u i l = vfw (vjn N m 10) 720 0 y → vW (vCall (d + 2)) 148 Q 5 [.ref c, .int (iI (m : Int)), .int (iI (y : Int)), .int (iI (l : Int)), .int (iI (i : Int))] [] h 0 0 := by
    intro u
    induction u with
    | zero =>
      intro i hi l hl hv
      rw [← hv] at k
      refine r_iload c148_5 rfl (r_ci c148_7 ?_)
      refine r_icge c148_10 (by omega) (by omega) (by omega) (by omega) (fun c_10 => ?_) (fun q => by exfalso; omega)
      refine r_ci c148_39 ?_
      refine r_iret (st := []) c148_41 ?_
      exact k
    | succ u ih =>
      intro i hi l hl hv
      have hr := vhv_rg N m i
      have hj := vhv_jn N m i 10
      rw [show vfw (vjn N m 10) (u + 1) i l = (if vjn N m 10 i = true then (if l = 0 then (i : Int) else vfw (vjn N m 10) u (i + 1) (l - 1)) else vfw (vjn N m 10) u (i + 1) l) from rfl] at hv
      refine r_iload c148_5 rfl (r_ci c148_7 ?_)
      refine r_icge c148_10 (by omega) (by omega) (by omega) (by omega) (fun q => by exfalso; omega) (fun c_10 => ?_)
      refine r_aload c148_13 rfl (r_iload c148_14 rfl (r_iload c148_15 rfl ?_))
      refine r_iv2 c148_17 vr_147 ho rfl (m_having hM hm (by omega) ?_)
      dsimp only [vpush]
      refine r_ifeq c148_20 (by omega) (by omega) (fun c_20 => ?_) (fun c_20 => ?_)
      · rw [if_neg (fun q => hj.2 q (by omega))] at hv
        refine r_iinc c148_33 rfl rfl (r_goto c148_36 ?_)
        try dsimp only [vst]
        rw [vsu]
        exact ih (i + 1) (by omega) l hl hv
      · rw [if_pos (hj.1 (by omega))] at hv
        refine r_iload c148_23 rfl ?_
        refine r_ifne c148_24 (by omega) (by omega) (fun c_24 => ?_) (fun c_24 => ?_)
        · rw [if_neg (by omega)] at hv
          refine r_iinc c148_30 rfl rfl (r_iinc c148_33 rfl rfl (r_goto c148_36 ?_))
          try dsimp only [vst]
          rw [show (l : Int) + -1 = ((l - 1 : Nat) : Int) by omega, vsu]
          exact ih (i + 1) (by omega) (l - 1) (by omega) hv
        · rw [if_pos (by omega)] at hv
          rw [← hv] at k
          refine r_iload c148_27 rfl ?_
          refine r_iret (st := []) c148_29 ?_
          exact k
  refine vin 5 [_, _, _, _, _] ml_148 rfl rfl ?_
  refine r_iload c148_0 rfl (r_istore c148_1 rfl (r_ci c148_2 (r_istore c148_3 rfl ?_)))
  try dsimp only [vst]
  exact loop 720 0 rfl y hy rfl
theorem m_merged {d c : Nat} {N : vNmS} {x y : Int} {h : vHp} {Q : vQ} (hM : vMn h c N) (x1 : -2147483648 ≤ x) (x2 : x ≤ 2147483647) (y1 : -2147483648 ≤ y) (y2 : y ≤ 2147483647) (k : Q (some (.int (iI (vQ_merged N x y)))) h) : vCall (d + 4) 0 0 149 [.ref c, .int (iI x), .int (iI y)] h Q := by
  obtain ⟨fs, ho⟩ := vMn_o hM
  unfold vQ_merged at k
  refine vin 5 [_, _, _, _, _] ml_149 rfl rfl ?_
  refine r_iload c149_0 rfl ?_
  refine r_is1 c149_1 vr_146 rfl (k_mSet x1 x2 (fun e1 e2 => ?_) (fun e => ?_))
  · dsimp only [vpush]
    rw [if_pos ⟨e1, e2⟩] at k
    obtain ⟨m, rfl⟩ := Int.eq_ofNat_of_zero_le e1
    rw [Int.toNat_natCast] at k
    refine r_ifne c149_4 (by omega) (by omega) (fun c_4 => ?_) (fun q => by exfalso; omega)
    refine r_iload c149_10 rfl (r_ci c149_11 ?_)
    refine r_icge c149_12 (by omega) (by omega) (by omega) (by omega) (fun c_12 => ?_) (fun c_12 => ?_)
    · rw [if_neg (by omega)] at k
      refine r_iload c149_17 rfl (r_ci c149_18 ?_)
      refine r_icne c149_19 (by omega) (by omega) (by omega) (by omega) (fun c_19 => ?_) (fun c_19 => ?_)
      · rw [if_neg c_19] at k
        obtain ⟨v, rfl⟩ := Int.eq_ofNat_of_zero_le (show 0 ≤ y by omega)
        have ek : vpk (vjn N m 10) 0 719 (v : Int) = vfw (vjn N m 10) 720 0 v := by
          unfold vpk
          rw [if_pos (by omega), Int.toNat_natCast]
        rw [ek] at k
        refine r_aload c149_61 rfl (r_iload c149_62 rfl (r_iload c149_63 rfl ?_))
        refine r_iv2 c149_64 vr_148 ho rfl (m_mday hM (by omega) (by omega) ?_)
        dsimp only [vpush]
        refine r_iret (st := []) c149_67 ?_
        exact k
      · rw [if_pos c_19] at k
        have loop : ∀ u i : Nat, i + u = 720 → vW (vCall (d + 3)) 149 Q 27 [.ref c, .int (iI (m : Int)), .int (iI y), .int (iI ((vcn (vjn N m 10) 0 i : Nat) : Int)), .int (iI (i : Int))] [] h 0 0 := by
          intro u
          induction u with
          | zero =>
            intro i hi
            obtain rfl : i = 720 := by omega
            refine r_iload c149_27 rfl (r_ci c149_29 ?_)
            refine r_icge c149_32 (by omega) (by omega) (by omega) (by omega) (fun c_32 => ?_) (fun q => by exfalso; omega)
            refine r_iload c149_59 rfl ?_
            refine r_iret (st := []) c149_60 ?_
            exact k
          | succ u ih =>
            intro i hi
            have hr := vhv_rg N m i
            have hj := vhv_jn N m i 10
            have e : vcn (vjn N m 10) 0 (i + 1) = vcn (vjn N m 10) 0 i + (if vjn N m 10 (0 + i) = true then 1 else 0) := rfl
            rw [Nat.zero_add] at e
            refine r_iload c149_27 rfl (r_ci c149_29 ?_)
            refine r_icge c149_32 (by omega) (by omega) (by omega) (by omega) (fun q => by exfalso; omega) (fun c_32 => ?_)
            refine r_iload c149_35 rfl (r_aload c149_36 rfl (r_iload c149_37 rfl (r_iload c149_38 rfl ?_)))
            refine r_iv2 c149_40 vr_147 ho rfl (m_having hM (by omega) (by omega) ?_)
            dsimp only [vpush]
            refine r_ifeq c149_43 (by omega) (by omega) (fun c_43 => ?_) (fun c_43 => ?_)
            · rw [if_neg (fun q => hj.2 q (by omega))] at e
              refine r_ci c149_50 (r_iadd c149_51 (r_istore c149_52 rfl (r_iinc c149_53 rfl rfl (r_goto c149_56 ?_))))
              try dsimp only [vst]
              rw [Int.add_zero, show vcn (vjn N m 10) 0 i = vcn (vjn N m 10) 0 (i + 1) by omega, vsu]
              exact ih (i + 1) (by omega)
            · rw [if_pos (hj.1 (by omega))] at e
              refine r_ci c149_46 (r_goto c149_47 (r_iadd c149_51 (r_istore c149_52 rfl (r_iinc c149_53 rfl rfl (r_goto c149_56 ?_)))))
              try dsimp only [vst]
              rw [vsu, vsu, ← e]
              exact ih (i + 1) (by omega)
        refine r_ci c149_22 (r_istore c149_23 rfl (r_ci c149_24 (r_istore c149_25 rfl ?_)))
        try dsimp only [vst]
        exact loop 720 0 rfl
    · rw [if_pos (by omega)] at k
      refine r_ci c149_15 ?_
      refine r_iret (st := []) c149_16 ?_
      exact k
  · dsimp only [vpush]
    rw [if_neg e] at k
    refine r_ifne c149_4 (by omega) (by omega) (fun q => by exfalso; omega) (fun c_4 => ?_)
    refine r_ci c149_7 ?_
    refine r_iret (st := []) c149_9 ?_
    exact k
theorem m_whose {d c : Nat} {N : vNmS} {x y : Int} {h : vHp} {Q : vQ} (hM : vMn h c N) (x1 : -2147483648 ≤ x) (x2 : x ≤ 2147483647) (y1 : -2147483648 ≤ y) (y2 : y ≤ 2147483647) (k : Q (some (.int (iI (vQ_whose N x y)))) h) : vCall (d + 4) 0 0 150 [.ref c, .int (iI x), .int (iI y)] h Q := by
  obtain ⟨fs, ho⟩ := vMn_o hM
  unfold vQ_whose at k
  refine vin 4 [_, _, _, _] ml_150 rfl rfl ?_
  refine r_iload c150_0 rfl ?_
  refine r_is1 c150_1 vr_146 rfl (k_mSet x1 x2 (fun e1 e2 => ?_) (fun e => ?_))
  · dsimp only [vpush]
    rw [if_pos ⟨e1, e2⟩] at k
    obtain ⟨m, rfl⟩ := Int.eq_ofNat_of_zero_le e1
    rw [Int.toNat_natCast] at k
    refine r_ifne c150_4 (by omega) (by omega) (fun c_4 => ?_) (fun q => by exfalso; omega)
    refine r_iload c150_10 rfl ?_
    refine r_ifge c150_11 (by omega) (by omega) (fun c_11 => ?_) (fun c_11 => ?_)
    · rw [if_neg (by omega)] at k
      obtain ⟨v, rfl⟩ := Int.eq_ofNat_of_zero_le (show 0 ≤ y by omega)
      have ek : vpk (vjn N m 10) 0 719 (v : Int) = vfw (vjn N m 10) 720 0 v := by
        unfold vpk
        rw [if_pos (by omega), Int.toNat_natCast]
      rw [ek] at k
      have rg := vfw_range (S := vjn N m 10) (n := 720) (d := 0) (k := v)
      refine r_aload c150_16 rfl (r_iload c150_17 rfl (r_iload c150_18 rfl ?_))
      refine r_iv2 c150_19 vr_148 ho rfl (m_mday hM (by omega) (by omega) ?_)
      dsimp only [vpush]
      refine r_istore c150_22 rfl (r_iload c150_23 rfl ?_)
      try dsimp only [vst]
      refine r_ifge c150_24 (by omega) (by omega) (fun c_24 => ?_) (fun c_24 => ?_)
      · obtain ⟨e, he⟩ := Int.eq_ofNat_of_zero_le c_24
        rw [he] at k ⊢
        rw [vhv_and (by omega)] at k
        refine r_aload c150_31 rfl (r_iload c150_32 rfl (r_iload c150_33 rfl ?_))
        refine r_iv2 c150_34 vr_147 ho rfl (m_having hM (by omega) (by omega) ?_)
        dsimp only [vpush]
        refine r_iret (st := []) c150_37 ?_
        exact k
      · rw [vow_no c_24] at k
        rw [vandI_nat (by omega), Nat.zero_and] at k
        refine r_ci c150_27 (r_goto c150_28 ?_)
        refine r_iret (st := []) c150_37 ?_
        exact k
    · rw [if_pos (by omega)] at k
      refine r_ci c150_14 ?_
      refine r_iret (st := []) c150_15 ?_
      exact k
  · dsimp only [vpush]
    rw [if_neg e] at k
    refine r_ifne c150_4 (by omega) (by omega) (fun q => by exfalso; omega) (fun c_4 => ?_)
    refine r_ci c150_7 ?_
    refine r_iret (st := []) c150_9 ?_
    exact k
theorem m_manyAt {d c e : Nat} {N : vNmS} {h : vHp} {Q : vQ} (hM : vMn h c N) (he : e < 720) (k : Q (some (.int (iI ((vmn N e : Nat) : Int)))) h) : vCall (d + 3) 0 0 151 [.ref c, .int (iI (e : Int))] h Q := by
  obtain ⟨fs, ho⟩ := vMn_o hM
  have hr := vhv_rg N 1023 e
  unfold vmn at k
  rw [vow_hv he 10 (Nat.le_refl _)] at k
  refine vin 5 [_, _, _, _, _] ml_151 rfl rfl ?_
  refine r_aload c151_0 rfl (r_ci c151_1 (r_iload c151_4 rfl ?_))
  refine r_iv2 c151_5 vr_147 ho rfl (m_having (m := 1023) hM (by omega) he ?_)
  dsimp only [vpush]
  generalize vhv N 1023 e 10 = b at *
  have loop : ∀ u i : Nat, i + u = 10 → vW (vCall (d + 2)) 151 Q 14 [.ref c, .int (iI (e : Int)), .int (iI (b : Int)), .int (iI ((vcn (fun j => b.testBit j) 0 i : Nat) : Int)), .int (iI (i : Int))] [] h 0 0 := by
    intro u
    induction u with
    | zero =>
      intro i hi
      obtain rfl : i = 10 := by omega
      refine r_iload c151_14 rfl (r_ci c151_16 ?_)
      refine r_icge c151_18 (by omega) (by omega) (by omega) (by omega) (fun c_18 => ?_) (fun q => by exfalso; omega)
      refine r_iload c151_36 rfl ?_
      refine r_iret (st := []) c151_37 ?_
      exact k
    | succ u ih =>
      intro i hi
      have e1 : vcn (fun j => b.testBit j) 0 (i + 1) = vcn (fun j => b.testBit j) 0 i + (if b.testBit (0 + i) = true then 1 else 0) := rfl
      rw [Nat.zero_add] at e1
      refine r_iload c151_14 rfl (r_ci c151_16 ?_)
      refine r_icge c151_18 (by omega) (by omega) (by omega) (by omega) (fun q => by exfalso; omega) (fun c_18 => ?_)
      refine r_iload c151_21 rfl (r_iload c151_22 rfl (r_iload c151_23 rfl (r_ishr c151_25 (r_ci c151_26 (r_iand c151_27 (r_iadd c151_28 (r_istore c151_29 rfl (r_iinc c151_30 rfl rfl (r_goto c151_33 ?_)))))))))
      try dsimp only [vst]
      rw [vbit_m b hr i (by omega)]
      have e2 : ((vcn (fun j => b.testBit j) 0 i : Nat) : Int) + (if b.testBit i = true then 1 else 0) = ((vcn (fun j => b.testBit j) 0 (i + 1) : Nat) : Int) := by
        rw [e1]; split <;> omega
      rw [e2, vsu]
      exact ih (i + 1) (by omega)
  refine r_istore c151_8 rfl (r_ci c151_9 (r_istore c151_10 rfl (r_ci c151_11 (r_istore c151_12 rfl ?_))))
  try dsimp only [vst]
  exact loop 10 0 rfl
theorem vmn_rg (N : vNmS) (e : Nat) : vmn N e ≤ 10 := vcn_le _ 0 10
theorem m_busiest {d c : Nat} {N : vNmS} {x y z : Int} {h : vHp} {Q : vQ} (hM : vMn h c N) (x1 : -2147483648 ≤ x) (x2 : x ≤ 2147483647) (y1 : -2147483648 ≤ y) (y2 : y ≤ 2147483647) (z1 : -2147483648 ≤ z) (z2 : z ≤ 2147483647) (k : Q (some (.int (iI (vQ_busiest N x y z)))) h) : vCall (d + 4) 0 0 152 [.ref c, .int (iI x), .int (iI y), .int (iI z)] h Q := by
  obtain ⟨fs, ho⟩ := vMn_o hM
  unfold vQ_busiest at k
  have no : ¬ (0 ≤ x ∧ x ≤ y ∧ y < 720) → ∀ v4 v5 v6 v7 : Value, vW (vCall (d + 3)) 152 Q 19 [.ref c, .int (iI x), .int (iI y), .int (iI z), v4, v5, v6, v7] [] h 0 0 := fun q v4 v5 v6 v7 => by
    rw [if_neg q] at k
    refine r_ci c152_19 ?_
    refine r_iret (st := []) c152_21 ?_
    exact k
  refine vin 8 [_, _, _, _, _, _, _, _] ml_152 rfl rfl ?_
  refine r_iload c152_0 rfl ?_
  refine r_is1 c152_1 vr_104 rfl (k_mDay x1 x2 (fun e1 e2 => ?_) (fun e => ?_))
  · dsimp only [vpush]
    refine r_ifeq c152_4 (by omega) (by omega) (fun q => by exfalso; omega) (fun c_4 => ?_)
    refine r_iload c152_7 rfl ?_
    refine r_is1 c152_8 vr_104 rfl (k_mDay y1 y2 (fun f1 f2 => ?_) (fun f => ?_))
    · dsimp only [vpush]
      refine r_ifeq c152_11 (by omega) (by omega) (fun q => by exfalso; omega) (fun c_11 => ?_)
      refine r_iload c152_14 rfl (r_iload c152_15 rfl ?_)
      refine r_icge c152_16 (by omega) (by omega) (by omega) (by omega) (fun c_16 => ?_) (fun c_16 => ?_)
      · rw [if_pos ⟨e1, c_16, f2⟩] at k
        refine r_iload c152_22 rfl (r_i2l c152_23 (by omega) (by omega) (r_cl c152_24 (r_cl c152_25 ?_)))
        refine r_is3 c152_26 vr_102 rfl (k_isIn (by constructor <;> omega) (by constructor <;> omega) (by constructor <;> omega) (fun g1 g2 => ?_) (fun g => ?_))
        · dsimp only [vpush]
          obtain ⟨a, rfl⟩ := Int.eq_ofNat_of_zero_le e1
          obtain ⟨b, rfl⟩ := Int.eq_ofNat_of_zero_le f1
          rw [Int.toNat_natCast, Int.toNat_natCast] at k
          have loop : ∀ u i : Nat, i + u = b + 1 → ∀ B M : Int, -5 ≤ B → B ≤ 720 → 0 ≤ M → M ≤ 10 → vbz N u i B M = vbz N (b + 1 - a) a (-5) 0 → ∀ v7 : Value, vW (vCall (d + 3)) 152 Q 44 [.ref c, .int (iI (a : Int)), .int (iI (b : Int)), .int (iI z), .int (iI B), .int (iI M), .int (iI (i : Int)), v7] [] h 0 0 := by
            intro u
            induction u with
            | zero =>
              intro i hi B M b1 b2 m1 m2 he v7
              rw [← he] at k
              refine r_iload c152_44 rfl (r_iload c152_46 rfl ?_)
              refine r_icgt c152_47 (by omega) (by omega) (by omega) (by omega) (fun c_47 => ?_) (fun q => by exfalso; omega)
              refine r_iload c152_89 rfl ?_
              refine r_ifne c152_90 (by omega) (by omega) (fun c_90 => ?_) (fun c_90 => ?_)
              · rw [if_neg (by omega), if_pos (by omega)] at k
                refine r_iload c152_98 rfl ?_
                refine r_iret (st := []) c152_100 ?_
                exact k
              · rw [if_pos (by omega)] at k
                refine r_iload c152_93 rfl (r_goto c152_95 ?_)
                refine r_iret (st := []) c152_100 ?_
                exact k
            | succ u ih =>
              intro i hi B M b1 b2 m1 m2 he v7
              have hr := vmn_rg N i
              rw [show vbz N (u + 1) i B M = (if M < ((vmn N i : Nat) : Int) then vbz N u (i + 1) (i : Int) ((vmn N i : Nat) : Int) else vbz N u (i + 1) B M) from rfl] at he
              refine r_iload c152_44 rfl (r_iload c152_46 rfl ?_)
              refine r_icgt c152_47 (by omega) (by omega) (by omega) (by omega) (fun q => by exfalso; omega) (fun c_47 => ?_)
              refine r_aload c152_50 rfl (r_iload c152_51 rfl ?_)
              refine r_iv1 c152_53 vr_151 ho rfl (m_manyAt hM (by omega) ?_)
              dsimp only [vpush]
              refine r_istore c152_56 rfl (r_iload c152_58 rfl (r_iload c152_60 rfl ?_))
              try dsimp only [vst]
              refine r_icle c152_62 (by omega) (by omega) (by omega) (by omega) (fun c_62 => ?_) (fun c_62 => ?_)
              · rw [if_neg (by omega)] at he
                refine r_iload c152_70 rfl (r_istore c152_72 rfl (r_iload c152_74 rfl (r_iload c152_76 rfl (r_mmax c152_78 (by omega) (by omega) (by omega) (by omega) (Nat.le_of_ble_eq_true rfl) (r_istore c152_81 rfl (r_iinc c152_83 rfl rfl (r_goto c152_86 ?_)))))))
                try dsimp only [vst]
                rw [if_neg (by omega), vsu]
                exact ih (i + 1) (by omega) B M b1 b2 m1 m2 he _
              · rw [if_pos (by omega)] at he
                refine r_iload c152_65 rfl (r_goto c152_67 (r_istore c152_72 rfl (r_iload c152_74 rfl (r_iload c152_76 rfl (r_mmax c152_78 (by omega) (by omega) (by omega) (by omega) (Nat.le_of_ble_eq_true rfl) (r_istore c152_81 rfl (r_iinc c152_83 rfl rfl (r_goto c152_86 ?_))))))))
                try dsimp only [vst]
                rw [if_pos (by omega), vsu]
                exact ih (i + 1) (by omega) _ _ (by omega) (by omega) (by omega) (by omega) he _
          refine r_ifne c152_29 (by omega) (by omega) (fun c_29 => ?_) (fun q => by exfalso; omega)
          refine r_ci c152_34 (r_istore c152_36 rfl (r_ci c152_38 (r_istore c152_39 rfl (r_iload c152_41 rfl (r_istore c152_42 rfl ?_)))))
          try dsimp only [vst]
          exact loop (b + 1 - a) a (by omega) (-5) 0 (by omega) (by omega) (by omega) (by omega) rfl _
        · dsimp only [vpush]
          rw [if_neg (by omega), if_neg (by omega)] at k
          refine r_ifne c152_29 (by omega) (by omega) (fun q => by exfalso; omega) (fun c_29 => ?_)
          refine r_ci c152_32 ?_
          refine r_iret (st := []) c152_33 ?_
          exact k
      · exact no (by omega) _ _ _ _
    · dsimp only [vpush]
      refine r_ifeq c152_11 (by omega) (by omega) (fun c_11 => ?_) (fun q => by exfalso; omega)
      exact no (by omega) _ _ _ _
  · dsimp only [vpush]
    refine r_ifeq c152_4 (by omega) (by omega) (fun c_4 => ?_) (fun q => by exfalso; omega)
    exact no (by omega) _ _ _ _
/-- the first run of so many days without -/
def vnf (S : vSt1) (n d : Nat) : Prop := d + n ≤ 720 ∧ ∀ k, d ≤ k → k < d + n → S k = false
def vfst (S : vSt1) (n y : Nat) (r : Int) : Prop := (r = -5 ∧ ∀ d, y ≤ d → ¬ vnf S n d) ∨ ∃ m : Nat, r = (m : Int) ∧ y ≤ m ∧ vnf S n m ∧ ∀ d, y ≤ d → d < m → ¬ vnf S n d
theorem vfst_uniq {S : vSt1} {n y : Nat} {r s : Int} (h1 : vfst S n y r) (h2 : vfst S n y s) : r = s := by
  rcases h1 with ⟨rfl, a⟩ | ⟨m, rfl, a1, a2, a3⟩
  · rcases h2 with ⟨rfl, b⟩ | ⟨k, rfl, b1, b2, b3⟩
    · rfl
    · exact absurd b2 (a k b1)
  · rcases h2 with ⟨rfl, b⟩ | ⟨k, rfl, b1, b2, b3⟩
    · exact absurd a2 (b m a1)
    · by_cases q : m < k
      · exact absurd a2 (b3 m a1 q)
      · by_cases q2 : k < m
        · exact absurd b2 (a3 k b1 q2)
        · rw [show m = k by omega]
theorem vfe_fst {S : vSt1} {n y : Nat} (hn : 1 ≤ n) : ∀ (u e r : Nat), e + u = 720 → r < n → y + r ≤ e → (∀ k, e - r ≤ k → k < e → S k = false) → (∀ d, y ≤ d → d + r < e → ¬ vnf S n d) → vfst S n y (vfe S (n : Int) u e (r : Int))
  | 0, e, r, he, hr, hy, h1, h2 => by
    refine Or.inl ⟨rfl, fun d hd hv => ?_⟩
    by_cases q : d + r < e
    · exact h2 d hd q hv
    · have := hv.1; omega
  | u + 1, e, r, he, hr, hy, h1, h2 => by
    have ev : vfe S (n : Int) (u + 1) e (r : Int) = (if (if S e = true then (0 : Int) else (r : Int) + 1) = (n : Int) then (e : Int) - (n : Int) + 1 else vfe S (n : Int) u (e + 1) (if S e = true then (0 : Int) else (r : Int) + 1)) := rfl
    rw [ev]
    by_cases hs : S e = true
    · rw [if_pos hs, if_neg (by omega)]
      refine vfe_fst hn u (e + 1) 0 (by omega) (by omega) (by omega) (fun k k1 k2 => by omega) (fun d d1 d2 hv => ?_)
      by_cases q : d + r < e
      · exact h2 d d1 q hv
      · have := hv.2 e (by omega) (by omega)
        rw [hs] at this
        cases this
    · have hs2 : S e = false := by simpa using hs
      rw [if_neg hs]
      by_cases hq : r + 1 = n
      · rw [if_pos (by omega)]
        refine Or.inr ⟨e - r, by omega, by omega, ⟨by omega, fun k k1 k2 => ?_⟩, fun d d1 d2 => h2 d d1 (by omega)⟩
        by_cases q : k = e
        · rw [q]; exact hs2
        · exact h1 k k1 (by omega)
      · rw [if_neg (by omega), show (r : Int) + 1 = ((r + 1 : Nat) : Int) by omega]
        refine vfe_fst hn u (e + 1) (r + 1) (by omega) (by omega) (by omega) (fun k k1 k2 => ?_) (fun d d1 d2 => h2 d d1 (by omega))
        by_cases q : k = e
        · rw [q]; exact hs2
        · exact h1 k (by omega) (by omega)
theorem m_free {d c : Nat} {N : vNmS} {x y z : Int} {h : vHp} {Q : vQ} (hM : vMn h c N) (x1 : -2147483648 ≤ x) (x2 : x ≤ 2147483647) (y1 : -2147483648 ≤ y) (y2 : y ≤ 2147483647) (z1 : -2147483648 ≤ z) (z2 : z ≤ 2147483647) (k : Q (some (.int (iI (vQ_free N x y z)))) h) : vCall (d + 4) 0 0 153 [.ref c, .int (iI x), .int (iI y), .int (iI z)] h Q := by
  obtain ⟨fs, ho⟩ := vMn_o hM
  unfold vQ_free at k
  have no : ¬ ((0 ≤ x ∧ x < 1024) ∧ (0 ≤ y ∧ y < 720) ∧ 1 ≤ z ∧ z ≤ 99) → ∀ v4 v5 v6 : Value, vW (vCall (d + 3)) 153 Q 26 [.ref c, .int (iI x), .int (iI y), .int (iI z), v4, v5, v6] [] h 0 0 := fun q v4 v5 v6 => by
    rw [if_neg q] at k
    refine r_ci c153_26 ?_
    refine r_iret (st := []) c153_28 ?_
    exact k
  refine vin 7 [_, _, _, _, _, _, _] ml_153 rfl rfl ?_
  refine r_iload c153_0 rfl ?_
  refine r_is1 c153_1 vr_146 rfl (k_mSet x1 x2 (fun e1 e2 => ?_) (fun e => ?_))
  · dsimp only [vpush]
    refine r_ifeq c153_4 (by omega) (by omega) (fun q => by exfalso; omega) (fun c_4 => ?_)
    refine r_iload c153_7 rfl ?_
    refine r_is1 c153_8 vr_104 rfl (k_mDay y1 y2 (fun f1 f2 => ?_) (fun f => ?_))
    · dsimp only [vpush]
      refine r_ifeq c153_11 (by omega) (by omega) (fun q => by exfalso; omega) (fun c_11 => ?_)
      refine r_iload c153_14 rfl (r_i2l c153_15 (by omega) (by omega) (r_cl c153_16 (r_cl c153_17 ?_)))
      refine r_is3 c153_20 vr_102 rfl (k_isIn (by constructor <;> omega) (by constructor <;> omega) (by constructor <;> omega) (fun g1 g2 => ?_) (fun g => ?_))
      · dsimp only [vpush]
        rw [if_pos ⟨⟨e1, e2⟩, ⟨f1, f2⟩, g1, g2⟩] at k
        obtain ⟨m, rfl⟩ := Int.eq_ofNat_of_zero_le e1
        obtain ⟨a, rfl⟩ := Int.eq_ofNat_of_zero_le f1
        obtain ⟨n, rfl⟩ := Int.eq_ofNat_of_zero_le (show 0 ≤ z by omega)
        rw [Int.toNat_natCast, Int.toNat_natCast] at k
        have vf := vfe_fst (S := vjn N m 10) (n := n) (y := a) (by omega) (720 - a) a 0 (by omega) (by omega) (by omega) (fun q q1 q2 => by omega) (fun q q1 q2 => by omega)
        have fin : ∀ r : Int, vfst (vjn N m 10) n a r → Q (some (.int (iI r))) h := fun r hr => by
          have := vfst_uniq hr vf
          rw [this]; exact k
        have loop : ∀ u i : Nat, i + u = 720 → a ≤ i → (∀ e, a ≤ e → e < i → ¬ vnf (vjn N m 10) n e) → ∀ v5 v6 : Value, vW (vCall (d + 3)) 153 Q 32 [.ref c, .int (iI (m : Int)), .int (iI (a : Int)), .int (iI (n : Int)), .int (iI (i : Int)), v5, v6] [] h 0 0 := by
          intro u
          induction u with
          | zero =>
            intro i hi ha hno v5 v6
            refine r_iload c153_32 rfl (r_iload c153_34 rfl (r_iadd c153_35 (r_ci c153_36 ?_)))
            refine r_icgt c153_39 (by omega) (by omega) (by omega) (by omega) (fun c_39 => ?_) (fun q => by exfalso; omega)
            refine r_ci c153_100 ?_
            refine r_iret (st := []) c153_102 ?_
            refine fin (-5) (Or.inl ⟨rfl, fun e he hv => ?_⟩)
            by_cases q : e < i
            · exact hno e he q hv
            · have := hv.1; omega
          | succ u ih =>
            intro i hi ha hno v5 v6
            refine r_iload c153_32 rfl (r_iload c153_34 rfl (r_iadd c153_35 (r_ci c153_36 ?_)))
            refine r_icgt c153_39 (by omega) (by omega) (by omega) (by omega) (fun c_39 => ?_) (fun c_39 => ?_)
            · refine r_ci c153_100 ?_
              refine r_iret (st := []) c153_102 ?_
              refine fin (-5) (Or.inl ⟨rfl, fun e he hv => ?_⟩)
              by_cases q : e < i
              · exact hno e he q hv
              · have := hv.1; omega
            · have from86 : ∀ (b : Bool) (v6 : Value), (b = true ↔ vnf (vjn N m 10) n i) → vW (vCall (d + 3)) 153 Q 86 [.ref c, .int (iI (m : Int)), .int (iI (a : Int)), .int (iI (n : Int)), .int (iI (i : Int)), .int (iI (vBi b)), v6] [] h 0 0 := by
                intro b v6 hb
                refine r_iload c153_86 rfl ?_
                refine vife (by decide +kernel : vlk 153 88 = some (70, 94, 0, 0, 91)) (fun b0 => ?_) (fun b0 => ?_)
                · refine r_iinc c153_94 rfl rfl (r_goto c153_97 ?_)
                  try dsimp only [vst]
                  rw [vsu]
                  refine ih (i + 1) (by omega) (by omega) (fun e he he2 hv => ?_) _ _
                  by_cases q : e = i
                  · rw [q] at hv
                    rw [hb.2 hv] at b0
                    cases b0
                  · exact hno e he (by omega) hv
                · refine r_iload c153_91 rfl ?_
                  refine r_iret (st := []) c153_93 ?_
                  exact fin _ (Or.inr ⟨i, rfl, ha, hb.1 b0, hno⟩)
              have inner : ∀ w j : Nat, j + w = i + n → i ≤ j → (∀ e, i ≤ e → e < j → vjn N m 10 e = false) → vW (vCall (d + 3)) 153 Q 49 [.ref c, .int (iI (m : Int)), .int (iI (a : Int)), .int (iI (n : Int)), .int (iI (i : Int)), .int (iI (vBi true)), .int (iI (j : Int))] [] h 0 0 := by
                intro w
                induction w with
                | zero =>
                  intro j hj hij hz
                  refine r_iload c153_49 rfl (r_iload c153_51 rfl (r_iload c153_53 rfl (r_iadd c153_54 ?_)))
                  refine r_icge c153_55 (by omega) (by omega) (by omega) (by omega) (fun c_55 => ?_) (fun q => by exfalso; omega)
                  exact from86 true _ ⟨fun _ => ⟨by omega, fun e q1 q2 => hz e q1 (by omega)⟩, fun _ => rfl⟩
                | succ w ihw =>
                  intro j hj hij hz
                  have hr := vhv_rg N m j
                  have hjn := vhv_jn N m j 10
                  refine r_iload c153_49 rfl (r_iload c153_51 rfl (r_iload c153_53 rfl (r_iadd c153_54 ?_)))
                  refine r_icge c153_55 (by omega) (by omega) (by omega) (by omega) (fun q => by exfalso; omega) (fun c_55 => ?_)
                  refine r_iload c153_58 rfl ?_
                  refine vife (by decide +kernel : vlk 153 60 = some (70, 86, 0, 0, 63)) (fun b => by cases b) (fun _ => ?_)
                  refine r_aload c153_63 rfl (r_iload c153_64 rfl (r_iload c153_65 rfl ?_))
                  refine r_iv2 c153_67 vr_147 ho rfl (m_having hM (by omega) (by omega) ?_)
                  dsimp only [vpush]
                  refine r_ifne c153_70 (by omega) (by omega) (fun c_70 => ?_) (fun c_70 => ?_)
                  · have hv1 : vjn N m 10 j = true := hjn.1 (by omega)
                    have f86 := from86 false (.int (iI ((j + 1 : Nat) : Int))) ⟨fun q => (by cases q), fun q => by
                      have := q.2 j hij (by omega)
                      rw [hv1] at this
                      cases this⟩
                    refine r_ci c153_77 (r_istore c153_78 rfl (r_iinc c153_80 rfl rfl (r_goto c153_83 (r_iload c153_49 rfl (r_iload c153_51 rfl (r_iload c153_53 rfl (r_iadd c153_54 ?_)))))))
                    try dsimp only [vst]
                    refine r_icge c153_55 (by omega) (by omega) (by omega) (by omega) (fun c_55 => ?_) (fun c_55 => ?_)
                    · rw [vsu]
                      exact f86
                    · refine r_iload c153_58 rfl ?_
                      refine vife (v := false) (by decide +kernel : vlk 153 60 = some (70, 86, 0, 0, 63)) (fun _ => ?_) (fun b => by cases b)
                      rw [vsu]
                      exact f86
                  · have hv0 : vjn N m 10 j = false := by
                      cases hh : vjn N m 10 j
                      · rfl
                      · exact absurd (by omega) (hjn.2 hh)
                    refine r_ci c153_73 (r_goto c153_74 (r_istore c153_78 rfl (r_iinc c153_80 rfl rfl (r_goto c153_83 ?_))))
                    try dsimp only [vst]
                    rw [vsu]
                    refine ihw (j + 1) (by omega) (by omega) (fun e q1 q2 => ?_)
                    by_cases q : e = j
                    · rw [q]; exact hv0
                    · exact hz e q1 (by omega)
              refine r_ci c153_42 (r_istore c153_43 rfl (r_iload c153_45 rfl (r_istore c153_47 rfl ?_)))
              try dsimp only [vst]
              exact inner n i rfl (Nat.le_refl _) (fun e q1 q2 => absurd q1 (by omega))
        refine r_ifne c153_23 (by omega) (by omega) (fun c_23 => ?_) (fun q => by exfalso; omega)
        refine r_iload c153_29 rfl (r_istore c153_30 rfl ?_)
        try dsimp only [vst]
        exact loop (720 - a) a (by omega) (Nat.le_refl _) (fun e q1 q2 => absurd q1 (by omega)) _ _
      · dsimp only [vpush]
        refine r_ifne c153_23 (by omega) (by omega) (fun q => by exfalso; omega) (fun c_23 => ?_)
        exact no (by omega) _ _ _
    · dsimp only [vpush]
      refine r_ifeq c153_11 (by omega) (by omega) (fun c_11 => ?_) (fun q => by exfalso; omega)
      exact no (by omega) _ _ _
  · dsimp only [vpush]
    refine r_ifeq c153_4 (by omega) (by omega) (fun c_4 => ?_) (fun q => by exfalso; omega)
    exact no (by omega) _ _ _

