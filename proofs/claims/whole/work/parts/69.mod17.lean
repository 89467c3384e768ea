theorem ml_142 : vml 142 = 5 := by decide +kernel
theorem ml_143 : vml 143 = 5 := by decide +kernel
theorem ml_144 : vml 144 = 5 := by decide +kernel
theorem ml_145 : vml 145 = 4 := by decide +kernel
theorem ml_155 : vml 155 = 6 := by decide +kernel
theorem ml_156 : vml 156 = 7 := by decide +kernel
theorem vr_154 : vrc 154 = some (6, 1) := by decide +kernel
theorem c142_0 : vlk 142 0 = some (4, 1, 0, 0, 1) := by decide +kernel
theorem c142_1 : vlk 142 1 = some (59, 103, 0, 0, 4) := by decide +kernel
theorem c142_4 : vlk 142 4 = some (71, 9, 0, 0, 7) := by decide +kernel
theorem c142_7 : vlk 142 7 = some (1, 0, 0, (-1), 8) := by decide +kernel
theorem c142_8 : vlk 142 8 = some (63, 0, 0, 0, 9) := by decide +kernel
theorem c142_9 : vlk 142 9 = some (1, 0, 0, 0, 10) := by decide +kernel
theorem c142_10 : vlk 142 10 = some (7, 2, 0, 0, 11) := by decide +kernel
theorem c142_11 : vlk 142 11 = some (1, 0, 0, 0, 12) := by decide +kernel
theorem c142_12 : vlk 142 12 = some (7, 3, 0, 0, 13) := by decide +kernel
theorem c142_13 : vlk 142 13 = some (1, 0, 0, 0, 14) := by decide +kernel
theorem c142_14 : vlk 142 14 = some (7, 4, 0, 0, 16) := by decide +kernel
theorem c142_16 : vlk 142 16 = some (4, 4, 0, 0, 18) := by decide +kernel
theorem c142_18 : vlk 142 18 = some (1, 0, 0, 720, 21) := by decide +kernel
theorem c142_21 : vlk 142 21 = some (79, 54, 0, 0, 24) := by decide +kernel
theorem c142_24 : vlk 142 24 = some (6, 0, 0, 0, 25) := by decide +kernel
theorem c142_25 : vlk 142 25 = some (4, 1, 0, 0, 26) := by decide +kernel
theorem c142_26 : vlk 142 26 = some (4, 4, 0, 0, 28) := by decide +kernel
theorem c142_28 : vlk 142 28 = some (58, 106, 0, 0, 31) := by decide +kernel
theorem c142_34 : vlk 142 34 = some (1, 0, 0, 0, 35) := by decide +kernel
theorem c142_35 : vlk 142 35 = some (37, 41, 0, 0, 38) := by decide +kernel
theorem c142_38 : vlk 142 38 = some (4, 3, 0, 0, 39) := by decide +kernel
theorem c142_39 : vlk 142 39 = some (1, 0, 0, 1, 40) := by decide +kernel
theorem c142_40 : vlk 142 40 = some (11, 0, 0, 0, 41) := by decide +kernel
theorem c142_41 : vlk 142 41 = some (7, 3, 0, 0, 42) := by decide +kernel
theorem c142_42 : vlk 142 42 = some (4, 2, 0, 0, 43) := by decide +kernel
theorem c142_43 : vlk 142 43 = some (4, 3, 0, 0, 44) := by decide +kernel
theorem c142_44 : vlk 142 44 = some (84, 0, 0, 0, 47) := by decide +kernel
theorem c142_47 : vlk 142 47 = some (7, 2, 0, 0, 48) := by decide +kernel
theorem c142_48 : vlk 142 48 = some (10, 4, 0, 1, 51) := by decide +kernel
theorem c142_51 : vlk 142 51 = some (37, 16, 0, 0, 54) := by decide +kernel
theorem c142_54 : vlk 142 54 = some (4, 2, 0, 0, 55) := by decide +kernel
theorem c142_55 : vlk 142 55 = some (63, 0, 0, 0, 56) := by decide +kernel
theorem c143_0 : vlk 143 0 = some (4, 1, 0, 0, 1) := by decide +kernel
theorem c143_1 : vlk 143 1 = some (59, 103, 0, 0, 4) := by decide +kernel
theorem c143_4 : vlk 143 4 = some (71, 9, 0, 0, 7) := by decide +kernel
theorem c143_7 : vlk 143 7 = some (1, 0, 0, (-1), 8) := by decide +kernel
theorem c143_8 : vlk 143 8 = some (63, 0, 0, 0, 9) := by decide +kernel
theorem c143_9 : vlk 143 9 = some (1, 0, 0, 1, 10) := by decide +kernel
theorem c143_10 : vlk 143 10 = some (7, 2, 0, 0, 11) := by decide +kernel
theorem c143_11 : vlk 143 11 = some (4, 2, 0, 0, 12) := by decide +kernel
theorem c143_12 : vlk 143 12 = some (1, 0, 0, 360, 15) := by decide +kernel
theorem c143_15 : vlk 143 15 = some (80, 80, 0, 0, 18) := by decide +kernel
theorem c143_18 : vlk 143 18 = some (1, 0, 0, 1, 19) := by decide +kernel
theorem c143_19 : vlk 143 19 = some (7, 3, 0, 0, 20) := by decide +kernel
theorem c143_20 : vlk 143 20 = some (1, 0, 0, 0, 21) := by decide +kernel
theorem c143_21 : vlk 143 21 = some (7, 4, 0, 0, 23) := by decide +kernel
theorem c143_23 : vlk 143 23 = some (4, 4, 0, 0, 25) := by decide +kernel
theorem c143_25 : vlk 143 25 = some (1, 0, 0, 720, 28) := by decide +kernel
theorem c143_28 : vlk 143 28 = some (4, 2, 0, 0, 29) := by decide +kernel
theorem c143_29 : vlk 143 29 = some (12, 0, 0, 0, 30) := by decide +kernel
theorem c143_30 : vlk 143 30 = some (79, 68, 0, 0, 33) := by decide +kernel
theorem c143_33 : vlk 143 33 = some (4, 3, 0, 0, 34) := by decide +kernel
theorem c143_37 : vlk 143 37 = some (6, 0, 0, 0, 38) := by decide +kernel
theorem c143_38 : vlk 143 38 = some (4, 1, 0, 0, 39) := by decide +kernel
theorem c143_39 : vlk 143 39 = some (4, 4, 0, 0, 41) := by decide +kernel
theorem c143_41 : vlk 143 41 = some (58, 106, 0, 0, 44) := by decide +kernel
theorem c143_44 : vlk 143 44 = some (6, 0, 0, 0, 45) := by decide +kernel
theorem c143_45 : vlk 143 45 = some (4, 1, 0, 0, 46) := by decide +kernel
theorem c143_46 : vlk 143 46 = some (4, 4, 0, 0, 48) := by decide +kernel
theorem c143_48 : vlk 143 48 = some (4, 2, 0, 0, 49) := by decide +kernel
theorem c143_49 : vlk 143 49 = some (11, 0, 0, 0, 50) := by decide +kernel
theorem c143_50 : vlk 143 50 = some (58, 106, 0, 0, 53) := by decide +kernel
theorem c143_56 : vlk 143 56 = some (1, 0, 0, 1, 57) := by decide +kernel
theorem c143_57 : vlk 143 57 = some (37, 61, 0, 0, 60) := by decide +kernel
theorem c143_60 : vlk 143 60 = some (1, 0, 0, 0, 61) := by decide +kernel
theorem c143_61 : vlk 143 61 = some (7, 3, 0, 0, 62) := by decide +kernel
theorem c143_62 : vlk 143 62 = some (10, 4, 0, 1, 65) := by decide +kernel
theorem c143_65 : vlk 143 65 = some (37, 23, 0, 0, 68) := by decide +kernel
theorem c143_68 : vlk 143 68 = some (4, 3, 0, 0, 69) := by decide +kernel
theorem c143_72 : vlk 143 72 = some (4, 2, 0, 0, 73) := by decide +kernel
theorem c143_73 : vlk 143 73 = some (63, 0, 0, 0, 74) := by decide +kernel
theorem c143_74 : vlk 143 74 = some (10, 2, 0, 1, 77) := by decide +kernel
theorem c143_77 : vlk 143 77 = some (37, 11, 0, 0, 80) := by decide +kernel
theorem c143_80 : vlk 143 80 = some (1, 0, 0, (-5), 82) := by decide +kernel
theorem c143_82 : vlk 143 82 = some (63, 0, 0, 0, 83) := by decide +kernel
theorem c144_0 : vlk 144 0 = some (4, 1, 0, 0, 1) := by decide +kernel
theorem c144_1 : vlk 144 1 = some (59, 103, 0, 0, 4) := by decide +kernel
theorem c144_4 : vlk 144 4 = some (70, 14, 0, 0, 7) := by decide +kernel
theorem c144_7 : vlk 144 7 = some (4, 2, 0, 0, 8) := by decide +kernel
theorem c144_8 : vlk 144 8 = some (59, 103, 0, 0, 11) := by decide +kernel
theorem c144_11 : vlk 144 11 = some (71, 16, 0, 0, 14) := by decide +kernel
theorem c144_14 : vlk 144 14 = some (1, 0, 0, (-1), 15) := by decide +kernel
theorem c144_15 : vlk 144 15 = some (63, 0, 0, 0, 16) := by decide +kernel
theorem c144_16 : vlk 144 16 = some (4, 3, 0, 0, 17) := by decide +kernel
theorem c144_17 : vlk 144 17 = some (59, 104, 0, 0, 20) := by decide +kernel
theorem c144_20 : vlk 144 20 = some (71, 26, 0, 0, 23) := by decide +kernel
theorem c144_23 : vlk 144 23 = some (1, 0, 0, (-2), 25) := by decide +kernel
theorem c144_25 : vlk 144 25 = some (63, 0, 0, 0, 26) := by decide +kernel
theorem c144_26 : vlk 144 26 = some (4, 3, 0, 0, 27) := by decide +kernel
theorem c144_27 : vlk 144 27 = some (7, 4, 0, 0, 29) := by decide +kernel
theorem c144_29 : vlk 144 29 = some (4, 4, 0, 0, 31) := by decide +kernel
theorem c144_31 : vlk 144 31 = some (1, 0, 0, 720, 34) := by decide +kernel
theorem c144_34 : vlk 144 34 = some (79, 66, 0, 0, 37) := by decide +kernel
theorem c144_37 : vlk 144 37 = some (6, 0, 0, 0, 38) := by decide +kernel
theorem c144_38 : vlk 144 38 = some (4, 1, 0, 0, 39) := by decide +kernel
theorem c144_39 : vlk 144 39 = some (4, 4, 0, 0, 41) := by decide +kernel
theorem c144_41 : vlk 144 41 = some (58, 106, 0, 0, 44) := by decide +kernel
theorem c144_47 : vlk 144 47 = some (6, 0, 0, 0, 48) := by decide +kernel
theorem c144_48 : vlk 144 48 = some (4, 2, 0, 0, 49) := by decide +kernel
theorem c144_49 : vlk 144 49 = some (4, 4, 0, 0, 51) := by decide +kernel
theorem c144_51 : vlk 144 51 = some (58, 106, 0, 0, 54) := by decide +kernel
theorem c144_57 : vlk 144 57 = some (4, 4, 0, 0, 59) := by decide +kernel
theorem c144_59 : vlk 144 59 = some (63, 0, 0, 0, 60) := by decide +kernel
theorem c144_60 : vlk 144 60 = some (10, 4, 0, 1, 63) := by decide +kernel
theorem c144_63 : vlk 144 63 = some (37, 29, 0, 0, 66) := by decide +kernel
theorem c144_66 : vlk 144 66 = some (1, 0, 0, (-5), 68) := by decide +kernel
theorem c144_68 : vlk 144 68 = some (63, 0, 0, 0, 69) := by decide +kernel
theorem c145_0 : vlk 145 0 = some (4, 1, 0, 0, 1) := by decide +kernel
theorem c145_1 : vlk 145 1 = some (59, 103, 0, 0, 4) := by decide +kernel
theorem c145_4 : vlk 145 4 = some (70, 14, 0, 0, 7) := by decide +kernel
theorem c145_7 : vlk 145 7 = some (4, 2, 0, 0, 8) := by decide +kernel
theorem c145_8 : vlk 145 8 = some (59, 103, 0, 0, 11) := by decide +kernel
theorem c145_11 : vlk 145 11 = some (71, 16, 0, 0, 14) := by decide +kernel
theorem c145_14 : vlk 145 14 = some (1, 0, 0, (-1), 15) := by decide +kernel
theorem c145_15 : vlk 145 15 = some (63, 0, 0, 0, 16) := by decide +kernel
theorem c145_16 : vlk 145 16 = some (1, 0, 0, 0, 17) := by decide +kernel
theorem c145_17 : vlk 145 17 = some (7, 3, 0, 0, 18) := by decide +kernel
theorem c145_18 : vlk 145 18 = some (4, 3, 0, 0, 19) := by decide +kernel
theorem c145_19 : vlk 145 19 = some (1, 0, 0, 720, 22) := by decide +kernel
theorem c145_22 : vlk 145 22 = some (79, 48, 0, 0, 25) := by decide +kernel
theorem c145_25 : vlk 145 25 = some (6, 0, 0, 0, 26) := by decide +kernel
theorem c145_26 : vlk 145 26 = some (4, 1, 0, 0, 27) := by decide +kernel
theorem c145_27 : vlk 145 27 = some (4, 3, 0, 0, 28) := by decide +kernel
theorem c145_28 : vlk 145 28 = some (58, 106, 0, 0, 31) := by decide +kernel
theorem c145_31 : vlk 145 31 = some (6, 0, 0, 0, 32) := by decide +kernel
theorem c145_32 : vlk 145 32 = some (4, 2, 0, 0, 33) := by decide +kernel
theorem c145_33 : vlk 145 33 = some (4, 3, 0, 0, 34) := by decide +kernel
theorem c145_34 : vlk 145 34 = some (58, 106, 0, 0, 37) := by decide +kernel
theorem c145_40 : vlk 145 40 = some (4, 3, 0, 0, 41) := by decide +kernel
theorem c145_41 : vlk 145 41 = some (63, 0, 0, 0, 42) := by decide +kernel
theorem c145_42 : vlk 145 42 = some (10, 3, 0, 1, 45) := by decide +kernel
theorem c145_45 : vlk 145 45 = some (37, 18, 0, 0, 48) := by decide +kernel
theorem c145_48 : vlk 145 48 = some (1, 0, 0, (-5), 50) := by decide +kernel
theorem c145_50 : vlk 145 50 = some (63, 0, 0, 0, 51) := by decide +kernel
theorem c155_0 : vlk 155 0 = some (4, 1, 0, 0, 1) := by decide +kernel
theorem c155_1 : vlk 155 1 = some (59, 103, 0, 0, 4) := by decide +kernel
theorem c155_4 : vlk 155 4 = some (70, 31, 0, 0, 7) := by decide +kernel
theorem c155_7 : vlk 155 7 = some (4, 2, 0, 0, 8) := by decide +kernel
theorem c155_8 : vlk 155 8 = some (59, 154, 0, 0, 11) := by decide +kernel
theorem c155_11 : vlk 155 11 = some (70, 31, 0, 0, 14) := by decide +kernel
theorem c155_14 : vlk 155 14 = some (4, 3, 0, 0, 15) := by decide +kernel
theorem c155_15 : vlk 155 15 = some (32, 0, 0, 0, 16) := by decide +kernel
theorem c155_16 : vlk 155 16 = some (2, 0, 0, 0, 17) := by decide +kernel
theorem c155_17 : vlk 155 17 = some (4, 2, 0, 0, 18) := by decide +kernel
theorem c155_18 : vlk 155 18 = some (1, 0, 0, 719, 21) := by decide +kernel
theorem c155_21 : vlk 155 21 = some (59, 121, 0, 0, 24) := by decide +kernel
theorem c155_24 : vlk 155 24 = some (32, 0, 0, 0, 25) := by decide +kernel
theorem c155_25 : vlk 155 25 = some (59, 102, 0, 0, 28) := by decide +kernel
theorem c155_28 : vlk 155 28 = some (71, 33, 0, 0, 31) := by decide +kernel
theorem c155_31 : vlk 155 31 = some (1, 0, 0, (-1), 32) := by decide +kernel
theorem c155_32 : vlk 155 32 = some (63, 0, 0, 0, 33) := by decide +kernel
theorem c155_33 : vlk 155 33 = some (1, 0, 0, 0, 34) := by decide +kernel
theorem c155_34 : vlk 155 34 = some (7, 4, 0, 0, 36) := by decide +kernel
theorem c155_36 : vlk 155 36 = some (1, 0, 0, 0, 37) := by decide +kernel
theorem c155_37 : vlk 155 37 = some (7, 5, 0, 0, 39) := by decide +kernel
theorem c155_39 : vlk 155 39 = some (4, 5, 0, 0, 41) := by decide +kernel
theorem c155_41 : vlk 155 41 = some (1, 0, 0, 720, 44) := by decide +kernel
theorem c155_44 : vlk 155 44 = some (79, 83, 0, 0, 47) := by decide +kernel
theorem c155_47 : vlk 155 47 = some (4, 4, 0, 0, 49) := by decide +kernel
theorem c155_49 : vlk 155 49 = some (6, 0, 0, 0, 50) := by decide +kernel
theorem c155_50 : vlk 155 50 = some (4, 1, 0, 0, 51) := by decide +kernel
theorem c155_51 : vlk 155 51 = some (4, 5, 0, 0, 53) := by decide +kernel
theorem c155_53 : vlk 155 53 = some (58, 106, 0, 0, 56) := by decide +kernel
theorem c155_59 : vlk 155 59 = some (4, 2, 0, 0, 60) := by decide +kernel
theorem c155_60 : vlk 155 60 = some (4, 5, 0, 0, 62) := by decide +kernel
theorem c155_62 : vlk 155 62 = some (59, 121, 0, 0, 65) := by decide +kernel
theorem c155_65 : vlk 155 65 = some (4, 3, 0, 0, 66) := by decide +kernel
theorem c155_66 : vlk 155 66 = some (77, 73, 0, 0, 69) := by decide +kernel
theorem c155_69 : vlk 155 69 = some (1, 0, 0, 1, 70) := by decide +kernel
theorem c155_70 : vlk 155 70 = some (37, 74, 0, 0, 73) := by decide +kernel
theorem c155_73 : vlk 155 73 = some (1, 0, 0, 0, 74) := by decide +kernel
theorem c155_74 : vlk 155 74 = some (11, 0, 0, 0, 75) := by decide +kernel
theorem c155_75 : vlk 155 75 = some (7, 4, 0, 0, 77) := by decide +kernel
theorem c155_77 : vlk 155 77 = some (10, 5, 0, 1, 80) := by decide +kernel
theorem c155_80 : vlk 155 80 = some (37, 39, 0, 0, 83) := by decide +kernel
theorem c155_83 : vlk 155 83 = some (4, 4, 0, 0, 85) := by decide +kernel
theorem c155_85 : vlk 155 85 = some (63, 0, 0, 0, 86) := by decide +kernel
theorem c156_0 : vlk 156 0 = some (4, 1, 0, 0, 1) := by decide +kernel
theorem c156_1 : vlk 156 1 = some (59, 103, 0, 0, 4) := by decide +kernel
theorem c156_4 : vlk 156 4 = some (70, 14, 0, 0, 7) := by decide +kernel
theorem c156_7 : vlk 156 7 = some (4, 2, 0, 0, 8) := by decide +kernel
theorem c156_8 : vlk 156 8 = some (59, 154, 0, 0, 11) := by decide +kernel
theorem c156_11 : vlk 156 11 = some (71, 16, 0, 0, 14) := by decide +kernel
theorem c156_14 : vlk 156 14 = some (1, 0, 0, (-1), 15) := by decide +kernel
theorem c156_15 : vlk 156 15 = some (63, 0, 0, 0, 16) := by decide +kernel
theorem c156_16 : vlk 156 16 = some (4, 4, 0, 0, 18) := by decide +kernel
theorem c156_18 : vlk 156 18 = some (59, 104, 0, 0, 21) := by decide +kernel
theorem c156_21 : vlk 156 21 = some (71, 27, 0, 0, 24) := by decide +kernel
theorem c156_24 : vlk 156 24 = some (1, 0, 0, (-2), 26) := by decide +kernel
theorem c156_26 : vlk 156 26 = some (63, 0, 0, 0, 27) := by decide +kernel
theorem c156_27 : vlk 156 27 = some (4, 2, 0, 0, 28) := by decide +kernel
theorem c156_28 : vlk 156 28 = some (71, 36, 0, 0, 31) := by decide +kernel
theorem c156_31 : vlk 156 31 = some (1, 0, 0, 7, 33) := by decide +kernel
theorem c156_33 : vlk 156 33 = some (37, 49, 0, 0, 36) := by decide +kernel
theorem c156_36 : vlk 156 36 = some (4, 2, 0, 0, 37) := by decide +kernel
theorem c156_37 : vlk 156 37 = some (1, 0, 0, 1, 38) := by decide +kernel
theorem c156_38 : vlk 156 38 = some (77, 46, 0, 0, 41) := by decide +kernel
theorem c156_41 : vlk 156 41 = some (1, 0, 0, 30, 43) := by decide +kernel
theorem c156_43 : vlk 156 43 = some (37, 49, 0, 0, 46) := by decide +kernel
theorem c156_46 : vlk 156 46 = some (1, 0, 0, 360, 49) := by decide +kernel
theorem c156_49 : vlk 156 49 = some (7, 5, 0, 0, 51) := by decide +kernel
theorem c156_51 : vlk 156 51 = some (4, 2, 0, 0, 52) := by decide +kernel
theorem c156_52 : vlk 156 52 = some (4, 4, 0, 0, 54) := by decide +kernel
theorem c156_54 : vlk 156 54 = some (59, 121, 0, 0, 57) := by decide +kernel
theorem c156_57 : vlk 156 57 = some (4, 5, 0, 0, 59) := by decide +kernel
theorem c156_59 : vlk 156 59 = some (13, 0, 0, 0, 60) := by decide +kernel
theorem c156_60 : vlk 156 60 = some (7, 6, 0, 0, 62) := by decide +kernel
theorem c156_62 : vlk 156 62 = some (6, 0, 0, 0, 63) := by decide +kernel
theorem c156_63 : vlk 156 63 = some (4, 1, 0, 0, 64) := by decide +kernel
theorem c156_64 : vlk 156 64 = some (4, 6, 0, 0, 66) := by decide +kernel
theorem c156_66 : vlk 156 66 = some (1, 0, 0, 719, 69) := by decide +kernel
theorem c156_69 : vlk 156 69 = some (4, 6, 0, 0, 71) := by decide +kernel
theorem c156_71 : vlk 156 71 = some (4, 5, 0, 0, 73) := by decide +kernel
theorem c156_73 : vlk 156 73 = some (11, 0, 0, 0, 74) := by decide +kernel
theorem c156_74 : vlk 156 74 = some (1, 0, 0, 1, 75) := by decide +kernel
theorem c156_75 : vlk 156 75 = some (12, 0, 0, 0, 76) := by decide +kernel
theorem c156_76 : vlk 156 76 = some (85, 0, 0, 0, 79) := by decide +kernel
theorem c156_79 : vlk 156 79 = some (4, 3, 0, 0, 80) := by decide +kernel
theorem c156_80 : vlk 156 80 = some (58, 137, 0, 0, 83) := by decide +kernel
theorem c156_83 : vlk 156 83 = some (63, 0, 0, 0, 84) := by decide +kernel
/-! the reference: gaps, periods, clashes, parts -/
theorem m_gap {d c : Nat} {N : vNmS} {x : Int} {h : vHp} {Q : vQ} (hM : vMn h c N) (x1 : -2147483648 ≤ x) (x2 : x ≤ 2147483647) (k : Q (some (.int (iI (vQ_gap N x)))) h) : vCall (d + 3) 0 0 142 [.ref c, .int (iI x)] h Q := by
  obtain ⟨fs, ho⟩ := vMn_o hM
  unfold vQ_gap at k
  refine vin 5 [_, _, _, _, _] ml_142 rfl rfl ?_
  refine r_iload c142_0 rfl ?_
  refine r_is1 c142_1 vr_103 rfl (k_mName x1 x2 (fun e1 e2 => ?_) (fun e => ?_))
  · dsimp only [vpush]
    rw [if_pos ⟨e1, e2⟩] at k
    obtain ⟨n, rfl⟩ := Int.eq_ofNat_of_zero_le e1
    rw [Int.toNat_natCast] at k
    have loop : ∀ u i : Nat, i + u = 720 → ∀ l r : Int, 0 ≤ l → l ≤ i → 0 ≤ r → r ≤ i → vgp (vDd N n) u i l r = vgp (vDd N n) 720 0 0 0 → vW (vCall (d + 2)) 142 Q 16 [.ref c, .int (iI (n : Int)), .int (iI l), .int (iI r), .int (iI (i : Int))] [] h 0 0 := by
      intro u
      induction u with
      | zero =>
        intro i hi l r l1 l2 r1 r2 he
        rw [← he] at k
        refine r_iload c142_16 rfl (r_ci c142_18 ?_)
        refine r_icge c142_21 (by omega) (by omega) (by omega) (by omega) (fun c_21 => ?_) (fun q => by exfalso; omega)
        refine r_iload c142_54 rfl ?_
        refine r_iret (st := []) c142_55 ?_
        exact k
      | succ u ih =>
        intro i hi l r l1 l2 r1 r2 he
        rw [show vgp (vDd N n) (u + 1) i l r = (if vDd N n i = true then vgp (vDd N n) u (i + 1) (if l < 0 then 0 else l) 0 else vgp (vDd N n) u (i + 1) (if l < r + 1 then r + 1 else l) (r + 1)) from rfl] at he
        refine r_iload c142_16 rfl (r_ci c142_18 ?_)
        refine r_icge c142_21 (by omega) (by omega) (by omega) (by omega) (fun q => by exfalso; omega) (fun c_21 => ?_)
        refine r_aload c142_24 rfl (r_iload c142_25 rfl (r_iload c142_26 rfl ?_))
        refine r_iv2 c142_28 vr_106 ho rfl (k_mOf hM (by omega) (by omega) ?_)
        dsimp only [vpush]
        refine vife (by decide +kernel : vlk 142 31 = some (70, 38, 0, 0, 34)) (fun b => ?_) (fun b => ?_)
        · rw [if_neg (by rw [b]; decide)] at he
          refine r_iload c142_38 rfl (r_ci c142_39 (r_iadd c142_40 (r_istore c142_41 rfl (r_iload c142_42 rfl (r_iload c142_43 rfl (r_mmax c142_44 (by omega) (by omega) (by omega) (by omega) (Nat.le_of_ble_eq_true rfl) (r_istore c142_47 rfl (r_iinc c142_48 rfl rfl (r_goto c142_51 ?_)))))))))
          try dsimp only [vst]
          rw [vsu]
          exact ih (i + 1) (by omega) _ _ (by split <;> omega) (by split <;> omega) (by omega) (by omega) he
        · rw [if_pos b] at he
          refine r_ci c142_34 (r_goto c142_35 (r_istore c142_41 rfl (r_iload c142_42 rfl (r_iload c142_43 rfl (r_mmax c142_44 (by omega) (by omega) (by omega) (by omega) (Nat.le_of_ble_eq_true rfl) (r_istore c142_47 rfl (r_iinc c142_48 rfl rfl (r_goto c142_51 ?_))))))))
          try dsimp only [vst]
          rw [vsu]
          exact ih (i + 1) (by omega) _ _ (by split <;> omega) (by split <;> omega) (by omega) (by omega) he
    refine r_ifne c142_4 (by omega) (by omega) (fun c_4 => ?_) (fun q => by exfalso; omega)
    refine r_ci c142_9 (r_istore c142_10 rfl (r_ci c142_11 (r_istore c142_12 rfl (r_ci c142_13 (r_istore c142_14 rfl ?_)))))
    try dsimp only [vst]
    exact loop 720 0 rfl 0 0 (by omega) (by omega) (by omega) (by omega) rfl
  · dsimp only [vpush]
    rw [if_neg e] at k
    refine r_ifne c142_4 (by omega) (by omega) (fun q => by exfalso; omega) (fun c_4 => ?_)
    refine r_ci c142_7 ?_
    refine r_iret (st := []) c142_8 ?_
    exact k
theorem m_period {d c : Nat} {N : vNmS} {x : Int} {h : vHp} {Q : vQ} (hM : vMn h c N) (x1 : -2147483648 ≤ x) (x2 : x ≤ 2147483647) (k : Q (some (.int (iI (vQ_period N x)))) h) : vCall (d + 3) 0 0 143 [.ref c, .int (iI x)] h Q := by
  obtain ⟨fs, ho⟩ := vMn_o hM
  unfold vQ_period at k
  refine vin 5 [_, _, _, _, _] ml_143 rfl rfl ?_
  refine r_iload c143_0 rfl ?_
  refine r_is1 c143_1 vr_103 rfl (k_mName x1 x2 (fun e1 e2 => ?_) (fun e => ?_))
  · dsimp only [vpush]
    rw [if_pos ⟨e1, e2⟩] at k
    obtain ⟨n, rfl⟩ := Int.eq_ofNat_of_zero_le e1
    rw [Int.toNat_natCast] at k
    have loop : ∀ u p : Nat, p + u = 361 → 1 ≤ p → vpe (vDd N n) u p = vpe (vDd N n) 360 1 → ∀ x3 x4 : Value, vW (vCall (d + 2)) 143 Q 11 [.ref c, .int (iI (n : Int)), .int (iI (p : Int)), x3, x4] [] h 0 0 := by
      intro u
      induction u with
      | zero =>
        intro p hp hp1 he x3 x4
        rw [← he] at k
        refine r_iload c143_11 rfl (r_ci c143_12 ?_)
        refine r_icgt c143_15 (by omega) (by omega) (by omega) (by omega) (fun c_15 => ?_) (fun q => by exfalso; omega)
        refine r_ci c143_80 ?_
        refine r_iret (st := []) c143_82 ?_
        exact k
      | succ u ih =>
        intro p hp hp1 he x3 x4
        rw [show vpe (vDd N n) (u + 1) p = (if vcab (vDd N n) p 720 = true then (p : Int) else vpe (vDd N n) u (p + 1)) from rfl] at he
        have from68 : ∀ (b : Bool) (x4 : Value), (b = true ↔ vca (vDd N n) p 720) → vW (vCall (d + 2)) 143 Q 68 [.ref c, .int (iI (n : Int)), .int (iI (p : Int)), .int (iI (vBi b)), x4] [] h 0 0 := by
          intro b x4 hb
          refine r_iload c143_68 rfl ?_
          refine vife (by decide +kernel : vlk 143 69 = some (70, 74, 0, 0, 72)) (fun b0 => ?_) (fun b0 => ?_)
          · rw [if_neg (fun q => by rw [hb.2 ((vcab_iff 720).1 q)] at b0; cases b0)] at he
            refine r_iinc c143_74 rfl rfl (r_goto c143_77 ?_)
            try dsimp only [vst]
            rw [vsu]
            exact ih (p + 1) (by omega) (by omega) he _ _
          · rw [if_pos ((vcab_iff 720).2 (hb.1 b0))] at he
            rw [← he] at k
            refine r_iload c143_72 rfl ?_
            refine r_iret (st := []) c143_73 ?_
            exact k
        have inner : ∀ v i : Nat, i + v = 720 - p → vca (vDd N n) p i → vW (vCall (d + 2)) 143 Q 23 [.ref c, .int (iI (n : Int)), .int (iI (p : Int)), .int (iI (vBi true)), .int (iI (i : Int))] [] h 0 0 := by
          intro v
          induction v with
          | zero =>
            intro i hi hv
            refine r_iload c143_23 rfl (r_ci c143_25 (r_iload c143_28 rfl (r_isub c143_29 ?_)))
            refine r_icge c143_30 (by omega) (by omega) (by omega) (by omega) (fun c_30 => ?_) (fun q => by exfalso; omega)
            exact from68 true _ ⟨fun _ => fun m hm hm2 => hv m (by omega) hm2, fun _ => rfl⟩
          | succ v ihv =>
            intro i hi hv
            refine r_iload c143_23 rfl (r_ci c143_25 (r_iload c143_28 rfl (r_isub c143_29 ?_)))
            refine r_icge c143_30 (by omega) (by omega) (by omega) (by omega) (fun q => by exfalso; omega) (fun c_30 => ?_)
            refine r_iload c143_33 rfl ?_
            refine vife (by decide +kernel : vlk 143 34 = some (70, 68, 0, 0, 37)) (fun b => by cases b) (fun _ => ?_)
            refine r_aload c143_37 rfl (r_iload c143_38 rfl (r_iload c143_39 rfl ?_))
            refine r_iv2 c143_41 vr_106 ho rfl (k_mOf hM (by omega) (by omega) ?_)
            dsimp only [vpush]
            refine r_aload c143_44 rfl (r_iload c143_45 rfl (r_iload c143_46 rfl (r_iload c143_48 rfl (r_iadd c143_49 ?_))))
            rw [show (i : Int) + (p : Int) = ((i + p : Nat) : Int) by omega]
            refine r_iv2 c143_50 vr_106 ho rfl (k_mOf hM (by omega) (by omega) ?_)
            dsimp only [vpush]
            refine vicne (by decide +kernel : vlk 143 53 = some (77, 60, 0, 0, 56)) (fun ne => ?_) (fun eq => ?_)
            · have no : ¬ vca (vDd N n) p 720 := fun q => ne (q i (by omega) (by omega))
              have f68 := from68 false (.int (iI ((i + 1 : Nat) : Int))) ⟨fun q => (by cases q), fun q => absurd q no⟩
              refine r_ci c143_60 (r_istore c143_61 rfl (r_iinc c143_62 rfl rfl (r_goto c143_65 (r_iload c143_23 rfl (r_ci c143_25 (r_iload c143_28 rfl (r_isub c143_29 ?_)))))))
              try dsimp only [vst]
              refine r_icge c143_30 (by omega) (by omega) (by omega) (by omega) (fun c_30 => ?_) (fun c_30 => ?_)
              · rw [vsu]
                exact f68
              · refine r_iload c143_33 rfl ?_
                refine vife (v := false) (by decide +kernel : vlk 143 34 = some (70, 68, 0, 0, 37)) (fun _ => ?_) (fun b => by cases b)
                rw [vsu]
                exact f68
            · refine r_ci c143_56 (r_goto c143_57 (r_istore c143_61 rfl (r_iinc c143_62 rfl rfl (r_goto c143_65 ?_))))
              try dsimp only [vst]
              rw [vsu]
              refine ihv (i + 1) (by omega) (fun m hm hm2 => ?_)
              by_cases e : m = i
              · rw [e]; exact eq
              · exact hv m (by omega) hm2
        refine r_iload c143_11 rfl (r_ci c143_12 ?_)
        refine r_icgt c143_15 (by omega) (by omega) (by omega) (by omega) (fun q => by exfalso; omega) (fun c_15 => ?_)
        refine r_ci c143_18 (r_istore c143_19 rfl (r_ci c143_20 (r_istore c143_21 rfl ?_)))
        try dsimp only [vst]
        exact inner (720 - p) 0 (by omega) (fun m hm => absurd hm (by omega))
    refine r_ifne c143_4 (by omega) (by omega) (fun c_4 => ?_) (fun q => by exfalso; omega)
    refine r_ci c143_9 (r_istore c143_10 rfl ?_)
    try dsimp only [vst]
    exact loop 360 1 (by omega) (by omega) rfl _ _
  · dsimp only [vpush]
    rw [if_neg e] at k
    refine r_ifne c143_4 (by omega) (by omega) (fun q => by exfalso; omega) (fun c_4 => ?_)
    refine r_ci c143_7 ?_
    refine r_iret (st := []) c143_8 ?_
    exact k
theorem m_clash {d c : Nat} {N : vNmS} {x y z : Int} {h : vHp} {Q : vQ} (hM : vMn h c N) (x1 : -2147483648 ≤ x) (x2 : x ≤ 2147483647) (y1 : -2147483648 ≤ y) (y2 : y ≤ 2147483647) (z1 : -2147483648 ≤ z) (z2 : z ≤ 2147483647) (k : Q (some (.int (iI (vQ_clash N x y z)))) h) : vCall (d + 3) 0 0 144 [.ref c, .int (iI x), .int (iI y), .int (iI z)] h Q := by
  obtain ⟨fs, ho⟩ := vMn_o hM
  unfold vQ_clash at k
  have no : ¬ ((0 ≤ x ∧ x < 10) ∧ 0 ≤ y ∧ y < 10) → ∀ v4 : Value, vW (vCall (d + 2)) 144 Q 14 [.ref c, .int (iI x), .int (iI y), .int (iI z), v4] [] h 0 0 := fun q v4 => by
    rw [if_neg q] at k
    refine r_ci c144_14 ?_
    refine r_iret (st := []) c144_15 ?_
    exact k
  refine vin 5 [_, _, _, _, _] ml_144 rfl rfl ?_
  refine r_iload c144_0 rfl ?_
  refine r_is1 c144_1 vr_103 rfl (k_mName x1 x2 (fun e1 e2 => ?_) (fun e => ?_))
  · dsimp only [vpush]
    refine r_ifeq c144_4 (by omega) (by omega) (fun q => by exfalso; omega) (fun c_4 => ?_)
    refine r_iload c144_7 rfl ?_
    refine r_is1 c144_8 vr_103 rfl (k_mName y1 y2 (fun f1 f2 => ?_) (fun f => ?_))
    · dsimp only [vpush]
      rw [if_pos ⟨⟨e1, e2⟩, f1, f2⟩] at k
      refine r_ifne c144_11 (by omega) (by omega) (fun c_11 => ?_) (fun q => by exfalso; omega)
      refine r_iload c144_16 rfl ?_
      refine r_is1 c144_17 vr_104 rfl (k_mDay z1 z2 (fun g1 g2 => ?_) (fun g => ?_))
      · dsimp only [vpush]
        rw [if_pos ⟨g1, g2⟩] at k
        obtain ⟨n, rfl⟩ := Int.eq_ofNat_of_zero_le e1
        obtain ⟨m, rfl⟩ := Int.eq_ofNat_of_zero_le f1
        obtain ⟨a, rfl⟩ := Int.eq_ofNat_of_zero_le g1
        rw [Int.toNat_natCast, Int.toNat_natCast, Int.toNat_natCast] at k
        have loop : ∀ u i : Nat, i + u = 720 → vfw (fun e => vDd N n e && vDd N m e) u i 0 = vfw (fun e => vDd N n e && vDd N m e) (720 - a) a 0 → vW (vCall (d + 2)) 144 Q 29 [.ref c, .int (iI (n : Int)), .int (iI (m : Int)), .int (iI (a : Int)), .int (iI (i : Int))] [] h 0 0 := by
          intro u
          induction u with
          | zero =>
            intro i hi he
            rw [← he] at k
            refine r_iload c144_29 rfl (r_ci c144_31 ?_)
            refine r_icge c144_34 (by omega) (by omega) (by omega) (by omega) (fun c_34 => ?_) (fun q => by exfalso; omega)
            refine r_ci c144_66 ?_
            refine r_iret (st := []) c144_68 ?_
            exact k
          | succ u ih =>
            intro i hi he
            rw [show vfw (fun e => vDd N n e && vDd N m e) (u + 1) i 0 = (if (vDd N n i && vDd N m i) = true then (i : Int) else vfw (fun e => vDd N n e && vDd N m e) u (i + 1) 0) from rfl] at he
            have on : (vDd N n i && vDd N m i) = false → vW (vCall (d + 2)) 144 Q 60 [.ref c, .int (iI (n : Int)), .int (iI (m : Int)), .int (iI (a : Int)), .int (iI (i : Int))] [] h 0 0 := fun q => by
              rw [if_neg (by rw [q]; decide)] at he
              refine r_iinc c144_60 rfl rfl (r_goto c144_63 ?_)
              try dsimp only [vst]
              rw [vsu]
              exact ih (i + 1) (by omega) he
            refine r_iload c144_29 rfl (r_ci c144_31 ?_)
            refine r_icge c144_34 (by omega) (by omega) (by omega) (by omega) (fun q => by exfalso; omega) (fun c_34 => ?_)
            refine r_aload c144_37 rfl (r_iload c144_38 rfl (r_iload c144_39 rfl ?_))
            refine r_iv2 c144_41 vr_106 ho rfl (k_mOf hM (by omega) (by omega) ?_)
            dsimp only [vpush]
            refine vife (by decide +kernel : vlk 144 44 = some (70, 60, 0, 0, 47)) (fun b => ?_) (fun b => ?_)
            · exact on (by rw [b, Bool.false_and])
            · refine r_aload c144_47 rfl (r_iload c144_48 rfl (r_iload c144_49 rfl ?_))
              refine r_iv2 c144_51 vr_106 ho rfl (k_mOf hM (by omega) (by omega) ?_)
              dsimp only [vpush]
              refine vife (by decide +kernel : vlk 144 54 = some (70, 60, 0, 0, 57)) (fun b2 => ?_) (fun b2 => ?_)
              · exact on (by rw [b2, Bool.and_false])
              · rw [if_pos (by rw [b, b2]; rfl)] at he
                rw [← he] at k
                refine r_iload c144_57 rfl ?_
                refine r_iret (st := []) c144_59 ?_
                exact k
        refine r_ifne c144_20 (by omega) (by omega) (fun c_20 => ?_) (fun q => by exfalso; omega)
        refine r_iload c144_26 rfl (r_istore c144_27 rfl ?_)
        try dsimp only [vst]
        exact loop (720 - a) a (by omega) rfl
      · dsimp only [vpush]
        rw [if_neg g] at k
        refine r_ifne c144_20 (by omega) (by omega) (fun q => by exfalso; omega) (fun c_20 => ?_)
        refine r_ci c144_23 ?_
        refine r_iret (st := []) c144_25 ?_
        exact k
    · dsimp only [vpush]
      refine r_ifne c144_11 (by omega) (by omega) (fun q => by exfalso; omega) (fun c_11 => ?_)
      exact no (fun q => f q.2) _
  · dsimp only [vpush]
    refine r_ifeq c144_4 (by omega) (by omega) (fun c_4 => ?_) (fun q => by exfalso; omega)
    exact no (fun q => e q.1) _
theorem m_unlike {d c : Nat} {N : vNmS} {x y : Int} {h : vHp} {Q : vQ} (hM : vMn h c N) (x1 : -2147483648 ≤ x) (x2 : x ≤ 2147483647) (y1 : -2147483648 ≤ y) (y2 : y ≤ 2147483647) (k : Q (some (.int (iI (vQ_unlike N x y)))) h) : vCall (d + 3) 0 0 145 [.ref c, .int (iI x), .int (iI y)] h Q := by
  obtain ⟨fs, ho⟩ := vMn_o hM
  unfold vQ_unlike at k
  have no : ¬ ((0 ≤ x ∧ x < 10) ∧ 0 ≤ y ∧ y < 10) → ∀ v4 : Value, vW (vCall (d + 2)) 145 Q 14 [.ref c, .int (iI x), .int (iI y), v4] [] h 0 0 := fun q v4 => by
    rw [if_neg q] at k
    refine r_ci c145_14 ?_
    refine r_iret (st := []) c145_15 ?_
    exact k
  refine vin 4 [_, _, _, _] ml_145 rfl rfl ?_
  refine r_iload c145_0 rfl ?_
  refine r_is1 c145_1 vr_103 rfl (k_mName x1 x2 (fun e1 e2 => ?_) (fun e => ?_))
  · dsimp only [vpush]
    refine r_ifeq c145_4 (by omega) (by omega) (fun q => by exfalso; omega) (fun c_4 => ?_)
    refine r_iload c145_7 rfl ?_
    refine r_is1 c145_8 vr_103 rfl (k_mName y1 y2 (fun f1 f2 => ?_) (fun f => ?_))
    · dsimp only [vpush]
      rw [if_pos ⟨⟨e1, e2⟩, f1, f2⟩] at k
      obtain ⟨n, rfl⟩ := Int.eq_ofNat_of_zero_le e1
      obtain ⟨m, rfl⟩ := Int.eq_ofNat_of_zero_le f1
      rw [Int.toNat_natCast, Int.toNat_natCast] at k
      have loop : ∀ u i : Nat, i + u = 720 → vfw (fun e => vDd N n e ^^ vDd N m e) u i 0 = vfw (fun e => vDd N n e ^^ vDd N m e) 720 0 0 → vW (vCall (d + 2)) 145 Q 18 [.ref c, .int (iI (n : Int)), .int (iI (m : Int)), .int (iI (i : Int))] [] h 0 0 := by
        intro u
        induction u with
        | zero =>
          intro i hi he
          rw [← he] at k
          refine r_iload c145_18 rfl (r_ci c145_19 ?_)
          refine r_icge c145_22 (by omega) (by omega) (by omega) (by omega) (fun c_22 => ?_) (fun q => by exfalso; omega)
          refine r_ci c145_48 ?_
          refine r_iret (st := []) c145_50 ?_
          exact k
        | succ u ih =>
          intro i hi he
          rw [show vfw (fun e => vDd N n e ^^ vDd N m e) (u + 1) i 0 = (if (vDd N n i ^^ vDd N m i) = true then (i : Int) else vfw (fun e => vDd N n e ^^ vDd N m e) u (i + 1) 0) from rfl] at he
          refine r_iload c145_18 rfl (r_ci c145_19 ?_)
          refine r_icge c145_22 (by omega) (by omega) (by omega) (by omega) (fun q => by exfalso; omega) (fun c_22 => ?_)
          refine r_aload c145_25 rfl (r_iload c145_26 rfl (r_iload c145_27 rfl ?_))
          refine r_iv2 c145_28 vr_106 ho rfl (k_mOf hM (by omega) (by omega) ?_)
          dsimp only [vpush]
          refine r_aload c145_31 rfl (r_iload c145_32 rfl (r_iload c145_33 rfl ?_))
          refine r_iv2 c145_34 vr_106 ho rfl (k_mOf hM (by omega) (by omega) ?_)
          dsimp only [vpush]
          refine viceq (by decide +kernel : vlk 145 37 = some (76, 42, 0, 0, 40)) (fun eq => ?_) (fun ne => ?_)
          · rw [if_neg (by rw [eq]; cases vDd N m i <;> decide)] at he
            refine r_iinc c145_42 rfl rfl (r_goto c145_45 ?_)
            try dsimp only [vst]
            rw [vsu]
            exact ih (i + 1) (by omega) he
          · rw [if_pos (by revert ne; cases vDd N n i <;> cases vDd N m i <;> decide)] at he
            rw [← he] at k
            refine r_iload c145_40 rfl ?_
            refine r_iret (st := []) c145_41 ?_
            exact k
      refine r_ifne c145_11 (by omega) (by omega) (fun c_11 => ?_) (fun q => by exfalso; omega)
      refine r_ci c145_16 (r_istore c145_17 rfl ?_)
      try dsimp only [vst]
      exact loop 720 0 rfl rfl
    · dsimp only [vpush]
      refine r_ifne c145_11 (by omega) (by omega) (fun q => by exfalso; omega) (fun c_11 => ?_)
      exact no (fun q => f q.2) _
  · dsimp only [vpush]
    refine r_ifeq c145_4 (by omega) (by omega) (fun c_4 => ?_) (fun q => by exfalso; omega)
    exact no (fun q => e q.1) _
theorem m_parts {d c : Nat} {N : vNmS} {x y z : Int} {h : vHp} {Q : vQ} (hM : vMn h c N) (x1 : -2147483648 ≤ x) (x2 : x ≤ 2147483647) (y1 : -2147483648 ≤ y) (y2 : y ≤ 2147483647) (z1 : -2147483648 ≤ z) (z2 : z ≤ 2147483647) (k : Q (some (.int (iI (vQ_parts N x y z)))) h) : vCall (d + 3) 0 0 155 [.ref c, .int (iI x), .int (iI y), .int (iI z)] h Q := by
  obtain ⟨fs, ho⟩ := vMn_o hM
  unfold vQ_parts at k
  have hL := vbL_3 y
  have no : ¬ (((0 ≤ x ∧ x < 10) ∧ 0 ≤ y ∧ y < 3) ∧ (0 ≤ z * (vbL y : Int) ∧ z * (vbL y : Int) < 720)) → ∀ v4 v5 : Value, vW (vCall (d + 2)) 155 Q 31 [.ref c, .int (iI x), .int (iI y), .int (iI z), v4, v5] [] h 0 0 := fun q v4 v5 => by
    have k2 : Q (some (.int (iI (-1)))) h := by
      split at k
      · rename_i g
        rw [if_neg (fun g2 => q ⟨g, g2⟩)] at k
        exact k
      · exact k
    refine r_ci c155_31 ?_
    refine r_iret (st := []) c155_32 ?_
    exact k2
  refine vin 6 [_, _, _, _, _, _] ml_155 rfl rfl ?_
  refine r_iload c155_0 rfl ?_
  refine r_is1 c155_1 vr_103 rfl (k_mName x1 x2 (fun e1 e2 => ?_) (fun e => ?_))
  · dsimp only [vpush]
    refine r_ifeq c155_4 (by omega) (by omega) (fun q => by exfalso; omega) (fun c_4 => ?_)
    refine r_iload c155_7 rfl ?_
    refine r_is1 c155_8 vr_154 rfl (k_mBlock y1 y2 (fun f1 f2 => ?_) (fun f => ?_))
    · dsimp only [vpush]
      rw [if_pos ⟨⟨e1, e2⟩, f1, f2⟩] at k
      refine r_ifeq c155_11 (by omega) (by omega) (fun q => by exfalso; omega) (fun c_11 => ?_)
      refine r_iload c155_14 rfl (r_i2l c155_15 (by omega) (by omega) (r_cl c155_16 (r_iload c155_17 rfl (r_ci c155_18 ?_))))
      refine r_is2 c155_21 vr_121 rfl (k_mblockOf (m := 719) f1 (by omega) (by omega) ?_)
      dsimp only [vpush]
      have hz : (0 ≤ z ∧ z ≤ ((719 / vbL y : Nat) : Int)) ↔ (0 ≤ z * (vbL y : Int) ∧ z * (vbL y : Int) < 720) := by rcases hL with q | q | q <;> rw [q] <;> omega
      have hd : 719 / vbL y ≤ 719 := Nat.div_le_self _ _
      have hdn : (0 : Int) ≤ ((719 / vbL y : Nat) : Int) := Int.natCast_nonneg _
      refine r_i2l c155_24 (by omega) (by omega) ?_
      refine r_is3 c155_25 vr_102 rfl (k_isIn (by constructor <;> omega) (by constructor <;> omega) (by constructor <;> omega) (fun g1 g2 => ?_) (fun g => ?_))
      · dsimp only [vpush]
        rw [if_pos (hz.1 ⟨g1, g2⟩)] at k
        obtain ⟨n, rfl⟩ := Int.eq_ofNat_of_zero_le e1
        obtain ⟨m, rfl⟩ := Int.eq_ofNat_of_zero_le g1
        have hm : m * vbL y < 720 := by have := (hz.1 ⟨g1, g2⟩).2; rcases hL with q | q | q <;> rw [q] at this ⊢ <;> omega
        rw [Int.toNat_natCast, show ((m : Int) * (vbL y : Int)).toNat = m * vbL y by rw [← Int.natCast_mul, Int.toNat_natCast]] at k
        have hc : vcn (vDd N n) (m * vbL y) (vlb (m * vbL y) (vbL y) + 1 - m * vbL y) = vcn (fun e => vDd N n e && decide (e / vbL y = m)) 0 720 := by
          symm
          unfold vlb
          have hq : ∀ e, e / vbL y = m ↔ (m * vbL y ≤ e ∧ e < m * vbL y + vbL y) := fun e => by rcases hL with q | q | q <;> rw [q] <;> omega
          have hp : 0 < vbL y := by omega
          generalize vbL y = L at *
          generalize m * L = f at *
          refine vcn_cut (by split <;> omega) (fun j j1 j2 => ?_) (fun j j1 j2 => ?_)
          · rw [decide_eq_true ((hq j).2 ⟨j1, by revert j2; split <;> omega⟩), Bool.and_true]
          · rw [decide_eq_false (fun q => by have := (hq j).1 q; revert j2; split <;> omega), Bool.and_false]
        rw [hc] at k
        have loop : ∀ u i : Nat, i + u = 720 → vW (vCall (d + 2)) 155 Q 39 [.ref c, .int (iI (n : Int)), .int (iI y), .int (iI (m : Int)), .int (iI ((vcn (fun e => vDd N n e && decide (e / vbL y = m)) 0 i : Nat) : Int)), .int (iI (i : Int))] [] h 0 0 := by
          intro u
          induction u with
          | zero =>
            intro i hi
            obtain rfl : i = 720 := by omega
            refine r_iload c155_39 rfl (r_ci c155_41 ?_)
            refine r_icge c155_44 (by omega) (by omega) (by omega) (by omega) (fun c_44 => ?_) (fun q => by exfalso; omega)
            refine r_iload c155_83 rfl ?_
            refine r_iret (st := []) c155_85 ?_
            exact k
          | succ u ih =>
            intro i hi
            have cl := vcn_le (fun e => vDd N n e && decide (e / vbL y = m)) 0 i
            have e : vcn (fun e => vDd N n e && decide (e / vbL y = m)) 0 (i + 1) = vcn (fun e => vDd N n e && decide (e / vbL y = m)) 0 i + (if (vDd N n (0 + i) && decide ((0 + i) / vbL y = m)) = true then 1 else 0) := rfl
            rw [Nat.zero_add] at e
            have add : ∀ b : Bool, b = (vDd N n i && decide (i / vbL y = m)) → vW (vCall (d + 2)) 155 Q 74 [.ref c, .int (iI (n : Int)), .int (iI y), .int (iI (m : Int)), .int (iI ((vcn (fun e => vDd N n e && decide (e / vbL y = m)) 0 i : Nat) : Int)), .int (iI (i : Int))] [.int (iI (vBi b)), .int (iI ((vcn (fun e => vDd N n e && decide (e / vbL y = m)) 0 i : Nat) : Int))] h 0 0 := by
              intro b hb
              rw [← hb] at e
              have e2 : ((vcn (fun e => vDd N n e && decide (e / vbL y = m)) 0 i : Nat) : Int) + vBi b = ((vcn (fun e => vDd N n e && decide (e / vbL y = m)) 0 (i + 1) : Nat) : Int) := by
                rw [e]; unfold vBi
                cases b
                · rw [if_neg (by decide), if_neg (by decide)]; omega
                · rw [if_pos rfl, if_pos rfl]; omega
              refine r_iadd c155_74 (r_istore c155_75 rfl (r_iinc c155_77 rfl rfl (r_goto c155_80 ?_)))
              try dsimp only [vst]
              rw [e2, vsu]
              exact ih (i + 1) (by omega)
            have dl : i / vbL y ≤ i := Nat.div_le_self _ _
            have dn : (0 : Int) ≤ ((i / vbL y : Nat) : Int) := Int.natCast_nonneg _
            refine r_iload c155_39 rfl (r_ci c155_41 ?_)
            refine r_icge c155_44 (by omega) (by omega) (by omega) (by omega) (fun q => by exfalso; omega) (fun c_44 => ?_)
            refine r_iload c155_47 rfl (r_aload c155_49 rfl (r_iload c155_50 rfl (r_iload c155_51 rfl ?_)))
            refine r_iv2 c155_53 vr_106 ho rfl (k_mOf hM (by omega) (by omega) ?_)
            dsimp only [vpush]
            refine vife (by decide +kernel : vlk 155 56 = some (70, 73, 0, 0, 59)) (fun b => ?_) (fun b => ?_)
            · refine r_ci c155_73 ?_
              exact add false (by rw [b]; rfl)
            · refine r_iload c155_59 rfl (r_iload c155_60 rfl ?_)
              refine r_is2 c155_62 vr_121 rfl (k_mblockOf f1 (by omega) (by omega) ?_)
              dsimp only [vpush]
              refine r_iload c155_65 rfl ?_
              refine r_icne c155_66 (by omega) (by omega) (by omega) (by omega) (fun c_66 => ?_) (fun c_66 => ?_)
              · refine r_ci c155_73 ?_
                exact add false (by rw [b, decide_eq_false (by omega)]; rfl)
              · refine r_ci c155_69 (r_goto c155_70 ?_)
                exact add true (by rw [b, decide_eq_true (by omega)]; rfl)
        refine r_ifne c155_28 (by omega) (by omega) (fun c_28 => ?_) (fun q => by exfalso; omega)
        refine r_ci c155_33 (r_istore c155_34 rfl (r_ci c155_36 (r_istore c155_37 rfl ?_)))
        try dsimp only [vst]
        exact loop 720 0 rfl
      · dsimp only [vpush]
        refine r_ifne c155_28 (by omega) (by omega) (fun q => by exfalso; omega) (fun c_28 => ?_)
        exact no (fun q => g (hz.2 q.2)) _ _
    · dsimp only [vpush]
      refine r_ifeq c155_11 (by omega) (by omega) (fun c_11 => ?_) (fun q => by exfalso; omega)
      exact no (fun q => f q.1.2) _ _
  · dsimp only [vpush]
    refine r_ifeq c155_4 (by omega) (by omega) (fun c_4 => ?_) (fun q => by exfalso; omega)
    exact no (fun q => e q.1.1) _ _
theorem m_nth {d c : Nat} {N : vNmS} {x y z v : Int} {h : vHp} {Q : vQ} (hM : vMn h c N) (x1 : -2147483648 ≤ x) (x2 : x ≤ 2147483647) (y1 : -2147483648 ≤ y) (y2 : y ≤ 2147483647) (z1 : -2147483648 ≤ z) (z2 : z ≤ 2147483647) (v1 : -2147483648 ≤ v) (v2 : v ≤ 2147483647) (k : Q (some (.int (iI (vQ_nth N x y z v)))) h) : vCall (d + 4) 0 0 156 [.ref c, .int (iI x), .int (iI y), .int (iI z), .int (iI v)] h Q := by
  obtain ⟨fs, ho⟩ := vMn_o hM
  unfold vQ_nth at k
  have hL := vbL_3 y
  have no : ¬ ((0 ≤ x ∧ x < 10) ∧ 0 ≤ y ∧ y < 3) → ∀ v5 v6 : Value, vW (vCall (d + 3)) 156 Q 14 [.ref c, .int (iI x), .int (iI y), .int (iI z), .int (iI v), v5, v6] [] h 0 0 := fun q v5 v6 => by
    rw [if_neg q] at k
    refine r_ci c156_14 ?_
    refine r_iret (st := []) c156_15 ?_
    exact k
  refine vin 7 [_, _, _, _, _, _, _] ml_156 rfl rfl ?_
  refine r_iload c156_0 rfl ?_
  refine r_is1 c156_1 vr_103 rfl (k_mName x1 x2 (fun e1 e2 => ?_) (fun e => ?_))
  · dsimp only [vpush]
    refine r_ifeq c156_4 (by omega) (by omega) (fun q => by exfalso; omega) (fun c_4 => ?_)
    refine r_iload c156_7 rfl ?_
    refine r_is1 c156_8 vr_154 rfl (k_mBlock y1 y2 (fun f1 f2 => ?_) (fun f => ?_))
    · dsimp only [vpush]
      rw [if_pos ⟨⟨e1, e2⟩, f1, f2⟩] at k
      refine r_ifne c156_11 (by omega) (by omega) (fun c_11 => ?_) (fun q => by exfalso; omega)
      refine r_iload c156_16 rfl ?_
      refine r_is1 c156_18 vr_104 rfl (k_mDay v1 v2 (fun g1 g2 => ?_) (fun g => ?_))
      · dsimp only [vpush]
        rw [if_pos ⟨g1, g2⟩] at k
        obtain ⟨n, rfl⟩ := Int.eq_ofNat_of_zero_le e1
        obtain ⟨m, rfl⟩ := Int.eq_ofNat_of_zero_le g1
        rw [Int.toNat_natCast, Int.toNat_natCast] at k
        have hf : m / vbL y * vbL y ≤ 719 := by rcases hL with q | q | q <;> rw [q] <;> omega
        have hd : m / vbL y ≤ m := Nat.div_le_self _ _
        have hmul : ((m / vbL y : Nat) : Int) * (vbL y : Int) = ((m / vbL y * vbL y : Nat) : Int) := (Int.natCast_mul _ _).symm
        have hLr := vbL_rg y
        have from49 : vW (vCall (d + 3)) 156 Q 49 [.ref c, .int (iI (n : Int)), .int (iI y), .int (iI z), .int (iI (m : Int)), vHole, vHole] [.int (iI (vbL y : Int))] h 0 0 := by
          refine r_istore c156_49 rfl (r_iload c156_51 rfl (r_iload c156_52 rfl ?_))
          try dsimp only [vst]
          refine r_is2 c156_54 vr_121 rfl (k_mblockOf f1 (by omega) (by omega) ?_)
          dsimp only [vpush]
          generalize hfm : m / vbL y * vbL y = fm at *
          refine r_iload c156_57 rfl (r_imul c156_59 ?_)
          rw [hmul]
          refine r_istore c156_60 rfl (r_aload c156_62 rfl (r_iload c156_63 rfl (r_iload c156_64 rfl (r_ci c156_66 (r_iload c156_69 rfl (r_iload c156_71 rfl (r_iadd c156_73 (r_ci c156_74 (r_isub c156_75 (r_mmin c156_76 (by omega) (by omega) (by omega) (by omega) (Nat.le_of_ble_eq_true rfl) (r_iload c156_79 rfl ?_)))))))))))
          try dsimp only [vst]
          have e9 : (if ((fm : Int) + (vbL y : Int) - 1) < 719 then ((fm : Int) + (vbL y : Int) - 1) else 719) = ((vlb fm (vbL y) : Nat) : Int) := by unfold vlb; split <;> split <;> omega
          rw [e9]
          refine r_iv4 c156_80 vr_137 ho rfl (m_ith hM (by omega) (by unfold vlb; split <;> omega) (by unfold vlb; split <;> omega) z1 z2 ?_)
          dsimp only [vpush]
          refine r_iret (st := []) c156_83 ?_
          exact k
        have eL : vbL y = if y = 0 then 7 else if y = 1 then 30 else 360 := rfl
        refine r_ifne c156_21 (by omega) (by omega) (fun c_21 => ?_) (fun q => by exfalso; omega)
        refine r_iload c156_27 rfl ?_
        refine r_ifne c156_28 (by omega) (by omega) (fun c_28 => ?_) (fun c_28 => ?_)
        · rw [if_neg c_28] at eL
          refine r_iload c156_36 rfl (r_ci c156_37 ?_)
          refine r_icne c156_38 (by omega) (by omega) (by omega) (by omega) (fun c_38 => ?_) (fun c_38 => ?_)
          · rw [if_neg c_38] at eL
            rw [eL] at from49
            refine r_ci c156_46 ?_
            exact from49
          · rw [if_pos c_38] at eL
            rw [eL] at from49
            refine r_ci c156_41 (r_goto c156_43 ?_)
            exact from49
        · rw [if_pos c_28] at eL
          rw [eL] at from49
          refine r_ci c156_31 (r_goto c156_33 ?_)
          exact from49
      · dsimp only [vpush]
        rw [if_neg g] at k
        refine r_ifne c156_21 (by omega) (by omega) (fun q => by exfalso; omega) (fun c_21 => ?_)
        refine r_ci c156_24 ?_
        refine r_iret (st := []) c156_26 ?_
        exact k
    · dsimp only [vpush]
      refine r_ifne c156_11 (by omega) (by omega) (fun q => by exfalso; omega) (fun c_11 => ?_)
      exact no (fun q => f q.2) _ _
  · dsimp only [vpush]
    refine r_ifeq c156_4 (by omega) (by omega) (fun c_4 => ?_) (fun q => by exfalso; omega)
    exact no (fun q => e q.1) _ _

