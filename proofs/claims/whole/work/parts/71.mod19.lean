theorem ml_157 : vml 157 = 4 := by decide +kernel
theorem ml_158 : vml 158 = 3 := by decide +kernel
theorem ml_160 : vml 160 = 4 := by decide +kernel
theorem ml_161 : vml 161 = 4 := by decide +kernel
theorem ml_162 : vml 162 = 3 := by decide +kernel
theorem vr_107 : vrc 107 = some (6, 2) := by decide +kernel
theorem vr_159 : vrc 159 = some (6, 1) := by decide +kernel
theorem c157_0 : vlk 157 0 = some (1, 0, 0, 0, 1) := by decide +kernel
theorem c157_1 : vlk 157 1 = some (7, 2, 0, 0, 2) := by decide +kernel
theorem c157_2 : vlk 157 2 = some (4, 1, 0, 0, 3) := by decide +kernel
theorem c157_3 : vlk 157 3 = some (67, 5, 0, 0, 44) := by decide +kernel
theorem c157_44 : vlk 157 44 = some (1, 0, 0, 0, 45) := by decide +kernel
theorem c157_45 : vlk 157 45 = some (7, 3, 0, 0, 46) := by decide +kernel
theorem c157_46 : vlk 157 46 = some (4, 3, 0, 0, 47) := by decide +kernel
theorem c157_47 : vlk 157 47 = some (1, 0, 0, 10, 49) := by decide +kernel
theorem c157_49 : vlk 157 49 = some (79, 75, 0, 0, 52) := by decide +kernel
theorem c157_52 : vlk 157 52 = some (4, 2, 0, 0, 53) := by decide +kernel
theorem c157_53 : vlk 157 53 = some (6, 0, 0, 0, 54) := by decide +kernel
theorem c157_54 : vlk 157 54 = some (42, 6, 0, 0, 57) := by decide +kernel
theorem c157_57 : vlk 157 57 = some (4, 3, 0, 0, 58) := by decide +kernel
theorem c157_58 : vlk 157 58 = some (47, 0, 0, 0, 59) := by decide +kernel
theorem c157_62 : vlk 157 62 = some (1, 0, 0, 1, 63) := by decide +kernel
theorem c157_63 : vlk 157 63 = some (37, 67, 0, 0, 66) := by decide +kernel
theorem c157_66 : vlk 157 66 = some (1, 0, 0, 0, 67) := by decide +kernel
theorem c157_67 : vlk 157 67 = some (11, 0, 0, 0, 68) := by decide +kernel
theorem c157_68 : vlk 157 68 = some (7, 2, 0, 0, 69) := by decide +kernel
theorem c157_69 : vlk 157 69 = some (10, 3, 0, 1, 72) := by decide +kernel
theorem c157_72 : vlk 157 72 = some (37, 46, 0, 0, 75) := by decide +kernel
theorem c157_75 : vlk 157 75 = some (4, 2, 0, 0, 76) := by decide +kernel
theorem c157_76 : vlk 157 76 = some (63, 0, 0, 0, 77) := by decide +kernel
theorem c157_77 : vlk 157 77 = some (6, 0, 0, 0, 78) := by decide +kernel
theorem c157_78 : vlk 157 78 = some (42, 6, 20, 0, 81) := by decide +kernel
theorem c157_81 : vlk 157 81 = some (63, 0, 0, 0, 82) := by decide +kernel
theorem c157_82 : vlk 157 82 = some (6, 0, 0, 0, 83) := by decide +kernel
theorem c157_83 : vlk 157 83 = some (42, 6, 21, 0, 86) := by decide +kernel
theorem c157_86 : vlk 157 86 = some (63, 0, 0, 0, 87) := by decide +kernel
theorem c157_87 : vlk 157 87 = some (6, 0, 0, 0, 88) := by decide +kernel
theorem c157_88 : vlk 157 88 = some (42, 6, 15, 0, 91) := by decide +kernel
theorem c157_91 : vlk 157 91 = some (63, 0, 0, 0, 92) := by decide +kernel
theorem c157_92 : vlk 157 92 = some (6, 0, 0, 0, 93) := by decide +kernel
theorem c157_93 : vlk 157 93 = some (42, 6, 10, 0, 96) := by decide +kernel
theorem c157_96 : vlk 157 96 = some (63, 0, 0, 0, 97) := by decide +kernel
theorem c157_97 : vlk 157 97 = some (1, 0, 0, 0, 98) := by decide +kernel
theorem c157_98 : vlk 157 98 = some (7, 3, 0, 0, 99) := by decide +kernel
theorem c157_99 : vlk 157 99 = some (4, 3, 0, 0, 100) := by decide +kernel
theorem c157_100 : vlk 157 100 = some (1, 0, 0, 10, 102) := by decide +kernel
theorem c157_102 : vlk 157 102 = some (79, 134, 0, 0, 105) := by decide +kernel
theorem c157_105 : vlk 157 105 = some (4, 2, 0, 0, 106) := by decide +kernel
theorem c157_106 : vlk 157 106 = some (4, 1, 0, 0, 107) := by decide +kernel
theorem c157_107 : vlk 157 107 = some (1, 0, 0, 5, 108) := by decide +kernel
theorem c157_108 : vlk 157 108 = some (77, 118, 0, 0, 111) := by decide +kernel
theorem c157_111 : vlk 157 111 = some (6, 0, 0, 0, 112) := by decide +kernel
theorem c157_112 : vlk 157 112 = some (42, 6, 2, 0, 115) := by decide +kernel
theorem c157_115 : vlk 157 115 = some (37, 122, 0, 0, 118) := by decide +kernel
theorem c157_118 : vlk 157 118 = some (6, 0, 0, 0, 119) := by decide +kernel
theorem c157_119 : vlk 157 119 = some (42, 6, 3, 0, 122) := by decide +kernel
theorem c157_122 : vlk 157 122 = some (4, 3, 0, 0, 123) := by decide +kernel
theorem c157_123 : vlk 157 123 = some (59, 107, 0, 0, 126) := by decide +kernel
theorem c157_126 : vlk 157 126 = some (11, 0, 0, 0, 127) := by decide +kernel
theorem c157_127 : vlk 157 127 = some (7, 2, 0, 0, 128) := by decide +kernel
theorem c157_128 : vlk 157 128 = some (10, 3, 0, 1, 131) := by decide +kernel
theorem c157_131 : vlk 157 131 = some (37, 99, 0, 0, 134) := by decide +kernel
theorem c157_134 : vlk 157 134 = some (4, 2, 0, 0, 135) := by decide +kernel
theorem c157_135 : vlk 157 135 = some (63, 0, 0, 0, 136) := by decide +kernel
theorem c157_136 : vlk 157 136 = some (1, 0, 0, (-1), 137) := by decide +kernel
theorem c157_137 : vlk 157 137 = some (63, 0, 0, 0, 138) := by decide +kernel
theorem c158_0 : vlk 158 0 = some (4, 1, 0, 0, 1) := by decide +kernel
theorem c158_1 : vlk 158 1 = some (32, 0, 0, 0, 2) := by decide +kernel
theorem c158_2 : vlk 158 2 = some (2, 0, 0, 0, 3) := by decide +kernel
theorem c158_3 : vlk 158 3 = some (6, 0, 0, 0, 4) := by decide +kernel
theorem c158_4 : vlk 158 4 = some (42, 6, 15, 0, 7) := by decide +kernel
theorem c158_7 : vlk 158 7 = some (1, 0, 0, 1, 8) := by decide +kernel
theorem c158_8 : vlk 158 8 = some (12, 0, 0, 0, 9) := by decide +kernel
theorem c158_9 : vlk 158 9 = some (32, 0, 0, 0, 10) := by decide +kernel
theorem c158_10 : vlk 158 10 = some (59, 102, 0, 0, 13) := by decide +kernel
theorem c158_13 : vlk 158 13 = some (70, 28, 0, 0, 16) := by decide +kernel
theorem c158_16 : vlk 158 16 = some (4, 2, 0, 0, 17) := by decide +kernel
theorem c158_17 : vlk 158 17 = some (32, 0, 0, 0, 18) := by decide +kernel
theorem c158_18 : vlk 158 18 = some (2, 0, 0, 0, 19) := by decide +kernel
theorem c158_19 : vlk 158 19 = some (2, 0, 0, 3, 22) := by decide +kernel
theorem c158_22 : vlk 158 22 = some (59, 102, 0, 0, 25) := by decide +kernel
theorem c158_25 : vlk 158 25 = some (71, 30, 0, 0, 28) := by decide +kernel
theorem c158_28 : vlk 158 28 = some (1, 0, 0, (-1), 29) := by decide +kernel
theorem c158_29 : vlk 158 29 = some (63, 0, 0, 0, 30) := by decide +kernel
theorem c158_30 : vlk 158 30 = some (4, 2, 0, 0, 31) := by decide +kernel
theorem c158_31 : vlk 158 31 = some (71, 43, 0, 0, 34) := by decide +kernel
theorem c158_34 : vlk 158 34 = some (6, 0, 0, 0, 35) := by decide +kernel
theorem c158_35 : vlk 158 35 = some (42, 6, 16, 0, 38) := by decide +kernel
theorem c158_38 : vlk 158 38 = some (4, 1, 0, 0, 39) := by decide +kernel
theorem c158_39 : vlk 158 39 = some (45, 0, 0, 0, 40) := by decide +kernel
theorem c158_40 : vlk 158 40 = some (37, 77, 0, 0, 43) := by decide +kernel
theorem c158_43 : vlk 158 43 = some (4, 2, 0, 0, 44) := by decide +kernel
theorem c158_44 : vlk 158 44 = some (1, 0, 0, 1, 45) := by decide +kernel
theorem c158_45 : vlk 158 45 = some (77, 57, 0, 0, 48) := by decide +kernel
theorem c158_48 : vlk 158 48 = some (6, 0, 0, 0, 49) := by decide +kernel
theorem c158_49 : vlk 158 49 = some (42, 6, 17, 0, 52) := by decide +kernel
theorem c158_52 : vlk 158 52 = some (4, 1, 0, 0, 53) := by decide +kernel
theorem c158_53 : vlk 158 53 = some (45, 0, 0, 0, 54) := by decide +kernel
theorem c158_54 : vlk 158 54 = some (37, 77, 0, 0, 57) := by decide +kernel
theorem c158_57 : vlk 158 57 = some (4, 2, 0, 0, 58) := by decide +kernel
theorem c158_58 : vlk 158 58 = some (1, 0, 0, 2, 59) := by decide +kernel
theorem c158_59 : vlk 158 59 = some (77, 71, 0, 0, 62) := by decide +kernel
theorem c158_62 : vlk 158 62 = some (6, 0, 0, 0, 63) := by decide +kernel
theorem c158_63 : vlk 158 63 = some (42, 6, 18, 0, 66) := by decide +kernel
theorem c158_66 : vlk 158 66 = some (4, 1, 0, 0, 67) := by decide +kernel
theorem c158_67 : vlk 158 67 = some (45, 0, 0, 0, 68) := by decide +kernel
theorem c158_68 : vlk 158 68 = some (37, 77, 0, 0, 71) := by decide +kernel
theorem c158_71 : vlk 158 71 = some (6, 0, 0, 0, 72) := by decide +kernel
theorem c158_72 : vlk 158 72 = some (42, 6, 19, 0, 75) := by decide +kernel
theorem c158_75 : vlk 158 75 = some (4, 1, 0, 0, 76) := by decide +kernel
theorem c158_76 : vlk 158 76 = some (45, 0, 0, 0, 77) := by decide +kernel
theorem c158_77 : vlk 158 77 = some (63, 0, 0, 0, 78) := by decide +kernel
theorem c160_0 : vlk 160 0 = some (4, 1, 0, 0, 1) := by decide +kernel
theorem c160_1 : vlk 160 1 = some (59, 159, 0, 0, 4) := by decide +kernel
theorem c160_4 : vlk 160 4 = some (71, 9, 0, 0, 7) := by decide +kernel
theorem c160_7 : vlk 160 7 = some (1, 0, 0, (-1), 8) := by decide +kernel
theorem c160_8 : vlk 160 8 = some (63, 0, 0, 0, 9) := by decide +kernel
theorem c160_9 : vlk 160 9 = some (4, 2, 0, 0, 10) := by decide +kernel
theorem c160_10 : vlk 160 10 = some (1, 0, 0, 30, 12) := by decide +kernel
theorem c160_12 : vlk 160 12 = some (81, 18, 0, 0, 15) := by decide +kernel
theorem c160_15 : vlk 160 15 = some (1, 0, 0, (-2), 17) := by decide +kernel
theorem c160_17 : vlk 160 17 = some (63, 0, 0, 0, 18) := by decide +kernel
theorem c160_18 : vlk 160 18 = some (4, 2, 0, 0, 19) := by decide +kernel
theorem c160_19 : vlk 160 19 = some (73, 25, 0, 0, 22) := by decide +kernel
theorem c160_22 : vlk 160 22 = some (1, 0, 0, (-14), 24) := by decide +kernel
theorem c160_24 : vlk 160 24 = some (63, 0, 0, 0, 25) := by decide +kernel
theorem c160_25 : vlk 160 25 = some (6, 0, 0, 0, 26) := by decide +kernel
theorem c160_26 : vlk 160 26 = some (42, 6, 22, 0, 29) := by decide +kernel
theorem c160_29 : vlk 160 29 = some (4, 1, 0, 0, 30) := by decide +kernel
theorem c160_30 : vlk 160 30 = some (4, 2, 0, 0, 31) := by decide +kernel
theorem c160_31 : vlk 160 31 = some (49, 0, 0, 0, 32) := by decide +kernel
theorem c160_32 : vlk 160 32 = some (1, 0, 0, 0, 33) := by decide +kernel
theorem c160_33 : vlk 160 33 = some (7, 3, 0, 0, 34) := by decide +kernel
theorem c160_34 : vlk 160 34 = some (4, 3, 0, 0, 35) := by decide +kernel
theorem c160_35 : vlk 160 35 = some (1, 0, 0, 30, 37) := by decide +kernel
theorem c160_37 : vlk 160 37 = some (79, 58, 0, 0, 40) := by decide +kernel
theorem c160_40 : vlk 160 40 = some (6, 0, 0, 0, 41) := by decide +kernel
theorem c160_41 : vlk 160 41 = some (42, 6, 23, 0, 44) := by decide +kernel
theorem c160_44 : vlk 160 44 = some (1, 0, 0, 30, 46) := by decide +kernel
theorem c160_46 : vlk 160 46 = some (4, 1, 0, 0, 47) := by decide +kernel
theorem c160_47 : vlk 160 47 = some (13, 0, 0, 0, 48) := by decide +kernel
theorem c160_48 : vlk 160 48 = some (4, 3, 0, 0, 49) := by decide +kernel
theorem c160_49 : vlk 160 49 = some (11, 0, 0, 0, 50) := by decide +kernel
theorem c160_50 : vlk 160 50 = some (1, 0, 0, 0, 51) := by decide +kernel
theorem c160_51 : vlk 160 51 = some (49, 0, 0, 0, 52) := by decide +kernel
theorem c160_52 : vlk 160 52 = some (10, 3, 0, 1, 55) := by decide +kernel
theorem c160_55 : vlk 160 55 = some (37, 34, 0, 0, 58) := by decide +kernel
theorem c160_58 : vlk 160 58 = some (1, 0, 0, 1, 59) := by decide +kernel
theorem c160_59 : vlk 160 59 = some (63, 0, 0, 0, 60) := by decide +kernel
theorem c161_0 : vlk 161 0 = some (4, 1, 0, 0, 1) := by decide +kernel
theorem c161_1 : vlk 161 1 = some (59, 159, 0, 0, 4) := by decide +kernel
theorem c161_4 : vlk 161 4 = some (71, 9, 0, 0, 7) := by decide +kernel
theorem c161_7 : vlk 161 7 = some (1, 0, 0, (-1), 8) := by decide +kernel
theorem c161_8 : vlk 161 8 = some (63, 0, 0, 0, 9) := by decide +kernel
theorem c161_9 : vlk 161 9 = some (6, 0, 0, 0, 10) := by decide +kernel
theorem c161_10 : vlk 161 10 = some (42, 6, 22, 0, 13) := by decide +kernel
theorem c161_13 : vlk 161 13 = some (4, 1, 0, 0, 14) := by decide +kernel
theorem c161_14 : vlk 161 14 = some (45, 0, 0, 0, 15) := by decide +kernel
theorem c161_15 : vlk 161 15 = some (73, 21, 0, 0, 18) := by decide +kernel
theorem c161_18 : vlk 161 18 = some (1, 0, 0, (-11), 20) := by decide +kernel
theorem c161_20 : vlk 161 20 = some (63, 0, 0, 0, 21) := by decide +kernel
theorem c161_21 : vlk 161 21 = some (4, 2, 0, 0, 22) := by decide +kernel
theorem c161_22 : vlk 161 22 = some (32, 0, 0, 0, 23) := by decide +kernel
theorem c161_23 : vlk 161 23 = some (2, 0, 0, 0, 24) := by decide +kernel
theorem c161_24 : vlk 161 24 = some (6, 0, 0, 0, 25) := by decide +kernel
theorem c161_25 : vlk 161 25 = some (42, 6, 22, 0, 28) := by decide +kernel
theorem c161_28 : vlk 161 28 = some (4, 1, 0, 0, 29) := by decide +kernel
theorem c161_29 : vlk 161 29 = some (45, 0, 0, 0, 30) := by decide +kernel
theorem c161_30 : vlk 161 30 = some (1, 0, 0, 1, 31) := by decide +kernel
theorem c161_31 : vlk 161 31 = some (12, 0, 0, 0, 32) := by decide +kernel
theorem c161_32 : vlk 161 32 = some (32, 0, 0, 0, 33) := by decide +kernel
theorem c161_33 : vlk 161 33 = some (59, 102, 0, 0, 36) := by decide +kernel
theorem c161_36 : vlk 161 36 = some (71, 42, 0, 0, 39) := by decide +kernel
theorem c161_39 : vlk 161 39 = some (1, 0, 0, (-13), 41) := by decide +kernel
theorem c161_41 : vlk 161 41 = some (63, 0, 0, 0, 42) := by decide +kernel
theorem c161_42 : vlk 161 42 = some (6, 0, 0, 0, 43) := by decide +kernel
theorem c161_43 : vlk 161 43 = some (42, 6, 23, 0, 46) := by decide +kernel
theorem c161_46 : vlk 161 46 = some (1, 0, 0, 30, 48) := by decide +kernel
theorem c161_48 : vlk 161 48 = some (4, 1, 0, 0, 49) := by decide +kernel
theorem c161_49 : vlk 161 49 = some (13, 0, 0, 0, 50) := by decide +kernel
theorem c161_50 : vlk 161 50 = some (4, 2, 0, 0, 51) := by decide +kernel
theorem c161_51 : vlk 161 51 = some (11, 0, 0, 0, 52) := by decide +kernel
theorem c161_52 : vlk 161 52 = some (4, 3, 0, 0, 53) := by decide +kernel
theorem c161_53 : vlk 161 53 = some (49, 0, 0, 0, 54) := by decide +kernel
theorem c161_54 : vlk 161 54 = some (1, 0, 0, 1, 55) := by decide +kernel
theorem c161_55 : vlk 161 55 = some (63, 0, 0, 0, 56) := by decide +kernel
theorem c162_0 : vlk 162 0 = some (4, 1, 0, 0, 1) := by decide +kernel
theorem c162_1 : vlk 162 1 = some (59, 159, 0, 0, 4) := by decide +kernel
theorem c162_4 : vlk 162 4 = some (70, 39, 0, 0, 7) := by decide +kernel
theorem c162_7 : vlk 162 7 = some (4, 2, 0, 0, 8) := by decide +kernel
theorem c162_8 : vlk 162 8 = some (32, 0, 0, 0, 9) := by decide +kernel
theorem c162_9 : vlk 162 9 = some (2, 0, 0, 0, 10) := by decide +kernel
theorem c162_10 : vlk 162 10 = some (6, 0, 0, 0, 11) := by decide +kernel
theorem c162_11 : vlk 162 11 = some (42, 6, 22, 0, 14) := by decide +kernel
theorem c162_14 : vlk 162 14 = some (4, 1, 0, 0, 15) := by decide +kernel
theorem c162_15 : vlk 162 15 = some (45, 0, 0, 0, 16) := by decide +kernel
theorem c162_16 : vlk 162 16 = some (1, 0, 0, 1, 17) := by decide +kernel
theorem c162_17 : vlk 162 17 = some (12, 0, 0, 0, 18) := by decide +kernel
theorem c162_18 : vlk 162 18 = some (32, 0, 0, 0, 19) := by decide +kernel
theorem c162_19 : vlk 162 19 = some (59, 102, 0, 0, 22) := by decide +kernel
theorem c162_22 : vlk 162 22 = some (70, 39, 0, 0, 25) := by decide +kernel
theorem c162_25 : vlk 162 25 = some (6, 0, 0, 0, 26) := by decide +kernel
theorem c162_26 : vlk 162 26 = some (42, 6, 23, 0, 29) := by decide +kernel
theorem c162_29 : vlk 162 29 = some (1, 0, 0, 30, 31) := by decide +kernel
theorem c162_31 : vlk 162 31 = some (4, 1, 0, 0, 32) := by decide +kernel
theorem c162_32 : vlk 162 32 = some (13, 0, 0, 0, 33) := by decide +kernel
theorem c162_33 : vlk 162 33 = some (4, 2, 0, 0, 34) := by decide +kernel
theorem c162_34 : vlk 162 34 = some (11, 0, 0, 0, 35) := by decide +kernel
theorem c162_35 : vlk 162 35 = some (45, 0, 0, 0, 36) := by decide +kernel
theorem c162_36 : vlk 162 36 = some (37, 41, 0, 0, 39) := by decide +kernel
theorem c162_39 : vlk 162 39 = some (1, 0, 0, (-2000000000), 41) := by decide +kernel
theorem c162_41 : vlk 162 41 = some (63, 0, 0, 0, 42) := by decide +kernel
/-! the reference: what is told, spans, lists -/
theorem vRp_fr {Z : Nat → Prop} {h h1 : vHp} {c a tp : Nat} {X : vMX} {w : Bool} {G : Nat → Bool} (hM : vRp h c X a w tp G) (f : vFr Z h h1) (n0 : ¬ Z c) (n2 : ¬ Z (c + 2)) (n3 : ¬ Z (c + 3)) (n4 : ¬ Z (c + 4)) (n9 : ¬ Z (c + 9)) (n10 : ¬ Z (c + 10)) : vRp h1 c X a w tp G := by
  obtain ⟨a1, a2, a3, ⟨a4, a5, a6⟩, a7, a8⟩ := hM
  exact ⟨(f.2.2 _ n0).trans a1, vBr_fr a2 f n10, (f.2.2 _ n9).trans a3, ⟨vBr_fr a4 f n2, vBr_fr a5 f n3, vBr_fr a6 f n4⟩, by rw [f.1]; exact a7, a8⟩
theorem vMt_fr {Z : Nat → Prop} {h h1 : vHp} {c : Nat} {N : vNmS} (hM : vMt h c N) (f : vFr Z h h1) (n : ∀ q, c + 5 ≤ q → q < c + 9 → ¬ Z q) : vMt h1 c N :=
  ⟨vBr_fr hM.1 f (n _ (by omega) (by omega)), vBr_fr hM.2.1 f (n _ (by omega) (by omega)), vBr_fr hM.2.2.1 f (n _ (by omega) (by omega)), vBr_fr hM.2.2.2 f (n _ (by omega) (by omega))⟩
theorem vSr_fr {Z : Nat → Prop} {h h1 : vHp} {c : Nat} {g : Nat → vSp} (hM : vSr h c g) (f : vFr Z h h1) (n : ∀ q, c + 11 ≤ q → q < c + 15 → ¬ Z q) : vSr h1 c g :=
  ⟨(f.2.2 _ (n _ (by omega) (by omega))).trans hM.1, (f.2.2 _ (n _ (by omega) (by omega))).trans hM.2.1, (f.2.2 _ (n _ (by omega) (by omega))).trans hM.2.2.1, (f.2.2 _ (n _ (by omega) (by omega))).trans hM.2.2.2⟩
theorem vMs_fr {Z : Nat → Prop} {h h1 : vHp} {c : Nat} {l : List vSp} (hM : vMs h c l) (f : vFr Z h h1) (n : ∀ q, c + 11 ≤ q → q < c + 15 → ¬ Z q) : vMs h1 c l := by
  obtain ⟨g, g1, g2⟩ := hM
  exact ⟨g, vSr_fr g1 f n, g2⟩
theorem vMl_fr {Z : Nat → Prop} {h h1 : vHp} {c : Nat} {ls : vLst} (hM : vMl h c ls) (f : vFr Z h h1) (n : ∀ q, c + 15 ≤ q → q < c + 18 → ¬ Z q) : vMl h1 c ls := by
  obtain ⟨a, g, m, e1, e2, e3, e4⟩ := hM
  exact ⟨a, g, m, (f.2.2 _ (n _ (by omega) (by omega))).trans e1, (f.2.2 _ (n _ (by omega) (by omega))).trans e2, (f.2.2 _ (n _ (by omega) (by omega))).trans e3, e4⟩
def vZd (c q : Nat) : Prop := c ≤ q ∧ q < c + 18
/-- the lists change -/
theorem vMD_l {h h1 : vHp} {c : Nat} {σ : vSg} {ls : vLst} (hD : vMD h c σ) (hL : vMl h1 c ls) (f : vFr (fun q => c + 15 ≤ q ∧ q < c + 18) h h1) : vMD h1 c (σ.1, σ.2.1, σ.2.2.1, σ.2.2.2.1, ls) := by
  obtain ⟨⟨a, w, tp, G, hM⟩, hr, ht, hs, -⟩ := hD
  exact ⟨⟨a, w, tp, G, vRp_fr hM f (by omega) (by omega) (by omega) (by omega) (by omega) (by omega)⟩, vBr_fr hr f (by omega), vMt_fr ht f (fun q e1 e2 => by omega), vMs_fr hs f (fun q e1 e2 => by omega), hL⟩
theorem vZd_l {c : Nat} {h h1 : vHp} (f : vFr (fun q => c + 15 ≤ q ∧ q < c + 18) h h1) : vFr (vZd c) h h1 := vFr_up f (fun q e => by unfold vZd; omega)
theorem vZd_p {c : Nat} {h h1 : vHp} (f : vFr (vZp c) h h1) : vFr (vZd c) h h1 := vFr_up f (fun q e => by unfold vZp at e; unfold vZd; omega)
theorem vMD_o {h : vHp} {c : Nat} {σ : vSg} (hD : vMD h c σ) : ∃ a w tp, hg h c = some (.inr (6, vMF c σ.2.1.1 σ.2.2.2.1.1 a w tp σ.2.2.1.1.length σ.2.2.1.2.1 σ.2.2.1.2.2)) := by
  obtain ⟨⟨a, w, tp, G, hM⟩, -⟩ := hD
  exact ⟨a, w, tp, hM.1⟩
theorem vMD_lo {h : vHp} {c : Nat} {σ : vSg} (hD : vMD h c σ) : h.1.1 ≤ c := by
  obtain ⟨⟨a, w, tp, G, hM⟩, -⟩ := hD
  exact hM.2.2.2.2.1
theorem m_told {d c : Nat} {σ : vSg} {x : Int} {h : vHp} {Q : vQ} (hD : vMD h c σ) (x1 : -2147483648 ≤ x) (x2 : x ≤ 2147483647) (k : Q (some (.int (iI (vQ_told σ x)))) h) : vCall (d + 2) 0 0 157 [.ref c, .int (iI x)] h Q := by
  obtain ⟨a, w, tp, ho⟩ := vMD_o hD
  have hn := vMD_n hD
  obtain ⟨⟨a, w, tp, G, hM⟩, ⟨fr, r1, r2⟩, ht, hs, hl⟩ := hD
  obtain ⟨-, -, -, ⟨-, bo, bx⟩, -, -⟩ := hM
  unfold vQ_told at k
  refine vin 4 [_, _, _, _] ml_157 rfl rfl ?_
  refine r_ci c157_0 (r_istore c157_1 rfl (r_iload c157_2 rfl ?_))
  try dsimp only [vst]
  refine r_sw c157_3 rfl (by omega) (by omega) ?_
  have cnt : (x = 5 ∨ x = 6) → ∀ S : Nat → vSt1, (x = 5 → S = σ.1.2.2.1) → (x = 6 → S = σ.1.2.2.2) → Q (some (.int (iI (vsm (fun i => ((vcn (S i) 0 720 : Nat) : Int)) 10)))) h → vW (vCall (d + 1)) 157 Q 97 [.ref c, .int (iI x), .int (iI 0), vHole] [] h 0 0 := by
    intro hx S s5 s6 kk
    have loop : ∀ u i : Nat, i + u = 10 → vW (vCall (d + 1)) 157 Q 99 [.ref c, .int (iI x), .int (iI (vsm (fun i => ((vcn (S i) 0 720 : Nat) : Int)) i)), .int (iI (i : Int))] [] h 0 0 := by
      intro u
      induction u with
      | zero =>
        intro i hi
        obtain rfl : i = 10 := by omega
        refine r_iload c157_99 rfl (r_ci c157_100 ?_)
        refine r_icge c157_102 (by omega) (by omega) (by omega) (by omega) (fun c_102 => ?_) (fun q => by exfalso; omega)
        refine r_iload c157_134 rfl ?_
        refine r_iret (st := []) c157_135 ?_
        exact kk
      | succ u ih =>
        intro i hi
        have e : vsm (fun i => ((vcn (S i) 0 720 : Nat) : Int)) (i + 1) = vsm (fun i => ((vcn (S i) 0 720 : Nat) : Int)) i + ((vcn (S i) 0 720 : Nat) : Int) := rfl
        refine r_iload c157_99 rfl (r_ci c157_100 ?_)
        refine r_icge c157_102 (by omega) (by omega) (by omega) (by omega) (fun q => by exfalso; omega) (fun c_102 => ?_)
        refine r_iload c157_105 rfl (r_iload c157_106 rfl (r_ci c157_107 ?_))
        refine r_icne c157_108 (by omega) (by omega) (by omega) (by omega) (fun c_108 => ?_) (fun c_108 => ?_)
        · refine r_aload c157_118 rfl (r_get c157_119 ho rfl (r_iload c157_122 rfl ?_))
          refine r_is2 c157_123 vr_107 rfl (k_many (S := S) (by rw [s6 (by omega)]; exact bx) (by omega) ?_)
          dsimp only [vpush]
          refine r_iadd c157_126 (r_istore c157_127 rfl (r_iinc c157_128 rfl rfl (r_goto c157_131 ?_)))
          try dsimp only [vst]
          rw [← e, vsu]
          exact ih (i + 1) (by omega)
        · refine r_aload c157_111 rfl (r_get c157_112 ho rfl (r_goto c157_115 (r_iload c157_122 rfl ?_)))
          refine r_is2 c157_123 vr_107 rfl (k_many (S := S) (by rw [s5 c_108]; exact bo) (by omega) ?_)
          dsimp only [vpush]
          refine r_iadd c157_126 (r_istore c157_127 rfl (r_iinc c157_128 rfl rfl (r_goto c157_131 ?_)))
          try dsimp only [vst]
          rw [← e, vsu]
          exact ih (i + 1) (by omega)
    refine r_ci c157_97 (r_istore c157_98 rfl ?_)
    try dsimp only [vst]
    exact loop 10 0 rfl
  by_cases h0 : x = 0
  · rw [if_pos h0] at k
    subst h0
    have loop : ∀ u i : Nat, i + u = 10 → vW (vCall (d + 1)) 157 Q 46 [.ref c, .int (iI 0), .int (iI (vsm (fun i => vBi (σ.1.1 i)) i)), .int (iI (i : Int))] [] h 0 0 := by
      intro u
      induction u with
      | zero =>
        intro i hi
        obtain rfl : i = 10 := by omega
        refine r_iload c157_46 rfl (r_ci c157_47 ?_)
        refine r_icge c157_49 (by omega) (by omega) (by omega) (by omega) (fun c_49 => ?_) (fun q => by exfalso; omega)
        refine r_iload c157_75 rfl ?_
        refine r_iret (st := []) c157_76 ?_
        exact k
      | succ u ih =>
        intro i hi
        have e : vsm (fun i => vBi (σ.1.1 i)) (i + 1) = vsm (fun i => vBi (σ.1.1 i)) i + vBi (σ.1.1 i) := rfl
        refine r_iload c157_46 rfl (r_ci c157_47 ?_)
        refine r_icge c157_49 (by omega) (by omega) (by omega) (by omega) (fun q => by exfalso; omega) (fun c_49 => ?_)
        refine r_iload c157_52 rfl (r_aload c157_53 rfl (r_get c157_54 ho rfl (r_iload c157_57 rfl (r_bald c157_58 r1 (by omega) (by omega) ?_))))
        rw [Int.toNat_natCast, r2 i (by omega)]
        refine vife (by decide +kernel : vlk 157 59 = some (70, 66, 0, 0, 62)) (fun b => ?_) (fun b => ?_)
        · rw [b, show vBi false = 0 by rfl] at e
          refine r_ci c157_66 (r_iadd c157_67 (r_istore c157_68 rfl (r_iinc c157_69 rfl rfl (r_goto c157_72 ?_))))
          try dsimp only [vst]
          rw [← e, vsu]
          exact ih (i + 1) (by omega)
        · rw [b, show vBi true = 1 by rfl] at e
          refine r_ci c157_62 (r_goto c157_63 (r_iadd c157_67 (r_istore c157_68 rfl (r_iinc c157_69 rfl rfl (r_goto c157_72 ?_)))))
          try dsimp only [vst]
          rw [← e, vsu]
          exact ih (i + 1) (by omega)
    refine r_ci c157_44 (r_istore c157_45 rfl ?_)
    try dsimp only [vst]
    exact loop 10 0 rfl
  · rw [if_neg h0] at k
    by_cases h1 : x = 1
    · rw [if_pos h1] at k
      subst h1
      refine r_aload c157_77 rfl (r_get c157_78 ho rfl ?_)
      refine r_iret (st := []) c157_81 ?_
      exact k
    · rw [if_neg h1] at k
      by_cases h2 : x = 2
      · rw [if_pos h2] at k
        subst h2
        refine r_aload c157_82 rfl (r_get c157_83 ho rfl ?_)
        refine r_iret (st := []) c157_86 ?_
        exact k
      · rw [if_neg h2] at k
        by_cases h3 : x = 3
        · rw [if_pos h3] at k
          subst h3
          refine r_aload c157_87 rfl (r_get c157_88 ho rfl ?_)
          refine r_iret (st := []) c157_91 ?_
          exact k
        · rw [if_neg h3] at k
          by_cases h4 : x = 4
          · rw [if_pos h4] at k
            subst h4
            refine r_aload c157_92 rfl (r_get c157_93 ho rfl ?_)
            refine r_iret (st := []) c157_96 ?_
            exact k
          · rw [if_neg h4] at k
            by_cases h5 : x = 5
            · rw [if_pos h5] at k
              have g := cnt (Or.inl h5) σ.1.2.2.1 (fun _ => rfl) (fun q => by omega) k
              subst h5
              exact g
            · rw [if_neg h5] at k
              by_cases h6 : x = 6
              · rw [if_pos h6] at k
                have g := cnt (Or.inr h6) σ.1.2.2.2 (fun q => absurd q h5) (fun _ => rfl) k
                subst h6
                exact g
              · rw [if_neg h6] at k
                have e : vfd [(0, 44), (1, 77), (2, 82), (3, 87), (4, 92), (5, 97), (6, 97)] 136 x = 136 := by
                  simp only [vfd, h0, h1, h2, h3, h4, h5, h6, if_false]
                rw [e]
                refine r_ci c157_136 ?_
                refine r_iret (st := []) c157_137 ?_
                exact k
theorem m_rem {d c : Nat} {σ : vSg} {x y : Int} {h : vHp} {Q : vQ} (hD : vMD h c σ) (hO : vOk σ) (x1 : -2147483648 ≤ x) (x2 : x ≤ 2147483647) (y1 : -2147483648 ≤ y) (y2 : y ≤ 2147483647) (k : Q (some (.int (iI (vQ_rem σ.2.2.1.1 x y)))) h) : vCall (d + 2) 0 0 158 [.ref c, .int (iI x), .int (iI y)] h Q := by
  obtain ⟨a, w, tp, ho⟩ := vMD_o hD
  have hlen := hO.2.2.1
  obtain ⟨-, -, -, ⟨f, ⟨f0, f1, f2, f3⟩, g⟩, -⟩ := hD
  unfold vQ_rem at k
  have no : ¬ (0 ≤ x ∧ 0 ≤ y ∧ y < 4 ∧ x < (σ.2.2.1.1.length : Int)) → vW (vCall (d + 1)) 158 Q 28 [.ref c, .int (iI x), .int (iI y)] [] h 0 0 := fun q => by
    have k2 : Q (some (.int (iI (-1)))) h := by
      by_cases g : 0 ≤ x ∧ 0 ≤ y ∧ y < 4
      · rw [if_pos g, List.getElem?_eq_none (by omega)] at k
        exact k
      · rw [if_neg g] at k
        exact k
    refine r_ci c158_28 ?_
    refine r_iret (st := []) c158_29 ?_
    exact k2
  refine vin 3 [_, _, _] ml_158 rfl rfl ?_
  refine r_iload c158_0 rfl (r_i2l c158_1 (by omega) (by omega) (r_cl c158_2 (r_aload c158_3 rfl (r_get c158_4 ho rfl (r_ci c158_7 (r_isub c158_8 (r_i2l c158_9 (by omega) (by omega) ?_)))))))
  refine r_is3 c158_10 vr_102 rfl (k_isIn (by constructor <;> omega) (by constructor <;> omega) (by constructor <;> omega) (fun e1 e2 => ?_) (fun e => ?_))
  · dsimp only [vpush]
    refine r_ifeq c158_13 (by omega) (by omega) (fun q => by exfalso; omega) (fun c_13 => ?_)
    refine r_iload c158_16 rfl (r_i2l c158_17 (by omega) (by omega) (r_cl c158_18 (r_cl c158_19 ?_)))
    refine r_is3 c158_22 vr_102 rfl (k_isIn (by constructor <;> omega) (by constructor <;> omega) (by constructor <;> omega) (fun g1 g2 => ?_) (fun g0 => ?_))
    · dsimp only [vpush]
      obtain ⟨n, rfl⟩ := Int.eq_ofNat_of_zero_le e1
      have hlt : n < σ.2.2.1.1.length := by omega
      rw [if_pos ⟨e1, g1, by omega⟩, Int.toNat_natCast, List.getElem?_eq_getElem hlt] at k
      have ef := g n _ (List.getElem?_eq_getElem hlt)
      rw [← ef] at k
      dsimp only at k
      refine r_ifne c158_25 (by omega) (by omega) (fun c_25 => ?_) (fun q => by exfalso; omega)
      refine r_iload c158_30 rfl ?_
      refine r_ifne c158_31 (by omega) (by omega) (fun c_31 => ?_) (fun c_31 => ?_)
      · rw [if_neg c_31] at k
        refine r_iload c158_43 rfl (r_ci c158_44 ?_)
        refine r_icne c158_45 (by omega) (by omega) (by omega) (by omega) (fun c_45 => ?_) (fun c_45 => ?_)
        · rw [if_neg c_45] at k
          refine r_iload c158_57 rfl (r_ci c158_58 ?_)
          refine r_icne c158_59 (by omega) (by omega) (by omega) (by omega) (fun c_59 => ?_) (fun c_59 => ?_)
          · rw [if_neg c_59] at k
            refine r_aload c158_71 rfl (r_get c158_72 ho rfl (r_iload c158_75 rfl (r_iald c158_76 f3 (by omega) (by omega) ?_)))
            refine r_iret (st := []) c158_77 ?_
            rw [Int.toNat_natCast]
            exact k
          · rw [if_pos c_59] at k
            refine r_aload c158_62 rfl (r_get c158_63 ho rfl (r_iload c158_66 rfl (r_iald c158_67 f2 (by omega) (by omega) (r_goto c158_68 ?_))))
            refine r_iret (st := []) c158_77 ?_
            rw [Int.toNat_natCast]
            exact k
        · rw [if_pos c_45] at k
          refine r_aload c158_48 rfl (r_get c158_49 ho rfl (r_iload c158_52 rfl (r_iald c158_53 f1 (by omega) (by omega) (r_goto c158_54 ?_))))
          refine r_iret (st := []) c158_77 ?_
          rw [Int.toNat_natCast]
          exact k
      · rw [if_pos c_31] at k
        refine r_aload c158_34 rfl (r_get c158_35 ho rfl (r_iload c158_38 rfl (r_iald c158_39 f0 (by omega) (by omega) (r_goto c158_40 ?_))))
        refine r_iret (st := []) c158_77 ?_
        rw [Int.toNat_natCast]
        exact k
    · dsimp only [vpush]
      refine r_ifne c158_25 (by omega) (by omega) (fun q => by exfalso; omega) (fun c_25 => ?_)
      exact no (by omega)
  · dsimp only [vpush]
    refine r_ifeq c158_13 (by omega) (by omega) (fun c_13 => ?_) (fun q => by exfalso; omega)
    exact no (by omega)
theorem vLi_up {f f' g g' : Nat → Int} {ls : vLst} {i : Nat} {o : Option (Nat × (Nat → Int))} (H : ∀ j, j < 4 → vLi g f j (ls j)) (hi : vLi g' f' i o) (hf : ∀ j, j ≠ i → f' j = f j) (hg : ∀ k, (k < 30 * i ∨ 30 * i + 30 ≤ k) → g' k = g k) : ∀ j, j < 4 → vLi g' f' j (vup ls i o j) := by
  intro j hj
  by_cases e : j = i
  · subst e
    rw [show vup ls j o j = o by unfold vup; exact if_pos rfl]
    exact hi
  · rw [show vup ls i o j = ls j by unfold vup; exact if_neg e]
    have h0 := H j hj
    cases hl : ls j with
    | none =>
      rw [hl] at h0
      exact (hf j e).trans h0
    | some np =>
      rw [hl] at h0
      exact ⟨(hf j e).trans h0.1, fun k hk => (hg _ (by omega)).trans (h0.2 k hk)⟩
def vfiI (G0 G1 : Nat → Int) (b : Nat) (S : Nat → Int) (i : Nat) : Prop := (∀ j, j < i → G1 (b + j) = S j) ∧ ∀ k, (k < b ∨ b + i ≤ k) → G1 k = G0 k
theorem vfiI_0 {G : Nat → Int} {b : Nat} {S : Nat → Int} : vfiI G G b S 0 := ⟨fun j hj => absurd hj (by omega), fun _ _ => rfl⟩
theorem vfiI_su {G0 G1 : Nat → Int} {b i : Nat} {S : Nat → Int} {x : Int} (hf : vfiI G0 G1 b S i) (hx : x = S i) : vfiI G0 (vup G1 (b + i) x) b S (i + 1) := by
  refine ⟨fun j hj => ?_, fun k hk => ?_⟩
  · unfold vup
    by_cases e : j = i
    · rw [if_pos (by omega), hx, e]
    · rw [if_neg (by omega)]; exact hf.1 j (by omega)
  · unfold vup
    rw [if_neg (by omega)]; exact hf.2 k (by omega)
theorem m_list {d c : Nat} {σ : vSg} {x y : Int} {h : vHp} {Q : vQ} (hD : vMD h c σ) (x1 : -2147483648 ≤ x) (x2 : x ≤ 2147483647) (y1 : -2147483648 ≤ y) (y2 : y ≤ 2147483647) (k : ∀ h', vMD h' c (vS_list σ x y) → vFr (vZd c) h h' → Q (some (.int (iI (vQ_list x y)))) h') : vCall (d + 3) 0 0 160 [.ref c, .int (iI x), .int (iI y)] h Q := by
  obtain ⟨a, w, tp, ho⟩ := vMD_o hD
  have hlo := vMD_lo hD
  have hD0 := hD
  obtain ⟨-, -, -, -, ⟨f, g, m, e1, e2, e3, e4⟩⟩ := hD
  refine vin 4 [_, _, _, _] ml_160 rfl rfl ?_
  refine r_iload c160_0 rfl ?_
  refine r_is1 c160_1 vr_159 rfl (k_mList x1 x2 (fun q1 q2 => ?_) (fun q => ?_))
  · dsimp only [vpush]
    refine r_ifne c160_4 (by omega) (by omega) (fun c_4 => ?_) (fun q => by exfalso; omega)
    refine r_iload c160_9 rfl (r_ci c160_10 ?_)
    refine r_icle c160_12 (by omega) (by omega) (by omega) (by omega) (fun c_12 => ?_) (fun c_12 => ?_)
    · refine r_iload c160_18 rfl ?_
      refine r_ifge c160_19 (by omega) (by omega) (fun c_19 => ?_) (fun c_19 => ?_)
      · have eS : vS_list σ x y = (σ.1, σ.2.1, σ.2.2.1, σ.2.2.2.1, vup σ.2.2.2.2 x.toNat (some (y.toNat, fun _ => 0))) := if_pos ⟨⟨q1, q2⟩, by omega, by omega⟩
        have eQ : vQ_list x y = 1 := (if_pos ⟨q1, q2⟩).trans ((if_neg (by omega)).trans (if_neg (by omega)))
        rw [eS, eQ] at k
        obtain ⟨i, rfl⟩ := Int.eq_ofNat_of_zero_le q1
        obtain ⟨n, rfl⟩ := Int.eq_ofNat_of_zero_le c_19
        rw [Int.toNat_natCast, Int.toNat_natCast] at k
        refine r_aload c160_25 rfl (r_get c160_26 ho rfl (r_iload c160_29 rfl (r_iload c160_30 rfl ?_)))
        refine r_iast c160_31 e1 (by omega) (by omega) (by omega) (fun h2 s2 => ?_)
        have f2 := vFr_st s2
        rw [Int.toNat_natCast] at s2
        have loop : ∀ u j : Nat, j + u = 30 → ∀ (h3 : vHp) (g3 : Nat → Int), hg h3 (c + 16) = some (.inl (0, 120, .inl g3)) → vfiI g g3 (30 * i) (fun _ => 0) j → vFr (fun q => q = c + 16) h2 h3 → vW (vCall (d + 2)) 160 Q 34 [.ref c, .int (iI (i : Int)), .int (iI (n : Int)), .int (iI (j : Int))] [] h3 0 0 := by
          intro u
          induction u with
          | zero =>
            intro j hj h3 g3 hg3 hf3 f3
            obtain rfl : j = 30 := by omega
            refine r_iload c160_34 rfl (r_ci c160_35 ?_)
            refine r_icge c160_37 (by omega) (by omega) (by omega) (by omega) (fun c_37 => ?_) (fun q => by exfalso; omega)
            refine r_ci c160_58 ?_
            refine r_iret (st := []) c160_59 ?_
            have f23 : vFr (fun q => c + 15 ≤ q ∧ q < c + 18) h h3 := vFr_tr (vFr_up f2 (fun q e => by omega)) (vFr_up f3 (fun q e => by omega))
            refine k h3 (vMD_l hD0 ⟨_, g3, m, (f3.2.2 _ (by omega)).trans s2.2.2.1, hg3, (f3.2.2 _ (by omega)).trans ((f2.2.2 _ (by omega)).trans e3), ?_⟩ f23) (vZd_l f23)
            refine vLi_up e4 ⟨?_, fun j hj => hf3.1 j hj⟩ (fun j hj => ?_) hf3.2
            · unfold vup; rw [if_pos rfl]
            · unfold vup; rw [if_neg hj]
          | succ u ih =>
            intro j hj h3 g3 hg3 hf3 f3
            have ho3 := (f3.2.2 c (by omega)).trans ((f2.2.2 c (by omega)).trans ho)
            refine r_iload c160_34 rfl (r_ci c160_35 ?_)
            refine r_icge c160_37 (by omega) (by omega) (by omega) (by omega) (fun q => by exfalso; omega) (fun c_37 => ?_)
            refine r_aload c160_40 rfl (r_get c160_41 ho3 rfl (r_ci c160_44 (r_iload c160_46 rfl (r_imul c160_47 (r_iload c160_48 rfl (r_iadd c160_49 (r_ci c160_50 ?_)))))))
            refine r_iast c160_51 hg3 (by rw [f3.1, f2.1]; omega) (by omega) (by omega) (fun h4 s4 => ?_)
            refine r_iinc c160_52 rfl rfl (r_goto c160_55 ?_)
            try dsimp only [vst]
            rw [vsu]
            rw [show ((30 : Int) * (i : Int) + (j : Int)).toNat = 30 * i + j by omega] at s4
            exact ih (j + 1) (by omega) h4 _ s4.2.2.1 (vfiI_su hf3 rfl) (vFr_tr f3 (vFr_st s4))
        have e2' := (f2.2.2 (c + 16) (by omega)).trans e2
        refine r_ci c160_32 (r_istore c160_33 rfl ?_)
        try dsimp only [vst]
        exact loop 30 0 rfl h2 g e2' vfiI_0 vFr_rf
      · have eS : vS_list σ x y = σ := if_neg (by omega)
        have eQ : vQ_list x y = -14 := (if_pos ⟨q1, q2⟩).trans ((if_neg (by omega)).trans (if_pos c_19))
        rw [eS, eQ] at k
        refine r_ci c160_22 ?_
        refine r_iret (st := []) c160_24 ?_
        exact k h hD0 vFr_rf
    · have eS : vS_list σ x y = σ := if_neg (by omega)
      have eQ : vQ_list x y = -2 := (if_pos ⟨q1, q2⟩).trans (if_pos c_12)
      rw [eS, eQ] at k
      refine r_ci c160_15 ?_
      refine r_iret (st := []) c160_17 ?_
      exact k h hD0 vFr_rf
  · dsimp only [vpush]
    have eS : vS_list σ x y = σ := if_neg (fun z => q z.1)
    have eQ : vQ_list x y = -1 := if_neg q
    rw [eS, eQ] at k
    refine r_ifne c160_4 (by omega) (by omega) (fun q => by exfalso; omega) (fun c_4 => ?_)
    refine r_ci c160_7 ?_
    refine r_iret (st := []) c160_8 ?_
    exact k h hD0 vFr_rf
theorem m_get {d c : Nat} {σ : vSg} {x y : Int} {h : vHp} {Q : vQ} (hD : vMD h c σ) (hO : vOk σ) (x1 : -2147483648 ≤ x) (x2 : x ≤ 2147483647) (y1 : -2147483648 ≤ y) (y2 : y ≤ 2147483647) (k : Q (some (.int (iI (vQ_get σ.2.2.2.2 x y)))) h) : vCall (d + 3) 0 0 162 [.ref c, .int (iI x), .int (iI y)] h Q := by
  obtain ⟨a, w, tp, ho⟩ := vMD_o hD
  obtain ⟨-, -, -, -, ⟨f, g, m, e1, e2, e3, e4⟩⟩ := hD
  unfold vQ_get at k
  have no : Q (some (.int (iI (-2000000000)))) h → vW (vCall (d + 2)) 162 Q 39 [.ref c, .int (iI x), .int (iI y)] [] h 0 0 := fun q => by
    refine r_ci c162_39 ?_
    refine r_iret (st := []) c162_41 ?_
    exact q
  refine vin 3 [_, _, _] ml_162 rfl rfl ?_
  refine r_iload c162_0 rfl ?_
  refine r_is1 c162_1 vr_159 rfl (k_mList x1 x2 (fun q1 q2 => ?_) (fun q => ?_))
  · dsimp only [vpush]
    rw [if_pos ⟨q1, q2⟩] at k
    obtain ⟨i, rfl⟩ := Int.eq_ofNat_of_zero_le q1
    rw [Int.toNat_natCast] at k
    have h4 := e4 i (by omega)
    refine r_ifeq c162_4 (by omega) (by omega) (fun q => by exfalso; omega) (fun c_4 => ?_)
    refine r_iload c162_7 rfl (r_i2l c162_8 (by omega) (by omega) (r_cl c162_9 (r_aload c162_10 rfl (r_get c162_11 ho rfl (r_iload c162_14 rfl (r_iald c162_15 e1 (by omega) (by omega) ?_))))))
    rw [Int.toNat_natCast]
    cases hl : σ.2.2.2.2 i with
    | none =>
      rw [hl] at k h4
      rw [show f i = -1 from h4]
      refine r_ci c162_16 (r_isub c162_17 (r_i2l c162_18 (by omega) (by omega) ?_))
      refine r_is3 c162_19 vr_102 rfl (k_isIn (by constructor <;> omega) (by constructor <;> omega) (by constructor <;> omega) (fun g1 g2 => ?_) (fun g0 => ?_))
      · exfalso; omega
      · dsimp only [vpush]
        refine r_ifeq c162_22 (by omega) (by omega) (fun c_22 => ?_) (fun q => by exfalso; omega)
        exact no k
    | some np =>
      obtain ⟨n, p⟩ := np
      have hn := (hO.2.2.2.2.1 i n p (by omega) hl).1
      rw [hl] at k h4
      rw [h4.1]
      refine r_ci c162_16 (r_isub c162_17 (r_i2l c162_18 (by omega) (by omega) ?_))
      refine r_is3 c162_19 vr_102 rfl (k_isIn (by constructor <;> omega) (by constructor <;> omega) (by constructor <;> omega) (fun g1 g2 => ?_) (fun g0 => ?_))
      · dsimp only [vpush]
        obtain ⟨j, rfl⟩ := Int.eq_ofNat_of_zero_le g1
        rw [show vhl (some (n, p)) (j : Int) = some (p j) from (if_pos (by omega))] at k
        refine r_ifeq c162_22 (by omega) (by omega) (fun q => by exfalso; omega) (fun c_22 => ?_)
        refine r_aload c162_25 rfl (r_get c162_26 ho rfl (r_ci c162_29 (r_iload c162_31 rfl (r_imul c162_32 (r_iload c162_33 rfl (r_iadd c162_34 (r_iald c162_35 e2 (by omega) (by omega) (r_goto c162_36 ?_))))))))
        rw [show ((30 : Int) * (i : Int) + (j : Int)).toNat = 30 * i + j by omega, h4.2 j (by omega)]
        refine r_iret (st := []) c162_41 ?_
        exact k
      · dsimp only [vpush]
        rw [show vhl (some (n, p)) y = none from (if_neg (by omega))] at k
        refine r_ifeq c162_22 (by omega) (by omega) (fun c_22 => ?_) (fun q => by exfalso; omega)
        exact no k
  · dsimp only [vpush]
    rw [if_neg q] at k
    refine r_ifeq c162_4 (by omega) (by omega) (fun c_4 => ?_) (fun q => by exfalso; omega)
    exact no k
theorem m_put {d c : Nat} {σ : vSg} {x y z : Int} {h : vHp} {Q : vQ} (hD : vMD h c σ) (hO : vOk σ) (x1 : -2147483648 ≤ x) (x2 : x ≤ 2147483647) (y1 : -2147483648 ≤ y) (y2 : y ≤ 2147483647) (k : ∀ h', vMD h' c (vS_put σ x y z) → vFr (vZd c) h h' → Q (some (.int (iI (vQ_put σ.2.2.2.2 x y)))) h') : vCall (d + 3) 0 0 161 [.ref c, .int (iI x), .int (iI y), .int (iI z)] h Q := by
  obtain ⟨a, w, tp, ho⟩ := vMD_o hD
  have hlo := vMD_lo hD
  have hD0 := hD
  obtain ⟨-, -, -, -, ⟨f, g, m, e1, e2, e3, e4⟩⟩ := hD
  refine vin 4 [_, _, _, _] ml_161 rfl rfl ?_
  refine r_iload c161_0 rfl ?_
  refine r_is1 c161_1 vr_159 rfl (k_mList x1 x2 (fun q1 q2 => ?_) (fun q => ?_))
  · dsimp only [vpush]
    obtain ⟨i, rfl⟩ := Int.eq_ofNat_of_zero_le q1
    have h4 := e4 i (by omega)
    refine r_ifne c161_4 (by omega) (by omega) (fun c_4 => ?_) (fun q => by exfalso; omega)
    refine r_aload c161_9 rfl (r_get c161_10 ho rfl (r_iload c161_13 rfl (r_iald c161_14 e1 (by omega) (by omega) ?_)))
    rw [Int.toNat_natCast]
    cases hl : σ.2.2.2.2 i with
    | none =>
      rw [hl] at h4
      rw [show f i = -1 from h4]
      have eS : vS_put σ (i : Int) y z = σ := by unfold vS_put; rw [if_pos ⟨q1, q2⟩, Int.toNat_natCast, hl]
      have eQ : vQ_put σ.2.2.2.2 (i : Int) y = -11 := by unfold vQ_put; rw [if_pos ⟨q1, q2⟩, Int.toNat_natCast, hl]
      rw [eS, eQ] at k
      refine r_ifge c161_15 (by omega) (by omega) (fun q => by exfalso; omega) (fun c_15 => ?_)
      refine r_ci c161_18 ?_
      refine r_iret (st := []) c161_20 ?_
      exact k h hD0 vFr_rf
    | some np =>
      obtain ⟨n, p⟩ := np
      have hn := (hO.2.2.2.2.1 i n p (by omega) hl).1
      rw [hl] at h4
      have eS0 : vS_put σ (i : Int) y z = (if 0 ≤ y ∧ y < n then vLu σ i (some (n, vup p y.toNat z)) else σ) := by unfold vS_put; rw [if_pos ⟨q1, q2⟩, Int.toNat_natCast, hl]
      have eQ0 : vQ_put σ.2.2.2.2 (i : Int) y = (if 0 ≤ y ∧ y < n then 1 else -13) := by unfold vQ_put; rw [if_pos ⟨q1, q2⟩, Int.toNat_natCast, hl]
      rw [h4.1]
      refine r_ifge c161_15 (by omega) (by omega) (fun c_15 => ?_) (fun q => by exfalso; omega)
      refine r_iload c161_21 rfl (r_i2l c161_22 (by omega) (by omega) (r_cl c161_23 (r_aload c161_24 rfl (r_get c161_25 ho rfl (r_iload c161_28 rfl (r_iald c161_29 e1 (by omega) (by omega) ?_))))))
      rw [Int.toNat_natCast, h4.1]
      refine r_ci c161_30 (r_isub c161_31 (r_i2l c161_32 (by omega) (by omega) ?_))
      refine r_is3 c161_33 vr_102 rfl (k_isIn (by constructor <;> omega) (by constructor <;> omega) (by constructor <;> omega) (fun g1 g2 => ?_) (fun g0 => ?_))
      · dsimp only [vpush]
        obtain ⟨j, rfl⟩ := Int.eq_ofNat_of_zero_le g1
        rw [eS0.trans (if_pos ⟨by omega, by omega⟩), eQ0.trans (if_pos ⟨by omega, by omega⟩), Int.toNat_natCast] at k
        refine r_ifne c161_36 (by omega) (by omega) (fun c_36 => ?_) (fun q => by exfalso; omega)
        refine r_aload c161_42 rfl (r_get c161_43 ho rfl (r_ci c161_46 (r_iload c161_48 rfl (r_imul c161_49 (r_iload c161_50 rfl (r_iadd c161_51 (r_iload c161_52 rfl ?_)))))))
        refine r_iast c161_53 e2 (by omega) (by omega) (by omega) (fun h2 s2 => ?_)
        rw [show ((30 : Int) * (i : Int) + (j : Int)).toNat = 30 * i + j by omega] at s2
        have f2 : vFr (fun q => c + 15 ≤ q ∧ q < c + 18) h h2 := vFr_up (vFr_st s2) (fun q e => by omega)
        refine r_ci c161_54 ?_
        refine r_iret (st := []) c161_55 ?_
        refine k h2 (vMD_l hD0 ⟨f, _, m, (s2.2.2.2 _ (by omega)).trans e1, s2.2.2.1, (s2.2.2.2 _ (by omega)).trans e3, ?_⟩ f2) (vZd_l f2)
        refine vLi_up e4 ⟨h4.1, fun t ht => ?_⟩ (fun t ht => rfl) (fun t ht => ?_)
        · unfold vup
          by_cases e : t = j
          · rw [if_pos (by omega), if_pos e]
          · rw [if_neg (by omega), if_neg e]; exact h4.2 t ht
        · unfold vup
          rw [if_neg (by omega)]
      · dsimp only [vpush]
        rw [eS0.trans (if_neg (by omega)), eQ0.trans (if_neg (by omega))] at k
        refine r_ifne c161_36 (by omega) (by omega) (fun q => by exfalso; omega) (fun c_36 => ?_)
        refine r_ci c161_39 ?_
        refine r_iret (st := []) c161_41 ?_
        exact k h hD0 vFr_rf
  · dsimp only [vpush]
    have eS : vS_put σ x y z = σ := if_neg q
    have eQ : vQ_put σ.2.2.2.2 x y = -1 := if_neg q
    rw [eS, eQ] at k
    refine r_ifne c161_4 (by omega) (by omega) (fun q => by exfalso; omega) (fun c_4 => ?_)
    refine r_ci c161_7 ?_
    refine r_iret (st := []) c161_8 ?_
    exact k h hD0 vFr_rf

