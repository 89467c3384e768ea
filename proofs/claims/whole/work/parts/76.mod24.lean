theorem ml_105 : vml 105 = 4 := by decide +kernel
theorem ml_108 : vml 108 = 2 := by decide +kernel
theorem ml_109 : vml 109 = 2 := by decide +kernel
theorem ml_126 : vml 126 = 5 := by decide +kernel
theorem ml_167 : vml 167 = 1 := by decide +kernel
theorem ml_168 : vml 168 = 1 := by decide +kernel
theorem vr_105 : vrc 105 = some (6, 3) := by decide +kernel
theorem vr_157 : vrc 157 = some (6, 1) := by decide +kernel
theorem c105_0 : vlk 105 0 = some (1, 0, 0, 0, 1) := by decide +kernel
theorem c105_1 : vlk 105 1 = some (7, 3, 0, 0, 2) := by decide +kernel
theorem c105_2 : vlk 105 2 = some (4, 3, 0, 0, 3) := by decide +kernel
theorem c105_3 : vlk 105 3 = some (4, 2, 0, 0, 4) := by decide +kernel
theorem c105_4 : vlk 105 4 = some (79, 19, 0, 0, 7) := by decide +kernel
theorem c105_7 : vlk 105 7 = some (6, 1, 0, 0, 8) := by decide +kernel
theorem c105_8 : vlk 105 8 = some (4, 3, 0, 0, 9) := by decide +kernel
theorem c105_9 : vlk 105 9 = some (6, 0, 0, 0, 10) := by decide +kernel
theorem c105_10 : vlk 105 10 = some (4, 3, 0, 0, 11) := by decide +kernel
theorem c105_11 : vlk 105 11 = some (47, 0, 0, 0, 12) := by decide +kernel
theorem c105_12 : vlk 105 12 = some (51, 0, 0, 0, 13) := by decide +kernel
theorem c105_13 : vlk 105 13 = some (10, 3, 0, 1, 16) := by decide +kernel
theorem c105_16 : vlk 105 16 = some (37, 2, 0, 0, 19) := by decide +kernel
theorem c105_19 : vlk 105 19 = some (66, 0, 0, 0, 20) := by decide +kernel
theorem c108_0 : vlk 108 0 = some (4, 1, 0, 0, 1) := by decide +kernel
theorem c108_1 : vlk 108 1 = some (32, 0, 0, 0, 2) := by decide +kernel
theorem c108_2 : vlk 108 2 = some (2, 0, 0, 1, 3) := by decide +kernel
theorem c108_3 : vlk 108 3 = some (2, 0, 0, 127, 6) := by decide +kernel
theorem c108_6 : vlk 108 6 = some (59, 102, 0, 0, 9) := by decide +kernel
theorem c108_9 : vlk 108 9 = some (71, 15, 0, 0, 12) := by decide +kernel
theorem c108_12 : vlk 108 12 = some (1, 0, 0, (-2), 14) := by decide +kernel
theorem c108_14 : vlk 108 14 = some (63, 0, 0, 0, 15) := by decide +kernel
theorem c108_15 : vlk 108 15 = some (6, 0, 0, 0, 16) := by decide +kernel
theorem c108_16 : vlk 108 16 = some (42, 6, 10, 0, 19) := by decide +kernel
theorem c108_19 : vlk 108 19 = some (1, 0, 0, 80, 21) := by decide +kernel
theorem c108_24 : vlk 108 24 = some (1, 0, 0, (-4), 26) := by decide +kernel
theorem c108_26 : vlk 108 26 = some (63, 0, 0, 0, 27) := by decide +kernel
theorem c108_27 : vlk 108 27 = some (6, 0, 0, 0, 28) := by decide +kernel
theorem c108_28 : vlk 108 28 = some (42, 6, 9, 0, 31) := by decide +kernel
theorem c108_31 : vlk 108 31 = some (6, 0, 0, 0, 32) := by decide +kernel
theorem c108_32 : vlk 108 32 = some (42, 6, 10, 0, 35) := by decide +kernel
theorem c108_35 : vlk 108 35 = some (4, 1, 0, 0, 36) := by decide +kernel
theorem c108_36 : vlk 108 36 = some (49, 0, 0, 0, 37) := by decide +kernel
theorem c108_37 : vlk 108 37 = some (6, 0, 0, 0, 38) := by decide +kernel
theorem c108_38 : vlk 108 38 = some (34, 0, 0, 0, 39) := by decide +kernel
theorem c108_39 : vlk 108 39 = some (42, 6, 10, 0, 42) := by decide +kernel
theorem c108_42 : vlk 108 42 = some (1, 0, 0, 1, 43) := by decide +kernel
theorem c108_43 : vlk 108 43 = some (11, 0, 0, 0, 44) := by decide +kernel
theorem c108_44 : vlk 108 44 = some (43, 6, 10, 0, 47) := by decide +kernel
theorem c108_47 : vlk 108 47 = some (6, 0, 0, 0, 48) := by decide +kernel
theorem c108_48 : vlk 108 48 = some (42, 6, 10, 0, 51) := by decide +kernel
theorem c108_51 : vlk 108 51 = some (63, 0, 0, 0, 52) := by decide +kernel
theorem c109_0 : vlk 109 0 = some (6, 0, 0, 0, 1) := by decide +kernel
theorem c109_1 : vlk 109 1 = some (42, 6, 10, 0, 4) := by decide +kernel
theorem c109_4 : vlk 109 4 = some (7, 1, 0, 0, 5) := by decide +kernel
theorem c109_5 : vlk 109 5 = some (6, 0, 0, 0, 6) := by decide +kernel
theorem c109_6 : vlk 109 6 = some (1, 0, 0, 0, 7) := by decide +kernel
theorem c109_7 : vlk 109 7 = some (43, 6, 10, 0, 10) := by decide +kernel
theorem c109_10 : vlk 109 10 = some (4, 1, 0, 0, 11) := by decide +kernel
theorem c109_11 : vlk 109 11 = some (63, 0, 0, 0, 12) := by decide +kernel
theorem c126_0 : vlk 126 0 = some (4, 1, 0, 0, 1) := by decide +kernel
theorem c126_1 : vlk 126 1 = some (59, 103, 0, 0, 4) := by decide +kernel
theorem c126_4 : vlk 126 4 = some (71, 9, 0, 0, 7) := by decide +kernel
theorem c126_7 : vlk 126 7 = some (1, 0, 0, (-1), 8) := by decide +kernel
theorem c126_8 : vlk 126 8 = some (63, 0, 0, 0, 9) := by decide +kernel
theorem c126_9 : vlk 126 9 = some (6, 0, 0, 0, 10) := by decide +kernel
theorem c126_10 : vlk 126 10 = some (1, 0, 0, 0, 11) := by decide +kernel
theorem c126_11 : vlk 126 11 = some (43, 6, 11, 0, 14) := by decide +kernel
theorem c126_14 : vlk 126 14 = some (6, 0, 0, 0, 15) := by decide +kernel
theorem c126_15 : vlk 126 15 = some (1, 0, 0, 1, 16) := by decide +kernel
theorem c126_16 : vlk 126 16 = some (43, 6, 12, 0, 19) := by decide +kernel
theorem c126_19 : vlk 126 19 = some (6, 0, 0, 0, 20) := by decide +kernel
theorem c126_20 : vlk 126 20 = some (1, 0, 0, 0, 21) := by decide +kernel
theorem c126_21 : vlk 126 21 = some (43, 6, 14, 0, 24) := by decide +kernel
theorem c126_24 : vlk 126 24 = some (6, 0, 0, 0, 25) := by decide +kernel
theorem c126_25 : vlk 126 25 = some (1, 0, 0, 0, 26) := by decide +kernel
theorem c126_26 : vlk 126 26 = some (58, 115, 0, 0, 29) := by decide +kernel
theorem c126_29 : vlk 126 29 = some (7, 2, 0, 0, 30) := by decide +kernel
theorem c126_30 : vlk 126 30 = some (6, 0, 0, 0, 31) := by decide +kernel
theorem c126_31 : vlk 126 31 = some (42, 6, 12, 0, 34) := by decide +kernel
theorem c126_37 : vlk 126 37 = some (6, 0, 0, 0, 38) := by decide +kernel
theorem c126_38 : vlk 126 38 = some (42, 6, 11, 0, 41) := by decide +kernel
theorem c126_41 : vlk 126 41 = some (6, 0, 0, 0, 42) := by decide +kernel
theorem c126_42 : vlk 126 42 = some (42, 6, 10, 0, 45) := by decide +kernel
theorem c126_48 : vlk 126 48 = some (1, 0, 0, 1, 49) := by decide +kernel
theorem c126_49 : vlk 126 49 = some (37, 53, 0, 0, 52) := by decide +kernel
theorem c126_52 : vlk 126 52 = some (1, 0, 0, 0, 53) := by decide +kernel
theorem c126_53 : vlk 126 53 = some (7, 3, 0, 0, 54) := by decide +kernel
theorem c126_54 : vlk 126 54 = some (6, 0, 0, 0, 55) := by decide +kernel
theorem c126_55 : vlk 126 55 = some (1, 0, 0, 0, 56) := by decide +kernel
theorem c126_56 : vlk 126 56 = some (43, 6, 10, 0, 59) := by decide +kernel
theorem c126_59 : vlk 126 59 = some (4, 3, 0, 0, 60) := by decide +kernel
theorem c126_63 : vlk 126 63 = some (1, 0, 0, (-100), 65) := by decide +kernel
theorem c126_65 : vlk 126 65 = some (6, 0, 0, 0, 66) := by decide +kernel
theorem c126_66 : vlk 126 66 = some (42, 6, 11, 0, 69) := by decide +kernel
theorem c126_69 : vlk 126 69 = some (12, 0, 0, 0, 70) := by decide +kernel
theorem c126_70 : vlk 126 70 = some (63, 0, 0, 0, 71) := by decide +kernel
theorem c126_71 : vlk 126 71 = some (1, 0, 0, 0, 72) := by decide +kernel
theorem c126_72 : vlk 126 72 = some (7, 4, 0, 0, 74) := by decide +kernel
theorem c126_74 : vlk 126 74 = some (4, 4, 0, 0, 76) := by decide +kernel
theorem c126_76 : vlk 126 76 = some (1, 0, 0, 720, 79) := by decide +kernel
theorem c126_79 : vlk 126 79 = some (79, 110, 0, 0, 82) := by decide +kernel
theorem c126_82 : vlk 126 82 = some (6, 0, 0, 0, 83) := by decide +kernel
theorem c126_83 : vlk 126 83 = some (42, 6, 1, 0, 86) := by decide +kernel
theorem c126_86 : vlk 126 86 = some (1, 0, 0, 720, 89) := by decide +kernel
theorem c126_89 : vlk 126 89 = some (4, 1, 0, 0, 90) := by decide +kernel
theorem c126_90 : vlk 126 90 = some (13, 0, 0, 0, 91) := by decide +kernel
theorem c126_91 : vlk 126 91 = some (4, 4, 0, 0, 93) := by decide +kernel
theorem c126_93 : vlk 126 93 = some (11, 0, 0, 0, 94) := by decide +kernel
theorem c126_94 : vlk 126 94 = some (6, 0, 0, 0, 95) := by decide +kernel
theorem c126_95 : vlk 126 95 = some (42, 6, 13, 0, 98) := by decide +kernel
theorem c126_98 : vlk 126 98 = some (4, 2, 0, 0, 99) := by decide +kernel
theorem c126_99 : vlk 126 99 = some (4, 4, 0, 0, 101) := by decide +kernel
theorem c126_101 : vlk 126 101 = some (11, 0, 0, 0, 102) := by decide +kernel
theorem c126_102 : vlk 126 102 = some (47, 0, 0, 0, 103) := by decide +kernel
theorem c126_103 : vlk 126 103 = some (51, 0, 0, 0, 104) := by decide +kernel
theorem c126_104 : vlk 126 104 = some (10, 4, 0, 1, 107) := by decide +kernel
theorem c126_107 : vlk 126 107 = some (37, 74, 0, 0, 110) := by decide +kernel
theorem c126_110 : vlk 126 110 = some (6, 0, 0, 0, 111) := by decide +kernel
theorem c126_111 : vlk 126 111 = some (42, 6, 0, 0, 114) := by decide +kernel
theorem c126_114 : vlk 126 114 = some (4, 1, 0, 0, 115) := by decide +kernel
theorem c126_115 : vlk 126 115 = some (1, 0, 0, 1, 116) := by decide +kernel
theorem c126_116 : vlk 126 116 = some (51, 0, 0, 0, 117) := by decide +kernel
theorem c126_117 : vlk 126 117 = some (6, 0, 0, 0, 118) := by decide +kernel
theorem c126_118 : vlk 126 118 = some (4, 1, 0, 0, 119) := by decide +kernel
theorem c126_119 : vlk 126 119 = some (58, 125, 0, 0, 122) := by decide +kernel
theorem c126_122 : vlk 126 122 = some (6, 0, 0, 0, 123) := by decide +kernel
theorem c126_123 : vlk 126 123 = some (42, 6, 1, 0, 126) := by decide +kernel
theorem c126_126 : vlk 126 126 = some (4, 1, 0, 0, 127) := by decide +kernel
theorem c126_127 : vlk 126 127 = some (59, 107, 0, 0, 130) := by decide +kernel
theorem c126_130 : vlk 126 130 = some (63, 0, 0, 0, 131) := by decide +kernel
theorem c167_0 : vlk 167 0 = some (6, 0, 0, 0, 1) := by decide +kernel
theorem c167_1 : vlk 167 1 = some (42, 6, 0, 0, 4) := by decide +kernel
theorem c167_4 : vlk 167 4 = some (6, 0, 0, 0, 5) := by decide +kernel
theorem c167_5 : vlk 167 5 = some (42, 6, 4, 0, 8) := by decide +kernel
theorem c167_8 : vlk 167 8 = some (1, 0, 0, 10, 10) := by decide +kernel
theorem c167_10 : vlk 167 10 = some (59, 105, 0, 0, 13) := by decide +kernel
theorem c167_13 : vlk 167 13 = some (6, 0, 0, 0, 14) := by decide +kernel
theorem c167_14 : vlk 167 14 = some (42, 6, 1, 0, 17) := by decide +kernel
theorem c167_17 : vlk 167 17 = some (6, 0, 0, 0, 18) := by decide +kernel
theorem c167_18 : vlk 167 18 = some (42, 6, 5, 0, 21) := by decide +kernel
theorem c167_21 : vlk 167 21 = some (1, 0, 0, 7200, 24) := by decide +kernel
theorem c167_24 : vlk 167 24 = some (59, 105, 0, 0, 27) := by decide +kernel
theorem c167_27 : vlk 167 27 = some (6, 0, 0, 0, 28) := by decide +kernel
theorem c167_28 : vlk 167 28 = some (42, 6, 2, 0, 31) := by decide +kernel
theorem c167_31 : vlk 167 31 = some (6, 0, 0, 0, 32) := by decide +kernel
theorem c167_32 : vlk 167 32 = some (42, 6, 6, 0, 35) := by decide +kernel
theorem c167_35 : vlk 167 35 = some (1, 0, 0, 7200, 38) := by decide +kernel
theorem c167_38 : vlk 167 38 = some (59, 105, 0, 0, 41) := by decide +kernel
theorem c167_41 : vlk 167 41 = some (6, 0, 0, 0, 42) := by decide +kernel
theorem c167_42 : vlk 167 42 = some (42, 6, 3, 0, 45) := by decide +kernel
theorem c167_45 : vlk 167 45 = some (6, 0, 0, 0, 46) := by decide +kernel
theorem c167_46 : vlk 167 46 = some (42, 6, 7, 0, 49) := by decide +kernel
theorem c167_49 : vlk 167 49 = some (1, 0, 0, 7200, 52) := by decide +kernel
theorem c167_52 : vlk 167 52 = some (59, 105, 0, 0, 55) := by decide +kernel
theorem c167_55 : vlk 167 55 = some (6, 0, 0, 0, 56) := by decide +kernel
theorem c167_56 : vlk 167 56 = some (1, 0, 0, 1, 57) := by decide +kernel
theorem c167_57 : vlk 167 57 = some (43, 6, 8, 0, 60) := by decide +kernel
theorem c167_60 : vlk 167 60 = some (6, 0, 0, 0, 61) := by decide +kernel
theorem c167_61 : vlk 167 61 = some (1, 0, 0, 0, 62) := by decide +kernel
theorem c167_62 : vlk 167 62 = some (58, 157, 0, 0, 65) := by decide +kernel
theorem c167_65 : vlk 167 65 = some (63, 0, 0, 0, 66) := by decide +kernel
theorem c168_0 : vlk 168 0 = some (6, 0, 0, 0, 1) := by decide +kernel
theorem c168_1 : vlk 168 1 = some (42, 6, 8, 0, 4) := by decide +kernel
theorem c168_7 : vlk 168 7 = some (1, 0, 0, (-3), 9) := by decide +kernel
theorem c168_9 : vlk 168 9 = some (63, 0, 0, 0, 10) := by decide +kernel
theorem c168_10 : vlk 168 10 = some (6, 0, 0, 0, 11) := by decide +kernel
theorem c168_11 : vlk 168 11 = some (42, 6, 4, 0, 14) := by decide +kernel
theorem c168_14 : vlk 168 14 = some (6, 0, 0, 0, 15) := by decide +kernel
theorem c168_15 : vlk 168 15 = some (42, 6, 0, 0, 18) := by decide +kernel
theorem c168_18 : vlk 168 18 = some (1, 0, 0, 10, 20) := by decide +kernel
theorem c168_20 : vlk 168 20 = some (59, 105, 0, 0, 23) := by decide +kernel
theorem c168_23 : vlk 168 23 = some (6, 0, 0, 0, 24) := by decide +kernel
theorem c168_24 : vlk 168 24 = some (42, 6, 5, 0, 27) := by decide +kernel
theorem c168_27 : vlk 168 27 = some (6, 0, 0, 0, 28) := by decide +kernel
theorem c168_28 : vlk 168 28 = some (42, 6, 1, 0, 31) := by decide +kernel
theorem c168_31 : vlk 168 31 = some (1, 0, 0, 7200, 34) := by decide +kernel
theorem c168_34 : vlk 168 34 = some (59, 105, 0, 0, 37) := by decide +kernel
theorem c168_37 : vlk 168 37 = some (6, 0, 0, 0, 38) := by decide +kernel
theorem c168_38 : vlk 168 38 = some (42, 6, 6, 0, 41) := by decide +kernel
theorem c168_41 : vlk 168 41 = some (6, 0, 0, 0, 42) := by decide +kernel
theorem c168_42 : vlk 168 42 = some (42, 6, 2, 0, 45) := by decide +kernel
theorem c168_45 : vlk 168 45 = some (1, 0, 0, 7200, 48) := by decide +kernel
theorem c168_48 : vlk 168 48 = some (59, 105, 0, 0, 51) := by decide +kernel
theorem c168_51 : vlk 168 51 = some (6, 0, 0, 0, 52) := by decide +kernel
theorem c168_52 : vlk 168 52 = some (42, 6, 7, 0, 55) := by decide +kernel
theorem c168_55 : vlk 168 55 = some (6, 0, 0, 0, 56) := by decide +kernel
theorem c168_56 : vlk 168 56 = some (42, 6, 3, 0, 59) := by decide +kernel
theorem c168_59 : vlk 168 59 = some (1, 0, 0, 7200, 62) := by decide +kernel
theorem c168_62 : vlk 168 62 = some (59, 105, 0, 0, 65) := by decide +kernel
theorem c168_65 : vlk 168 65 = some (6, 0, 0, 0, 66) := by decide +kernel
theorem c168_66 : vlk 168 66 = some (1, 0, 0, 0, 67) := by decide +kernel
theorem c168_67 : vlk 168 67 = some (43, 6, 15, 0, 70) := by decide +kernel
theorem c168_70 : vlk 168 70 = some (6, 0, 0, 0, 71) := by decide +kernel
theorem c168_71 : vlk 168 71 = some (1, 0, 0, 0, 72) := by decide +kernel
theorem c168_72 : vlk 168 72 = some (58, 157, 0, 0, 75) := by decide +kernel
theorem c168_75 : vlk 168 75 = some (63, 0, 0, 0, 76) := by decide +kernel
/-! the reference: the tape, rules, the image -/
theorem vMD_t {h h1 : vHp} {c n a tp : Nat} {w : Bool} {t : Nat → Int} {σ : vSg} (hD : vMD h c σ) (ho : hg h1 c = some (.inr (6, vMF c σ.2.1.1 n a w tp σ.2.2.1.1.length σ.2.2.1.2.1 σ.2.2.1.2.2))) (ht : hg h1 (c + 9) = some (.inl (0, 80, .inl t))) (hG : ∃ G, vBr h1 (c + 10) 36000 G) (hT : vTp n t) (f : vFr (fun q => q = c ∨ q = c + 9 ∨ q = c + 10) h h1) : vMD h1 c (σ.1, σ.2.1, σ.2.2.1, (n, t), σ.2.2.2.2) := by
  obtain ⟨⟨a0, w0, tp0, G0, b1, b2, b3, ⟨b4, b5, b6⟩, b7, b8⟩, hr, htt, hs, hl⟩ := hD
  obtain ⟨G, hG⟩ := hG
  exact ⟨⟨a, w, tp, G, ho, hG, ht, ⟨vBr_fr b4 f (by omega), vBr_fr b5 f (by omega), vBr_fr b6 f (by omega)⟩, by rw [f.1]; exact b7, hT⟩, vBr_fr hr f (by omega), vMt_fr htt f (fun q e1 e2 => by omega), vMs_fr hs f (fun q e1 e2 => by omega), vMl_fr hl f (fun q e1 e2 => by omega)⟩
theorem vZd_t {c : Nat} {h h1 : vHp} (f : vFr (fun q => q = c ∨ q = c + 9 ∨ q = c + 10) h h1) : vFr (vZd c) h h1 := vFr_up f (fun q e => by unfold vZd; omega)
theorem m_feed {d c : Nat} {σ : vSg} {x : Int} {h : vHp} {Q : vQ} (hD : vMD h c σ) (x1 : -2147483648 ≤ x) (x2 : x ≤ 2147483647) (k : ∀ h', vMD h' c (vS_feed σ x) → vFr (vZd c) h h' → Q (some (.int (iI (vQ_feed σ x)))) h') : vCall (d + 2) 0 0 108 [.ref c, .int (iI x)] h Q := by
  have hD0 := hD
  obtain ⟨⟨a, w, tp, G, ho, hG, ht, -, hlo, hT⟩, -⟩ := hD
  have hn : σ.2.2.2.1.1 ≤ 80 := hT.1
  refine vin 2 [_, _] ml_108 rfl rfl ?_
  refine r_iload c108_0 rfl (r_i2l c108_1 (by omega) (by omega) (r_cl c108_2 (r_cl c108_3 ?_)))
  refine r_is3 c108_6 vr_102 rfl (k_isIn (by constructor <;> omega) (by constructor <;> omega) (by constructor <;> omega) (fun e1 e2 => ?_) (fun e => ?_))
  · dsimp only [vpush]
    refine r_ifne c108_9 (by omega) (by omega) (fun c_9 => ?_) (fun q => by exfalso; omega)
    refine r_aload c108_15 rfl (r_get c108_16 ho rfl (r_ci c108_19 ?_))
    refine r_icne (by decide +kernel : vlk 108 21 = some (77, 27, 0, 0, 24)) (by show _ ≤ ((σ.2.2.2.1.1 : Nat) : Int); omega) (by show ((σ.2.2.2.1.1 : Nat) : Int) ≤ _; omega) (by decide) (by decide) (fun ne => ?_) (fun eq => ?_)
    · have hne : σ.2.2.2.1.1 ≠ 80 := fun q => ne (by show ((σ.2.2.2.1.1 : Nat) : Int) = 80; omega)
      have eS : vS_feed σ x = (σ.1, σ.2.1, σ.2.2.1, (σ.2.2.2.1.1 + 1, vup σ.2.2.2.1.2 σ.2.2.2.1.1 x), σ.2.2.2.2) := (if_pos ⟨e1, e2⟩).trans (if_neg hne)
      have eQ : vQ_feed σ x = ((σ.2.2.2.1.1 + 1 : Nat) : Int) := (if_pos ⟨e1, e2⟩).trans (if_neg hne)
      rw [eS, eQ] at k
      have ht2 : hg h (c + 9) = some (.inl (0, 80, .inl σ.2.2.2.1.2)) := ht
      have ho2 : hg h c = some (.inr (6, vMF c σ.2.1.1 σ.2.2.2.1.1 a w tp σ.2.2.1.1.length σ.2.2.1.2.1 σ.2.2.1.2.2)) := ho
      have hT2 : vTp σ.2.2.2.1.1 σ.2.2.2.1.2 := hT
      generalize hN : σ.2.2.2.1.1 = n at *
      generalize hTt : σ.2.2.2.1.2 = t at *
      refine r_aload c108_27 rfl (r_get c108_28 ho2 rfl (r_aload c108_31 rfl (r_get c108_32 ho2 rfl (r_iload c108_35 rfl ?_))))
      refine r_iast c108_36 ht2 (by omega) (by omega) (by omega) (fun h2 s2 => ?_)
      have ho3 := (s2.2.2.2 c (by omega)).trans ho2
      refine r_aload c108_37 rfl (r_dup c108_38 rfl (r_get c108_39 ho3 rfl (r_ci c108_42 (r_iadd c108_43 ?_))))
      refine r_put c108_44 ho3 (by rw [s2.1]; exact hlo) rfl ⟨rfl, rfl⟩ (fun h3 s3 => ?_)
      rw [vsu] at s3
      have f3 : vFr (fun q => q = c ∨ q = c + 9 ∨ q = c + 10) h h3 := vFr_tr (vFr_up (vFr_st s2) (fun q e => by omega)) (vFr_up (vFr_st s3) (fun q e => by omega))
      have ho4 : hg h3 c = some (.inr (6, vMF c σ.2.1.1 (n + 1) a w tp σ.2.2.1.1.length σ.2.2.1.2.1 σ.2.2.1.2.2)) := s3.2.2.1
      refine r_aload c108_47 rfl (r_get c108_48 ho4 rfl ?_)
      refine r_iret (st := []) c108_51 ?_
      refine k h3 (vMD_t hD0 ho4 ?_ ⟨G, vBr_fr (vBr_fr hG (vFr_st s2) (by omega)) (vFr_st s3) (by omega)⟩ ⟨by omega, fun i hi => ?_⟩ f3) (vZd_t f3)
      · have := (s3.2.2.2 (c + 9) (by omega)).trans s2.2.2.1
        rw [Int.toNat_natCast] at this
        exact this
      · unfold vup
        by_cases e : i = n
        · rw [if_pos e]; omega
        · rw [if_neg e]; exact hT2.2 i (by omega)
    · have hee : σ.2.2.2.1.1 = 80 := by
        have q : ((σ.2.2.2.1.1 : Nat) : Int) = 80 := eq
        omega
      have eS : vS_feed σ x = σ := (if_pos ⟨e1, e2⟩).trans (if_pos hee)
      have eQ : vQ_feed σ x = -4 := (if_pos ⟨e1, e2⟩).trans (if_pos hee)
      rw [eS, eQ] at k
      refine r_ci c108_24 ?_
      refine r_iret (st := []) c108_26 ?_
      exact k h hD0 vFr_rf
  · have eS : vS_feed σ x = σ := if_neg e
    have eQ : vQ_feed σ x = -2 := if_neg e
    rw [eS, eQ] at k
    dsimp only [vpush]
    refine r_ifne c108_9 (by omega) (by omega) (fun q => by exfalso; omega) (fun c_9 => ?_)
    refine r_ci c108_12 ?_
    refine r_iret (st := []) c108_14 ?_
    exact k h hD0 vFr_rf
theorem m_clear {d c : Nat} {σ : vSg} {h : vHp} {Q : vQ} (hD : vMD h c σ) (k : ∀ h', vMD h' c (vS_clear σ) → vFr (vZd c) h h' → Q (some (.int (iI ((σ.2.2.2.1.1 : Int))))) h') : vCall (d + 1) 0 0 109 [.ref c] h Q := by
  have hD0 := hD
  obtain ⟨⟨a, w, tp, G, ho, hG, ht, -, hlo, hT⟩, -⟩ := hD
  refine vin 2 [_, _] ml_109 rfl rfl ?_
  refine r_aload c109_0 rfl (r_get c109_1 ho rfl (r_istore c109_4 rfl (r_aload c109_5 rfl (r_ci c109_6 ?_))))
  try dsimp only [vst]
  refine r_put c109_7 ho hlo rfl ⟨rfl, rfl⟩ (fun h3 s3 => ?_)
  have f3 : vFr (fun q => q = c ∨ q = c + 9 ∨ q = c + 10) h h3 := vFr_up (vFr_st s3) (fun q e => by omega)
  have hD3 : vMD h3 c (vS_clear σ) := vMD_t hD0 (n := 0) (a := a) (w := w) (tp := tp) s3.2.2.1 ((s3.2.2.2 (c + 9) (by omega)).trans ht) ⟨G, vBr_fr hG (vFr_st s3) (by omega)⟩ ⟨by omega, fun i hi => absurd hi (by omega)⟩ f3
  refine r_iload c109_10 rfl ?_
  refine r_iret (st := []) c109_11 ?_
  exact k h3 hD3 (vZd_t f3)
theorem m_rule {d c : Nat} {σ : vSg} {x : Int} {h : vHp} {Q : vQ} (hD : vMD h c σ) (hO : vOk σ) (x1 : -2147483648 ≤ x) (x2 : x ≤ 2147483647) (k : ∀ h', vMD h' c (vS_rule σ x) → vFr (vZd c) h h' → Q (some (.int (iI (vQ_rule σ x)))) h') : vCall (d + 40) 0 0 126 [.ref c, .int (iI x)] h Q := by
  have hD0 := hD
  obtain ⟨⟨a, w, tp, G, hM⟩, hr1, -⟩ := hD
  refine vin 5 [_, _, _, _, _] ml_126 rfl rfl ?_
  refine r_iload c126_0 rfl ?_
  refine r_is1 c126_1 vr_103 rfl (k_mName x1 x2 (fun p1 p2 => ?_) (fun q => ?_))
  · dsimp only [vpush]
    obtain ⟨i, rfl⟩ := Int.eq_ofNat_of_zero_le p1
    have hi : i < 10 := by omega
    refine r_ifne c126_4 (by omega) (by omega) (fun c_4 => ?_) (fun q => by exfalso; omega)
    refine r_aload c126_9 rfl (r_ci c126_10 ?_)
    refine r_put c126_11 hM.1 hM.2.2.2.2.1 rfl ⟨rfl, rfl⟩ (fun h1 s1 => ?_)
    have hM1 := vRp_obj (a2 := 0) (w2 := w) (tp2 := tp) hM s1
    refine r_aload c126_14 rfl (r_ci c126_15 ?_)
    refine r_put c126_16 hM1.1 hM1.2.2.2.2.1 rfl (vmwf true) (fun h2 s2 => ?_)
    have hM2 := vRp_obj (a2 := 0) (w2 := true) (tp2 := tp) hM1 s2
    refine r_aload c126_19 rfl (r_ci c126_20 ?_)
    refine r_put c126_21 hM2.1 hM2.2.2.2.2.1 rfl ⟨rfl, rfl⟩ (fun h3 s3 => ?_)
    have hM3 := vRp_obj (a2 := 0) (w2 := true) (tp2 := 0) hM2 s3
    have f3 : vFr (vZp c) h h3 := vFr_tr (vZp_o s1) (vFr_tr (vZp_o s2) (vZp_o s3))
    refine r_aload c126_24 rfl (r_ci c126_25 ?_)
    refine r_iv1 c126_26 vr_115 hM3.1 rfl (k_mexp 5 0 d rfl h3 _ _ _ _ _ hM3 (Nat.zero_le _) (by omega) (fun h4 a4 w4 G4 hM4 ha4 p4 r4 f4 => ?_))
    dsimp only [vpush]
    obtain ⟨g1, g2, g3⟩ := r4.2 rfl
    have f34 := vFr_tr f3 f4
    have ha4' : a4 ≤ σ.2.2.2.1.1 := ha4
    have hn : σ.2.2.2.1.1 ≤ 80 := hM.2.2.2.2.2.1
    have g1' : a4 = (vex σ.2.2.2.1.1 σ.2.2.2.1.2 (fun i => vDd σ.1 i) 5 0).1 := g1
    -- the text is told, or not
    have from53 : ∀ b : Bool, (b = true → w4 = true ∧ a4 = σ.2.2.2.1.1) → (b = false → w4 = false ∨ a4 < σ.2.2.2.1.1) → vW (vCall (d + 39)) 126 Q 53 [.ref c, .int (iI (i : Int)), .int (iI 0), vHole, vHole] [.int (iI (vBi b))] h4 0 0 := by
      intro b bT bF
      refine r_istore c126_53 rfl (r_aload c126_54 rfl (r_ci c126_55 ?_))
      try dsimp only [vst]
      refine r_put c126_56 hM4.1 hM4.2.2.2.2.1 rfl ⟨rfl, rfl⟩ (fun h5 s5 => ?_)
      have f5 : vFr (fun q => q = c ∨ q = c + 9 ∨ q = c + 10) h h5 := vFr_tr (vFr_up f34 (fun q e => by unfold vZp at e; omega)) (vFr_up (vFr_st s5) (fun q e => by omega))
      have ho5 : hg h5 c = some (.inr (6, vMF c σ.2.1.1 0 a4 w4 1 σ.2.2.1.1.length σ.2.2.1.2.1 σ.2.2.1.2.2)) := s5.2.2.1
      have hG5 := vBr_fr hM4.2.1 (vFr_st s5) (by omega)
      have hD5 : vMD h5 c (vS_clear σ) := vMD_t hD0 ho5 ((s5.2.2.2 (c + 9) (by omega)).trans hM4.2.2.1) ⟨G4, hG5⟩ ⟨by omega, fun i hi => absurd hi (by omega)⟩ f5
      refine r_iload c126_59 rfl ?_
      refine vifb (by decide +kernel : vlk 126 60 = some (71, 71, 0, 0, 63)) (fun b0 => ?_) (fun b0 => ?_)
      · obtain ⟨w4t, a4n⟩ := bT b0
        obtain ⟨S, t1, t2⟩ := g3 w4t
        have t1' : (vex σ.2.2.2.1.1 σ.2.2.2.1.2 (fun i => vDd σ.1 i) 5 0).2 = some S := t1
        have ev : (vrd σ.2.2.2.1.1 σ.2.2.2.1.2 (fun i => vDd σ.1 i)).2 = some S := by
          unfold vrd
          rw [if_neg (by omega)]
          exact t1'
        have eQ : vQ_rule σ (i : Int) = ((vcn S 0 720 : Nat) : Int) := by unfold vQ_rule; rw [if_pos ⟨p1, p2⟩, ev]
        have eS : vS_rule σ (i : Int) = (vNup σ.1 i true S (σ.1.2.2.1 i) (σ.1.2.2.2 i), σ.2.1, vfg σ.2.2.1 (i : Int), (0, σ.2.2.2.1.2), σ.2.2.2.2) := by unfold vS_rule; rw [if_pos ⟨p1, p2⟩, ev, Int.toNat_natCast]
        rw [eQ, eS] at k
        obtain ⟨hr1, hr2, hr3, hr4⟩ := vMD_rows hD5
        obtain ⟨fs, q1, q2⟩ := hG5
        have hlo5 := vMD_lo hD5
        have loop : ∀ u j : Nat, j + u = 720 → ∀ (h6 : vHp) (G6 : Nat → Bool), vBr h6 (c + 2) 7200 G6 → vfil (vfl2 σ.1.2.1) G6 (720 * i) S j → vFr (fun q => q = c + 2) h5 h6 → vW (vCall (d + 39)) 126 Q 74 [.ref c, .int (iI (i : Int)), .int (iI 0), .int (iI (vBi b)), .int (iI (j : Int))] [] h6 0 0 := by
          intro u
          induction u with
          | zero =>
            intro j hj h6 G6 hB hf fr
            obtain rfl : j = 720 := by omega
            have ho6 := (fr.2.2 c (by omega)).trans ho5
            obtain ⟨f1, r1, e1⟩ := vBr_fr hr1 fr (by omega)
            refine r_iload c126_74 rfl (r_ci c126_76 ?_)
            refine r_icge c126_79 (by omega) (by omega) (by omega) (by omega) (fun c_79 => ?_) (fun q => by exfalso; omega)
            refine r_aload c126_110 rfl (r_get c126_111 ho6 rfl (r_iload c126_114 rfl (r_ci c126_115 ?_)))
            refine r_bast c126_116 r1 (by rw [fr.1]; omega) (by omega) (by omega) (by omega) (fun h7 s7 => ?_)
            rw [Int.toNat_natCast] at s7
            have f67 : vFr (fun q => c + 1 ≤ q ∧ q < c + 5) h5 h7 := vFr_tr (vFr_up fr (fun q e => by omega)) (vFr_up (vFr_st s7) (fun q e => by omega))
            have hD7 : vMD h7 c (vNup σ.1 i true S (σ.1.2.2.1 i) (σ.1.2.2.2 i), (vS_clear σ).2) := vMD_nm hD5 (vBr_st e1 s7 (b := true) rfl) (vBr_cg (vBr_fr hB (vFr_st s7) (by omega)) (fun k _ => vfl2_up hf k)) (vBr_cg (vBr_fr (vBr_fr hr3 fr (by omega)) (vFr_st s7) (by omega)) (fun k _ => vfl2_id k)) (vBr_cg (vBr_fr (vBr_fr hr4 fr (by omega)) (vFr_st s7) (by omega)) (fun k _ => vfl2_id k)) f67
            obtain ⟨a7, w7, tp7, ho7⟩ := vMD_o hD7
            refine r_aload c126_117 rfl (r_iload c126_118 rfl ?_)
            refine r_iv1 c126_119 vr_125 ho7 rfl (m_forgets hD7 hO.2.2.1 (fun s hs => (hO.2.1 s hs).1) x1 x2 (fun h8 hD8 f8 => ?_))
            dsimp only [vpush]
            obtain ⟨a8, w8, tp8, ho8⟩ := vMD_o hD8
            have hr28 := (vMD_rows hD8).2.1
            refine r_aload c126_122 rfl (r_get c126_123 ho8 rfl (r_iload c126_126 rfl ?_))
            refine r_is2 c126_127 vr_107 rfl (k_many (S := vup σ.1.2.1 i S) hr28 (by omega) ?_)
            dsimp only [vpush]
            refine r_iret (st := []) c126_130 ?_
            rw [show vup σ.1.2.1 i S i = S by unfold vup; exact if_pos rfl]
            exact k h8 hD8 (vFr_tr (vZd_t f5) (vFr_tr (vZd_n f67) (vZd_f f8)))
          | succ u ih =>
            intro j hj h6 G6 hB hf fr
            have ho6 := (fr.2.2 c (by omega)).trans ho5
            have q16 := (fr.2.2 (c + 10) (by omega)).trans q1
            obtain ⟨g, z1, z2⟩ := hB
            have t2j := t2 j (by omega)
            rw [show 720 * 0 + j = j by omega] at t2j
            refine r_iload c126_74 rfl (r_ci c126_76 ?_)
            refine r_icge c126_79 (by omega) (by omega) (by omega) (by omega) (fun q => by exfalso; omega) (fun c_79 => ?_)
            refine r_aload c126_82 rfl (r_get c126_83 ho6 rfl (r_ci c126_86 (r_iload c126_89 rfl (r_imul c126_90 (r_iload c126_91 rfl (r_iadd c126_93 (r_aload c126_94 rfl (r_get c126_95 ho6 rfl (r_iload c126_98 rfl (r_iload c126_99 rfl (r_iadd c126_101 (r_bald c126_102 q16 (by omega) (by omega) ?_))))))))))))
            rw [show ((0 : Int) + (j : Int)).toNat = j by omega, q2 _ (by omega), t2j]
            refine r_bast c126_103 z1 (by rw [fr.1]; omega) (by omega) (by omega) (by cases S j <;> decide) (fun h7 s7 => ?_)
            refine r_iinc c126_104 rfl rfl (r_goto c126_107 ?_)
            try dsimp only [vst]
            rw [vsu]
            rw [show ((720 : Int) * (i : Int) + (j : Int)).toNat = 720 * i + j by omega] at s7
            exact ih (j + 1) (by omega) h7 _ (vBr_st z2 s7 rfl) (vfil_su hf rfl) (vFr_tr fr (vFr_st s7))
        refine r_ci c126_71 (r_istore c126_72 rfl ?_)
        try dsimp only [vst]
        exact loop 720 0 rfl h5 _ hr2 vfil_0 vFr_rf
      · have ev : vrd σ.2.2.2.1.1 σ.2.2.2.1.2 (fun i => vDd σ.1 i) = (a4, none) := by
          unfold vrd
          by_cases q : a4 < σ.2.2.2.1.1
          · rw [← g1', if_pos q]
          · have w4f : w4 = false := (bF b0).elim id (fun z => absurd z q)
            have g2' : (vex σ.2.2.2.1.1 σ.2.2.2.1.2 (fun i => vDd σ.1 i) 5 0).2 = none := g2 w4f
            rw [← g1', if_neg q]
            exact Prod.ext g1'.symm g2'
        have eQ : vQ_rule σ (i : Int) = -100 - (a4 : Int) := by unfold vQ_rule; rw [if_pos ⟨p1, p2⟩, ev]
        have eS : vS_rule σ (i : Int) = vS_clear σ := by unfold vS_rule; rw [if_pos ⟨p1, p2⟩, ev]
        rw [eQ, eS] at k
        refine r_ci c126_63 (r_aload c126_65 rfl (r_get c126_66 ho5 rfl (r_isub c126_69 ?_)))
        refine r_iret (st := []) c126_70 ?_
        exact k h5 hD5 (vZd_t f5)
    refine r_istore c126_29 rfl (r_aload c126_30 rfl (r_get c126_31 hM4.1 rfl ?_))
    try dsimp only [vst]
    refine vife (by decide +kernel : vlk 126 34 = some (70, 52, 0, 0, 37)) (fun b => ?_) (fun b => ?_)
    · refine r_ci c126_52 ?_
      exact from53 false (fun q => by cases q) (fun _ => Or.inl b)
    · refine r_aload c126_37 rfl (r_get c126_38 hM4.1 rfl (r_aload c126_41 rfl (r_get c126_42 hM4.1 rfl ?_)))
      refine r_icne (by decide +kernel : vlk 126 45 = some (77, 52, 0, 0, 48)) (by omega) (by omega) (by show _ ≤ ((σ.2.2.2.1.1 : Nat) : Int); omega) (by show ((σ.2.2.2.1.1 : Nat) : Int) ≤ _; omega) (fun ne => ?_) (fun eq => ?_)
      · refine r_ci c126_52 ?_
        refine from53 false (fun q => by cases q) (fun _ => Or.inr ?_)
        have q : (a4 : Int) ≠ ((σ.2.2.2.1.1 : Nat) : Int) := ne
        omega
      · refine r_ci c126_48 (r_goto c126_49 ?_)
        refine from53 true (fun _ => ⟨b, ?_⟩) (fun q => by cases q)
        have q : (a4 : Int) = ((σ.2.2.2.1.1 : Nat) : Int) := eq
        omega
  · have eS : vS_rule σ x = σ := if_neg q
    have eQ : vQ_rule σ x = -1 := if_neg q
    rw [eS, eQ] at k
    dsimp only [vpush]
    refine r_ifne c126_4 (by omega) (by omega) (fun q => by exfalso; omega) (fun c_4 => ?_)
    refine r_ci c126_7 ?_
    refine r_iret (st := []) c126_8 ?_
    exact k h hD0 vFr_rf
theorem k_pours {d a b n : Nat} {g g0 : Nat → Bool} {h : vHp} {Q : vQ} (hA : vBr h a n g) (hB : vBr h b n g0) (hab : a ≠ b) (hn : n ≤ 60000) (hlo : h.1.1 ≤ b) (k : ∀ h', vBr h' b n g → vFr (fun q => q = b) h h' → Q none h') : vCall (d + 1) 0 0 105 [.ref a, .ref b, .int (iI (n : Int))] h Q := by
  have loop : ∀ u i : Nat, i + u = n → ∀ (h1 : vHp) (G : Nat → Bool), vBr h1 b n G → (∀ j, j < i → G j = g j) → vFr (fun q => q = b) h h1 → vW (vCall d) 105 Q 2 [.ref a, .ref b, .int (iI (n : Int)), .int (iI (i : Int))] [] h1 0 0 := by
    intro u
    induction u with
    | zero =>
      intro i hi h1 G hG he f1
      refine r_iload c105_2 rfl (r_iload c105_3 rfl ?_)
      refine r_icge c105_4 (by omega) (by omega) (by omega) (by omega) (fun c_4 => ?_) (fun q => by exfalso; omega)
      refine r_vret (st := []) c105_19 ?_
      exact k h1 (vBr_cg hG (fun j hj => he j (by omega))) f1
    | succ u ih =>
      intro i hi h1 G hG he f1
      obtain ⟨f, r1, r2⟩ := hG
      obtain ⟨fa, s1, s2⟩ := vBr_fr hA f1 hab
      refine r_iload c105_2 rfl (r_iload c105_3 rfl ?_)
      refine r_icge c105_4 (by omega) (by omega) (by omega) (by omega) (fun q => by exfalso; omega) (fun c_4 => ?_)
      refine r_aload c105_7 rfl (r_iload c105_8 rfl (r_aload c105_9 rfl (r_iload c105_10 rfl (r_bald c105_11 s1 (by omega) (by omega) ?_))))
      rw [Int.toNat_natCast, s2 i (by omega)]
      refine r_bast c105_12 r1 (by rw [f1.1]; exact hlo) (by omega) (by omega) (by cases g i <;> decide) (fun h2 t2 => ?_)
      refine r_iinc c105_13 rfl rfl (r_goto c105_16 ?_)
      try dsimp only [vst]
      rw [vsu]
      rw [Int.toNat_natCast] at t2
      refine ih (i + 1) (by omega) h2 _ (vBr_st r2 t2 rfl) (fun j hj => ?_) (vFr_tr f1 (vFr_st t2))
      unfold vup
      by_cases e : j = i
      · rw [if_pos e, e]
      · rw [if_neg e]; exact he j (by omega)
  refine vin 4 [_, _, _, _] ml_105 rfl rfl ?_
  refine r_ci c105_0 (r_istore c105_1 rfl ?_)
  try dsimp only [vst]
  exact loop n 0 (by omega) h g0 hB (fun j hj => absurd hj (by omega)) vFr_rf
theorem vmkf (b : Bool) : vfit 6 8 (.int (iI (vBi b))) := by cases b <;> exact ⟨rfl, rfl⟩
theorem m_image {d c : Nat} {σ : vSg} {h : vHp} {Q : vQ} (hD : vMD h c σ) (k : ∀ h', vMD h' c (vS_image σ) → vFr (vZd c) h h' → Q (some (.int (iI (vQ_ruled σ.1)))) h') : vCall (d + 3) 0 0 167 [.ref c] h Q := by
  obtain ⟨a, w, tp, ho⟩ := vMD_o hD
  have hlo := vMD_lo hD
  obtain ⟨hr1, hr2, hr3, hr4⟩ := vMD_rows hD
  have hD0 := hD
  obtain ⟨-, -, ⟨t1, t2, t3, t4⟩, -, -⟩ := hD
  refine vin 1 [_] ml_167 rfl rfl ?_
  refine r_aload c167_0 rfl (r_get c167_1 ho rfl (r_aload c167_4 rfl (r_get c167_5 ho rfl (r_ci c167_8 ?_))))
  refine r_is3 c167_10 vr_105 rfl (k_pours (n := 10) hr1 t1 (by omega) (by omega) (by omega) (fun h1 b1 f1 => ?_))
  dsimp only [vpush]
  have ho1 := (f1.2.2 c (by omega)).trans ho
  refine r_aload c167_13 rfl (r_get c167_14 ho1 rfl (r_aload c167_17 rfl (r_get c167_18 ho1 rfl (r_ci c167_21 ?_))))
  refine r_is3 c167_24 vr_105 rfl (k_pours (n := 7200) (vBr_fr hr2 f1 (by omega)) (vBr_fr t2 f1 (by omega)) (by omega) (by omega) (by rw [f1.1]; omega) (fun h2 b2 f2 => ?_))
  dsimp only [vpush]
  have ho2 := (f2.2.2 c (by omega)).trans ho1
  have f12 : vFr (fun q => c + 5 ≤ q ∧ q < c + 9) h h2 := vFr_tr (vFr_up f1 (fun q e => by omega)) (vFr_up f2 (fun q e => by omega))
  refine r_aload c167_27 rfl (r_get c167_28 ho2 rfl (r_aload c167_31 rfl (r_get c167_32 ho2 rfl (r_ci c167_35 ?_))))
  refine r_is3 c167_38 vr_105 rfl (k_pours (n := 7200) (vBr_fr hr3 f12 (by omega)) (vBr_fr (vBr_fr t3 f1 (by omega)) f2 (by omega)) (by omega) (by omega) (by rw [f12.1]; omega) (fun h3 b3 f3 => ?_))
  dsimp only [vpush]
  have ho3 := (f3.2.2 c (by omega)).trans ho2
  have f13 : vFr (fun q => c + 5 ≤ q ∧ q < c + 9) h h3 := vFr_tr f12 (vFr_up f3 (fun q e => by omega))
  refine r_aload c167_41 rfl (r_get c167_42 ho3 rfl (r_aload c167_45 rfl (r_get c167_46 ho3 rfl (r_ci c167_49 ?_))))
  refine r_is3 c167_52 vr_105 rfl (k_pours (n := 7200) (vBr_fr hr4 f13 (by omega)) (vBr_fr (vBr_fr (vBr_fr t4 f1 (by omega)) f2 (by omega)) f3 (by omega)) (by omega) (by omega) (by rw [f13.1]; omega) (fun h4 b4 f4 => ?_))
  dsimp only [vpush]
  have ho4 := (f4.2.2 c (by omega)).trans ho3
  have f14 : vFr (fun q => c + 5 ≤ q ∧ q < c + 9) h h4 := vFr_tr f13 (vFr_up f4 (fun q e => by omega))
  refine r_aload c167_55 rfl (r_ci c167_56 ?_)
  refine r_put c167_57 ho4 (by rw [f14.1]; exact hlo) rfl (vmkf true) (fun h5 s5 => ?_)
  have f5 := vFr_st s5
  have f15 : vFr (fun q => q = c ∨ (c + 5 ≤ q ∧ q < c + 9)) h h5 := vFr_tr (vFr_up f14 (fun q e => Or.inr e)) (vFr_up f5 (fun q e => Or.inl e))
  have hD5 : vMD h5 c (vS_image σ) := by
    obtain ⟨⟨a0, w0, tp0, G0, e1, e2, e3, ⟨e4, e5, e6⟩, e7, e8⟩, hr, htt, hs, hl⟩ := hD0
    exact ⟨⟨a, w, tp, G0, s5.2.2.1, vBr_fr e2 f15 (by omega), (f15.2.2 _ (by omega)).trans e3, ⟨vBr_fr e4 f15 (by omega), vBr_fr e5 f15 (by omega), vBr_fr e6 f15 (by omega)⟩, by rw [f15.1]; exact e7, e8⟩, vBr_fr hr f15 (by omega), ⟨vBr_fr (vBr_fr (vBr_fr (vBr_fr b1 f2 (by omega)) f3 (by omega)) f4 (by omega)) f5 (by omega), vBr_fr (vBr_fr (vBr_fr b2 f3 (by omega)) f4 (by omega)) f5 (by omega), vBr_fr (vBr_fr b3 f4 (by omega)) f5 (by omega), vBr_fr b4 f5 (by omega)⟩, vMs_fr hs f15 (fun q e1 e2 => by omega), vMl_fr hl f15 (fun q e1 e2 => by omega)⟩
  obtain ⟨a6, w6, tp6, ho6⟩ := vMD_o hD5
  refine r_aload c167_60 rfl (r_ci c167_61 ?_)
  refine r_iv1 c167_62 vr_157 ho6 rfl (m_told hD5 (by omega) (by omega) ?_)
  dsimp only [vpush]
  refine r_iret (st := []) c167_65 ?_
  rw [show vQ_told (vS_image σ) 0 = vQ_ruled σ.1 from if_pos rfl]
  exact k h5 hD5 (vFr_up f15 (fun q e => by unfold vZd; omega))
theorem m_undo {d c : Nat} {σ : vSg} {h : vHp} {Q : vQ} (hD : vMD h c σ) (k : ∀ h', vMD h' c (vS_undo σ) → vFr (vZd c) h h' → Q (some (.int (iI (vQ_undo σ)))) h') : vCall (d + 3) 0 0 168 [.ref c] h Q := by
  obtain ⟨a, w, tp, ho⟩ := vMD_o hD
  have hlo := vMD_lo hD
  obtain ⟨hr1, hr2, hr3, hr4⟩ := vMD_rows hD
  have hD0 := hD
  obtain ⟨-, -, ⟨t1, t2, t3, t4⟩, -, -⟩ := hD
  refine vin 1 [_] ml_168 rfl rfl ?_
  refine r_aload c168_0 rfl (r_get c168_1 ho rfl ?_)
  refine vifb (by decide +kernel : vlk 168 4 = some (71, 10, 0, 0, 7)) (fun b => ?_) (fun b => ?_)
  · have eQ : vQ_undo σ = vQ_ruled σ.2.1.2 := if_pos b
    have eS : vS_undo σ = (σ.2.1.2, σ.2.1, ([], σ.2.2.1.2.1, σ.2.2.1.2.2), σ.2.2.2) := if_pos b
    rw [eQ, eS] at k
    refine r_aload c168_10 rfl (r_get c168_11 ho rfl (r_aload c168_14 rfl (r_get c168_15 ho rfl (r_ci c168_18 ?_))))
    refine r_is3 c168_20 vr_105 rfl (k_pours (n := 10) t1 hr1 (by omega) (by omega) (by omega) (fun h1 b1 f1 => ?_))
    dsimp only [vpush]
    have ho1 := (f1.2.2 c (by omega)).trans ho
    refine r_aload c168_23 rfl (r_get c168_24 ho1 rfl (r_aload c168_27 rfl (r_get c168_28 ho1 rfl (r_ci c168_31 ?_))))
    refine r_is3 c168_34 vr_105 rfl (k_pours (n := 7200) (vBr_fr t2 f1 (by omega)) (vBr_fr hr2 f1 (by omega)) (by omega) (by omega) (by rw [f1.1]; omega) (fun h2 b2 f2 => ?_))
    dsimp only [vpush]
    have ho2 := (f2.2.2 c (by omega)).trans ho1
    have f12 : vFr (fun q => c + 1 ≤ q ∧ q < c + 5) h h2 := vFr_tr (vFr_up f1 (fun q e => by omega)) (vFr_up f2 (fun q e => by omega))
    refine r_aload c168_37 rfl (r_get c168_38 ho2 rfl (r_aload c168_41 rfl (r_get c168_42 ho2 rfl (r_ci c168_45 ?_))))
    refine r_is3 c168_48 vr_105 rfl (k_pours (n := 7200) (vBr_fr t3 f12 (by omega)) (vBr_fr (vBr_fr hr3 f1 (by omega)) f2 (by omega)) (by omega) (by omega) (by rw [f12.1]; omega) (fun h3 b3 f3 => ?_))
    dsimp only [vpush]
    have ho3 := (f3.2.2 c (by omega)).trans ho2
    have f13 : vFr (fun q => c + 1 ≤ q ∧ q < c + 5) h h3 := vFr_tr f12 (vFr_up f3 (fun q e => by omega))
    refine r_aload c168_51 rfl (r_get c168_52 ho3 rfl (r_aload c168_55 rfl (r_get c168_56 ho3 rfl (r_ci c168_59 ?_))))
    refine r_is3 c168_62 vr_105 rfl (k_pours (n := 7200) (vBr_fr t4 f13 (by omega)) (vBr_fr (vBr_fr (vBr_fr hr4 f1 (by omega)) f2 (by omega)) f3 (by omega)) (by omega) (by omega) (by rw [f13.1]; omega) (fun h4 b4 f4 => ?_))
    dsimp only [vpush]
    have ho4 := (f4.2.2 c (by omega)).trans ho3
    have f14 : vFr (fun q => c + 1 ≤ q ∧ q < c + 5) h h4 := vFr_tr f13 (vFr_up f4 (fun q e => by omega))
    have hD4 : vMD h4 c (σ.2.1.2, σ.2) := vMD_nm hD0 (vBr_fr (vBr_fr (vBr_fr b1 f2 (by omega)) f3 (by omega)) f4 (by omega)) (vBr_fr (vBr_fr b2 f3 (by omega)) f4 (by omega)) (vBr_fr b3 f4 (by omega)) b4 f14
    refine r_aload c168_65 rfl (r_ci c168_66 ?_)
    refine r_put c168_67 ho4 (by rw [f14.1]; exact hlo) rfl ⟨rfl, rfl⟩ (fun h5 s5 => ?_)
    have f5 := vFr_st s5
    have hS5 : vMs h5 c [] := by
      obtain ⟨-, -, -, ⟨g, g1, g2⟩, -⟩ := hD4
      exact ⟨g, vSr_fr g1 f5 (fun q e1 e2 => by omega), fun i s hs => by simp at hs⟩
    have hD5 : vMD h5 c (σ.2.1.2, σ.2.1, ([], σ.2.2.1.2.1, σ.2.2.1.2.2), σ.2.2.2) := vMD_m hD4 (a := a) (w := w) (tp := tp) s5.2.2.1 hS5 (vFr_up f5 (fun q e => Or.inl e))
    obtain ⟨a6, w6, tp6, ho6⟩ := vMD_o hD5
    refine r_aload c168_70 rfl (r_ci c168_71 ?_)
    refine r_iv1 c168_72 vr_157 ho6 rfl (m_told hD5 (by omega) (by omega) ?_)
    dsimp only [vpush]
    refine r_iret (st := []) c168_75 ?_
    rw [show vQ_told (σ.2.1.2, σ.2.1, ([], σ.2.2.1.2.1, σ.2.2.1.2.2), σ.2.2.2) 0 = vQ_ruled σ.2.1.2 from if_pos rfl]
    exact k h5 hD5 (vFr_tr (vZd_n f14) (vFr_up f5 (fun q e => by unfold vZd; omega)))
  · have eQ : vQ_undo σ = -3 := if_neg (by rw [b]; decide)
    have eS : vS_undo σ = σ := if_neg (by rw [b]; decide)
    rw [eQ, eS] at k
    refine r_ci c168_7 ?_
    refine r_iret (st := []) c168_9 ?_
    exact k h hD0 vFr_rf

