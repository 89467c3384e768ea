theorem ml_119 : vml 119 = 6 := by decide +kernel
theorem vr_113 : vrc 113 = some (6, 2) := by decide +kernel
theorem vr_114 : vrc 114 = some (6, 0) := by decide +kernel
theorem c119_0 : vlk 119 0 = some (6, 0, 0, 0, 1) := by decide +kernel
theorem c119_1 : vlk 119 1 = some (34, 0, 0, 0, 2) := by decide +kernel
theorem c119_2 : vlk 119 2 = some (42, 6, 11, 0, 5) := by decide +kernel
theorem c119_5 : vlk 119 5 = some (1, 0, 0, 1, 6) := by decide +kernel
theorem c119_6 : vlk 119 6 = some (11, 0, 0, 0, 7) := by decide +kernel
theorem c119_7 : vlk 119 7 = some (43, 6, 11, 0, 10) := by decide +kernel
theorem c119_10 : vlk 119 10 = some (6, 0, 0, 0, 11) := by decide +kernel
theorem c119_11 : vlk 119 11 = some (4, 1, 0, 0, 12) := by decide +kernel
theorem c119_12 : vlk 119 12 = some (1, 0, 0, 100, 14) := by decide +kernel
theorem c119_14 : vlk 119 14 = some (76, 23, 0, 0, 17) := by decide +kernel
theorem c119_17 : vlk 119 17 = some (4, 1, 0, 0, 18) := by decide +kernel
theorem c119_18 : vlk 119 18 = some (1, 0, 0, 109, 20) := by decide +kernel
theorem c119_20 : vlk 119 20 = some (77, 27, 0, 0, 23) := by decide +kernel
theorem c119_23 : vlk 119 23 = some (1, 0, 0, 1, 24) := by decide +kernel
theorem c119_24 : vlk 119 24 = some (37, 28, 0, 0, 27) := by decide +kernel
theorem c119_27 : vlk 119 27 = some (1, 0, 0, 0, 28) := by decide +kernel
theorem c119_28 : vlk 119 28 = some (4, 1, 0, 0, 29) := by decide +kernel
theorem c119_29 : vlk 119 29 = some (1, 0, 0, 119, 31) := by decide +kernel
theorem c119_31 : vlk 119 31 = some (77, 39, 0, 0, 34) := by decide +kernel
theorem c119_34 : vlk 119 34 = some (1, 0, 0, 6, 36) := by decide +kernel
theorem c119_36 : vlk 119 36 = some (37, 62, 0, 0, 39) := by decide +kernel
theorem c119_39 : vlk 119 39 = some (4, 1, 0, 0, 40) := by decide +kernel
theorem c119_40 : vlk 119 40 = some (1, 0, 0, 100, 42) := by decide +kernel
theorem c119_42 : vlk 119 42 = some (77, 50, 0, 0, 45) := by decide +kernel
theorem c119_45 : vlk 119 45 = some (1, 0, 0, 30, 47) := by decide +kernel
theorem c119_47 : vlk 119 47 = some (37, 62, 0, 0, 50) := by decide +kernel
theorem c119_50 : vlk 119 50 = some (4, 1, 0, 0, 51) := by decide +kernel
theorem c119_51 : vlk 119 51 = some (1, 0, 0, 109, 53) := by decide +kernel
theorem c119_53 : vlk 119 53 = some (77, 61, 0, 0, 56) := by decide +kernel
theorem c119_56 : vlk 119 56 = some (1, 0, 0, 12, 58) := by decide +kernel
theorem c119_58 : vlk 119 58 = some (37, 62, 0, 0, 61) := by decide +kernel
theorem c119_61 : vlk 119 61 = some (1, 0, 0, 1, 62) := by decide +kernel
theorem c119_62 : vlk 119 62 = some (58, 113, 0, 0, 65) := by decide +kernel
theorem c119_65 : vlk 119 65 = some (7, 2, 0, 0, 66) := by decide +kernel
theorem c119_66 : vlk 119 66 = some (6, 0, 0, 0, 67) := by decide +kernel
theorem c119_67 : vlk 119 67 = some (58, 114, 0, 0, 70) := by decide +kernel
theorem c119_70 : vlk 119 70 = some (7, 3, 0, 0, 71) := by decide +kernel
theorem c119_71 : vlk 119 71 = some (1, 0, 0, 0, 72) := by decide +kernel
theorem c119_72 : vlk 119 72 = some (7, 4, 0, 0, 74) := by decide +kernel
theorem c119_74 : vlk 119 74 = some (4, 4, 0, 0, 76) := by decide +kernel
theorem c119_76 : vlk 119 76 = some (1, 0, 0, 720, 79) := by decide +kernel
theorem c119_79 : vlk 119 79 = some (79, 165, 0, 0, 82) := by decide +kernel
theorem c119_82 : vlk 119 82 = some (4, 1, 0, 0, 83) := by decide +kernel
theorem c119_83 : vlk 119 83 = some (1, 0, 0, 119, 85) := by decide +kernel
theorem c119_85 : vlk 119 85 = some (77, 96, 0, 0, 88) := by decide +kernel
theorem c119_88 : vlk 119 88 = some (4, 4, 0, 0, 90) := by decide +kernel
theorem c119_90 : vlk 119 90 = some (1, 0, 0, 7, 92) := by decide +kernel
theorem c119_92 : vlk 119 92 = some (15, 0, 0, 0, 93) := by decide +kernel
theorem c119_93 : vlk 119 93 = some (37, 137, 0, 0, 96) := by decide +kernel
theorem c119_96 : vlk 119 96 = some (4, 1, 0, 0, 97) := by decide +kernel
theorem c119_97 : vlk 119 97 = some (1, 0, 0, 100, 99) := by decide +kernel
theorem c119_99 : vlk 119 99 = some (77, 112, 0, 0, 102) := by decide +kernel
theorem c119_102 : vlk 119 102 = some (4, 4, 0, 0, 104) := by decide +kernel
theorem c119_104 : vlk 119 104 = some (1, 0, 0, 30, 106) := by decide +kernel
theorem c119_106 : vlk 119 106 = some (15, 0, 0, 0, 107) := by decide +kernel
theorem c119_107 : vlk 119 107 = some (1, 0, 0, 1, 108) := by decide +kernel
theorem c119_108 : vlk 119 108 = some (11, 0, 0, 0, 109) := by decide +kernel
theorem c119_109 : vlk 119 109 = some (37, 137, 0, 0, 112) := by decide +kernel
theorem c119_112 : vlk 119 112 = some (4, 1, 0, 0, 113) := by decide +kernel
theorem c119_113 : vlk 119 113 = some (1, 0, 0, 109, 115) := by decide +kernel
theorem c119_115 : vlk 119 115 = some (77, 131, 0, 0, 118) := by decide +kernel
theorem c119_118 : vlk 119 118 = some (4, 4, 0, 0, 120) := by decide +kernel
theorem c119_120 : vlk 119 120 = some (1, 0, 0, 30, 122) := by decide +kernel
theorem c119_122 : vlk 119 122 = some (14, 0, 0, 0, 123) := by decide +kernel
theorem c119_123 : vlk 119 123 = some (1, 0, 0, 12, 125) := by decide +kernel
theorem c119_125 : vlk 119 125 = some (15, 0, 0, 0, 126) := by decide +kernel
theorem c119_126 : vlk 119 126 = some (1, 0, 0, 1, 127) := by decide +kernel
theorem c119_127 : vlk 119 127 = some (11, 0, 0, 0, 128) := by decide +kernel
theorem c119_128 : vlk 119 128 = some (37, 137, 0, 0, 131) := by decide +kernel
theorem c119_131 : vlk 119 131 = some (4, 4, 0, 0, 133) := by decide +kernel
theorem c119_133 : vlk 119 133 = some (1, 0, 0, 360, 136) := by decide +kernel
theorem c119_136 : vlk 119 136 = some (14, 0, 0, 0, 137) := by decide +kernel
theorem c119_137 : vlk 119 137 = some (7, 5, 0, 0, 139) := by decide +kernel
theorem c119_139 : vlk 119 139 = some (6, 0, 0, 0, 140) := by decide +kernel
theorem c119_140 : vlk 119 140 = some (42, 6, 13, 0, 143) := by decide +kernel
theorem c119_143 : vlk 119 143 = some (4, 3, 0, 0, 144) := by decide +kernel
theorem c119_144 : vlk 119 144 = some (4, 4, 0, 0, 146) := by decide +kernel
theorem c119_146 : vlk 119 146 = some (11, 0, 0, 0, 147) := by decide +kernel
theorem c119_147 : vlk 119 147 = some (4, 5, 0, 0, 149) := by decide +kernel
theorem c119_149 : vlk 119 149 = some (4, 2, 0, 0, 150) := by decide +kernel
theorem c119_150 : vlk 119 150 = some (77, 157, 0, 0, 153) := by decide +kernel
theorem c119_153 : vlk 119 153 = some (1, 0, 0, 1, 154) := by decide +kernel
theorem c119_154 : vlk 119 154 = some (37, 158, 0, 0, 157) := by decide +kernel
theorem c119_157 : vlk 119 157 = some (1, 0, 0, 0, 158) := by decide +kernel
theorem c119_158 : vlk 119 158 = some (51, 0, 0, 0, 159) := by decide +kernel
theorem c119_159 : vlk 119 159 = some (10, 4, 0, 1, 162) := by decide +kernel
theorem c119_162 : vlk 119 162 = some (37, 74, 0, 0, 165) := by decide +kernel
theorem c119_165 : vlk 119 165 = some (4, 3, 0, 0, 166) := by decide +kernel
theorem c119_166 : vlk 119 166 = some (63, 0, 0, 0, 167) := by decide +kernel
/-! the reference's reading: units, pairs -/
def vmi (c : Int) (d : Nat) : Int := if c = 119 then ((d % 7 : Nat) : Int) else if c = 100 then ((d % 30 + 1 : Nat) : Int) else if c = 109 then ((d / 30 % 12 + 1 : Nat) : Int) else ((d / 360 : Nat) : Int)
theorem vmi_un {c v : Int} (hv : 0 ≤ v) (d : Nat) : decide (vmi c d = v) = vun c v.toNat d := by
  obtain ⟨m, rfl⟩ := Int.eq_ofNat_of_zero_le hv
  rw [Int.toNat_natCast]
  unfold vmi vun
  split
  · exact decide_eq_decide.2 (by omega)
  · split
    · exact decide_eq_decide.2 (by omega)
    · split
      · exact decide_eq_decide.2 (by omega)
      · exact decide_eq_decide.2 (by omega)
theorem vmi_rg (c : Int) (d : Nat) (h : d < 720) : 0 ≤ vmi c d ∧ vmi c d ≤ 1000 := by
  unfold vmi
  split
  · omega
  · split
    · omega
    · split <;> omega
theorem k_mcal {d c : Nat} {ch : Int} {X : vMX} (hc : ch = 119 ∨ ch = 100 ∨ ch = 109 ∨ ch = 121) : vKw (d + 3) 119 [.int (iI ch)] c X 1 (vpu X.2.1 X.2.2.1 ch) := by
  intro h a tp G Q hM ha ht k
  have ho := hM.1
  have main : ∀ (h1 : vHp) (x2 x3 x4 x5 : Value), vRp h1 c X (a + 1) true tp G → vFr (vZp c) h h1 → vW (vCall (d + 2)) 119 Q 62 [.ref c, .int (iI ch), x2, x3, x4, x5] [.int (iI (vmo ch)), .int (iI (if ch = 119 ∨ ch = 121 then 0 else 1)), .ref c] h1 0 0 := by
    intro h1 x2 x3 x4 x5 hM1 f1
    have hmo : 0 ≤ vmo ch ∧ vmo ch ≤ 719 := by rcases hc with rfl | rfl | rfl | rfl <;> decide
    have hlo : 0 ≤ (if ch = 119 ∨ ch = 121 then (0 : Int) else 1) ∧ (if ch = 119 ∨ ch = 121 then (0 : Int) else 1) ≤ 1 := by split <;> decide
    have rg := vnm_rg (n := X.2.1) (t := X.2.2.1) (lo := (if ch = 119 ∨ ch = 121 then (0 : Int) else 1)) (hi := vmo ch) (p := a + 1) ha
    unfold vpu at k
    generalize (if ch = 119 ∨ ch = 121 then (0 : Int) else 1) = lo at *
    refine r_iv2 c119_62 vr_113 hM1.1 rfl (k_mnum hM1 ha (by omega) (by omega) (by omega) (by omega) (fun h2 v w2 hM2 e2 e3 v1 v2 f2 => ?_))
    dsimp only [vpush]
    rw [if_pos rfl] at hM2
    rw [Bool.true_and] at e2
    generalize hz : vnm X.2.1 X.2.2.1 lo (vmo ch) (a + 1) = z at *
    refine r_istore c119_65 rfl (r_aload c119_66 rfl ?_)
    try dsimp only [vst]
    refine r_iv0 c119_67 vr_114 hM2.1 rfl (k_fresh hM2 (by omega) (fun h3 G3 hM3 p3 f3 => ?_))
    dsimp only [vpush]
    have loop : ∀ u i : Nat, i + u = 720 → ∀ (h4 : vHp) (G4 : Nat → Bool) (x5 : Value), vRp h4 c X z.1 w2 (tp + 1) G4 → vfil G3 G4 (720 * tp) (fun e => decide (vmi ch e = v)) i → vFr (vZp c) h h4 → vW (vCall (d + 2)) 119 Q 74 [.ref c, .int (iI ch), .int (iI v), .int (iI ((720 * tp : Nat) : Int)), .int (iI (i : Int)), x5] [] h4 0 0 := by
      intro u
      induction u with
      | zero =>
        intro i hi h4 G4 x5 hM4 hf f4
        obtain rfl : i = 720 := by omega
        refine r_iload c119_74 rfl (r_ci c119_76 ?_)
        refine r_icge c119_79 (by omega) (by omega) (by omega) (by omega) (fun c_79 => ?_) (fun q => by exfalso; omega)
        refine r_iload c119_165 rfl ?_
        refine r_iret (st := []) c119_166 ?_
        refine k h4 z.1 w2 G4 hM4 (by omega) (vpre_tr p3 (vfil_pre hf) (Nat.le_refl _)) ⟨fun q => (by cases q), fun _ => ?_⟩ f4
        cases w2
        · rw [if_pos (by simpa using e2.symm)]
          exact ⟨rfl, fun _ => rfl, fun q => (by cases q)⟩
        · rw [if_neg (by simpa using e2.symm)]
          refine ⟨rfl, fun q => (by cases q), fun _ => ⟨_, rfl, fun e he => ?_⟩⟩
          rw [hf.1 e he, e3 rfl]
          exact vmi_un (by rw [← e3 rfl]; exact v1) e
      | succ u ih =>
        intro i hi h4 G4 x5 hM4 hf f4
        have vr := vmi_rg ch i (by omega)
        have tail : ∀ x : Int, x = vmi ch i → vW (vCall (d + 2)) 119 Q 137 [.ref c, .int (iI ch), .int (iI v), .int (iI ((720 * tp : Nat) : Int)), .int (iI (i : Int)), x5] [.int (iI x)] h4 0 0 := by
          intro x hx
          obtain ⟨g, g1, g2⟩ := hM4.2.1
          have fin : ∀ b : Bool, b = decide (vmi ch i = v) → vW (vCall (d + 2)) 119 Q 158 [.ref c, .int (iI ch), .int (iI v), .int (iI ((720 * tp : Nat) : Int)), .int (iI (i : Int)), .int (iI x)] [.int (iI (vBi b)), .int (iI (((720 * tp : Nat) : Int) + (i : Int))), .ref (c + 10)] h4 0 0 := by
            intro b hb
            refine r_bast c119_158 g1 (Nat.le_add_right_of_le hM4.2.2.2.2.1) (by omega) (by omega) (by cases b <;> decide) (fun h5 s5 => ?_)
            refine r_iinc c119_159 rfl rfl (r_goto c119_162 ?_)
            try dsimp only [vst]
            rw [vsu]
            rw [show (((720 * tp : Nat) : Int) + (i : Int)).toNat = 720 * tp + i by omega] at s5
            exact ih (i + 1) (by omega) h5 _ _ (vRp_set hM4 g2 s5 rfl) (vfil_su hf hb) (vFr_tr f4 (vZp_s s5))
          refine r_istore c119_137 rfl (r_aload c119_139 rfl (r_get c119_140 hM4.1 rfl (r_iload c119_143 rfl (r_iload c119_144 rfl (r_iadd c119_146 (r_iload c119_147 rfl (r_iload c119_149 rfl ?_)))))))
          try dsimp only [vst]
          refine r_icne c119_150 (by omega) (by omega) (by omega) (by omega) (fun c_150 => ?_) (fun c_150 => ?_)
          · refine r_ci c119_157 ?_
            exact fin false (by rw [← hx]; simp [c_150])
          · refine r_ci c119_153 (r_goto c119_154 ?_)
            exact fin true (by rw [← hx]; simp [c_150])
        refine r_iload c119_74 rfl (r_ci c119_76 ?_)
        refine r_icge c119_79 (by omega) (by omega) (by omega) (by omega) (fun q => by exfalso; omega) (fun c_79 => ?_)
        refine r_iload c119_82 rfl (r_ci c119_83 ?_)
        refine r_icne c119_85 (by omega) (by omega) (by omega) (by omega) (fun c_85 => ?_) (fun c_85 => ?_)
        · refine r_iload c119_96 rfl (r_ci c119_97 ?_)
          refine r_icne c119_99 (by omega) (by omega) (by omega) (by omega) (fun c_99 => ?_) (fun c_99 => ?_)
          · refine r_iload c119_112 rfl (r_ci c119_113 ?_)
            refine r_icne c119_115 (by omega) (by omega) (by omega) (by omega) (fun c_115 => ?_) (fun c_115 => ?_)
            · refine r_iload c119_131 rfl (r_ci c119_133 (r_idiv c119_136 (by omega) (by omega) (by omega) (by omega) ?_))
              exact tail _ (by unfold vmi; rw [if_neg c_85, if_neg c_99, if_neg c_115]; omega)
            · refine r_iload c119_118 rfl (r_ci c119_120 (r_idiv c119_122 (by omega) (by omega) (by omega) (by omega) (r_ci c119_123 (r_irem c119_125 (by omega) (by omega) (by omega) (by omega) (r_ci c119_126 (r_iadd c119_127 (r_goto c119_128 ?_)))))))
              exact tail _ (by unfold vmi; rw [if_neg c_85, if_neg c_99, if_pos c_115]; omega)
          · refine r_iload c119_102 rfl (r_ci c119_104 (r_irem c119_106 (by omega) (by omega) (by omega) (by omega) (r_ci c119_107 (r_iadd c119_108 (r_goto c119_109 ?_)))))
            exact tail _ (by unfold vmi; rw [if_neg c_85, if_pos c_99]; omega)
        · refine r_iload c119_88 rfl (r_ci c119_90 (r_irem c119_92 (by omega) (by omega) (by omega) (by omega) (r_goto c119_93 ?_)))
          exact tail _ (by unfold vmi; rw [if_pos c_85]; omega)
    refine r_istore c119_70 rfl (r_ci c119_71 (r_istore c119_72 rfl ?_))
    try dsimp only [vst]
    exact loop 720 0 rfl h3 G3 _ hM3 vfil_0 (vFr_tr f1 (vFr_tr f2 f3))
  refine vin 6 [_, _, _, _, _, _] ml_119 rfl rfl ?_
  refine r_aload c119_0 rfl (r_dup c119_1 rfl (r_get c119_2 ho rfl (r_ci c119_5 (r_iadd c119_6 ?_))))
  refine r_put c119_7 ho hM.2.2.2.2.1 rfl ⟨rfl, rfl⟩ (fun h1 s1 => ?_)
  rw [vsu] at s1
  have hM1 := vRp_obj (a2 := a + 1) (w2 := true) (tp2 := tp) hM s1
  have g := main h1 vHole vHole vHole vHole hM1 (vZp_o s1)
  rcases hc with rfl | rfl | rfl | rfl
  · refine r_aload c119_10 rfl (r_iload c119_11 rfl (r_ci c119_12 ?_))
    refine r_iceq c119_14 (by omega) (by omega) (by omega) (by omega) (fun q => by exfalso; omega) (fun c_14 => ?_)
    refine r_iload c119_17 rfl (r_ci c119_18 ?_)
    refine r_icne c119_20 (by omega) (by omega) (by omega) (by omega) (fun c_20 => ?_) (fun q => by exfalso; omega)
    refine r_ci c119_27 (r_iload c119_28 rfl (r_ci c119_29 ?_))
    refine r_icne c119_31 (by omega) (by omega) (by omega) (by omega) (fun q => by exfalso; omega) (fun c_31 => ?_)
    refine r_ci c119_34 (r_goto c119_36 ?_)
    exact g
  · refine r_aload c119_10 rfl (r_iload c119_11 rfl (r_ci c119_12 ?_))
    refine r_iceq c119_14 (by omega) (by omega) (by omega) (by omega) (fun c_14 => ?_) (fun q => by exfalso; omega)
    refine r_ci c119_23 (r_goto c119_24 (r_iload c119_28 rfl (r_ci c119_29 ?_)))
    refine r_icne c119_31 (by omega) (by omega) (by omega) (by omega) (fun c_31 => ?_) (fun q => by exfalso; omega)
    refine r_iload c119_39 rfl (r_ci c119_40 ?_)
    refine r_icne c119_42 (by omega) (by omega) (by omega) (by omega) (fun q => by exfalso; omega) (fun c_42 => ?_)
    refine r_ci c119_45 (r_goto c119_47 ?_)
    exact g
  · refine r_aload c119_10 rfl (r_iload c119_11 rfl (r_ci c119_12 ?_))
    refine r_iceq c119_14 (by omega) (by omega) (by omega) (by omega) (fun q => by exfalso; omega) (fun c_14 => ?_)
    refine r_iload c119_17 rfl (r_ci c119_18 ?_)
    refine r_icne c119_20 (by omega) (by omega) (by omega) (by omega) (fun q => by exfalso; omega) (fun c_20 => ?_)
    refine r_ci c119_23 (r_goto c119_24 (r_iload c119_28 rfl (r_ci c119_29 ?_)))
    refine r_icne c119_31 (by omega) (by omega) (by omega) (by omega) (fun c_31 => ?_) (fun q => by exfalso; omega)
    refine r_iload c119_39 rfl (r_ci c119_40 ?_)
    refine r_icne c119_42 (by omega) (by omega) (by omega) (by omega) (fun c_42 => ?_) (fun q => by exfalso; omega)
    refine r_iload c119_50 rfl (r_ci c119_51 ?_)
    refine r_icne c119_53 (by omega) (by omega) (by omega) (by omega) (fun q => by exfalso; omega) (fun c_53 => ?_)
    refine r_ci c119_56 (r_goto c119_58 ?_)
    exact g
  · refine r_aload c119_10 rfl (r_iload c119_11 rfl (r_ci c119_12 ?_))
    refine r_iceq c119_14 (by omega) (by omega) (by omega) (by omega) (fun q => by exfalso; omega) (fun c_14 => ?_)
    refine r_iload c119_17 rfl (r_ci c119_18 ?_)
    refine r_icne c119_20 (by omega) (by omega) (by omega) (by omega) (fun c_20 => ?_) (fun q => by exfalso; omega)
    refine r_ci c119_27 (r_iload c119_28 rfl (r_ci c119_29 ?_))
    refine r_icne c119_31 (by omega) (by omega) (by omega) (by omega) (fun c_31 => ?_) (fun q => by exfalso; omega)
    refine r_iload c119_39 rfl (r_ci c119_40 ?_)
    refine r_icne c119_42 (by omega) (by omega) (by omega) (by omega) (fun c_42 => ?_) (fun q => by exfalso; omega)
    refine r_iload c119_50 rfl (r_ci c119_51 ?_)
    refine r_icne c119_53 (by omega) (by omega) (by omega) (by omega) (fun c_53 => ?_) (fun q => by exfalso; omega)
    refine r_ci c119_61 ?_
    exact g

