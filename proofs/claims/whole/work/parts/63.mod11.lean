theorem ml_115 : vml 115 = 6 := by decide +kernel
theorem ml_116 : vml 116 = 5 := by decide +kernel
theorem vr_116 : vrc 116 = some (6, 1) := by decide +kernel
theorem vr_118 : vrc 118 = some (6, 2) := by decide +kernel
theorem c115_0 : vlk 115 0 = some (6, 0, 0, 0, 1) := by decide +kernel
theorem c115_1 : vlk 115 1 = some (4, 1, 0, 0, 2) := by decide +kernel
theorem c115_2 : vlk 115 2 = some (58, 116, 0, 0, 5) := by decide +kernel
theorem c115_5 : vlk 115 5 = some (7, 2, 0, 0, 6) := by decide +kernel
theorem c115_6 : vlk 115 6 = some (6, 0, 0, 0, 7) := by decide +kernel
theorem c115_7 : vlk 115 7 = some (1, 0, 0, 124, 9) := by decide +kernel
theorem c115_9 : vlk 115 9 = some (58, 111, 0, 0, 12) := by decide +kernel
theorem c115_12 : vlk 115 12 = some (71, 24, 0, 0, 15) := by decide +kernel
theorem c115_15 : vlk 115 15 = some (6, 0, 0, 0, 16) := by decide +kernel
theorem c115_16 : vlk 115 16 = some (1, 0, 0, 47, 18) := by decide +kernel
theorem c115_18 : vlk 115 18 = some (58, 111, 0, 0, 21) := by decide +kernel
theorem c115_21 : vlk 115 21 = some (70, 163, 0, 0, 24) := by decide +kernel
theorem c115_24 : vlk 115 24 = some (6, 0, 0, 0, 25) := by decide +kernel
theorem c115_25 : vlk 115 25 = some (58, 110, 0, 0, 28) := by decide +kernel
theorem c115_28 : vlk 115 28 = some (1, 0, 0, 124, 30) := by decide +kernel
theorem c115_30 : vlk 115 30 = some (77, 37, 0, 0, 33) := by decide +kernel
theorem c115_33 : vlk 115 33 = some (1, 0, 0, 1, 34) := by decide +kernel
theorem c115_34 : vlk 115 34 = some (37, 38, 0, 0, 37) := by decide +kernel
theorem c115_37 : vlk 115 37 = some (1, 0, 0, 0, 38) := by decide +kernel
theorem c115_38 : vlk 115 38 = some (7, 3, 0, 0, 39) := by decide +kernel
theorem c115_39 : vlk 115 39 = some (6, 0, 0, 0, 40) := by decide +kernel
theorem c115_40 : vlk 115 40 = some (34, 0, 0, 0, 41) := by decide +kernel
theorem c115_41 : vlk 115 41 = some (42, 6, 11, 0, 44) := by decide +kernel
theorem c115_44 : vlk 115 44 = some (1, 0, 0, 1, 45) := by decide +kernel
theorem c115_45 : vlk 115 45 = some (11, 0, 0, 0, 46) := by decide +kernel
theorem c115_46 : vlk 115 46 = some (43, 6, 11, 0, 49) := by decide +kernel
theorem c115_49 : vlk 115 49 = some (6, 0, 0, 0, 50) := by decide +kernel
theorem c115_50 : vlk 115 50 = some (4, 1, 0, 0, 51) := by decide +kernel
theorem c115_51 : vlk 115 51 = some (58, 116, 0, 0, 54) := by decide +kernel
theorem c115_54 : vlk 115 54 = some (7, 4, 0, 0, 56) := by decide +kernel
theorem c115_56 : vlk 115 56 = some (1, 0, 0, 0, 57) := by decide +kernel
theorem c115_57 : vlk 115 57 = some (7, 5, 0, 0, 59) := by decide +kernel
theorem c115_59 : vlk 115 59 = some (4, 5, 0, 0, 61) := by decide +kernel
theorem c115_61 : vlk 115 61 = some (1, 0, 0, 720, 64) := by decide +kernel
theorem c115_64 : vlk 115 64 = some (79, 149, 0, 0, 67) := by decide +kernel
theorem c115_67 : vlk 115 67 = some (6, 0, 0, 0, 68) := by decide +kernel
theorem c115_68 : vlk 115 68 = some (42, 6, 13, 0, 71) := by decide +kernel
theorem c115_71 : vlk 115 71 = some (4, 2, 0, 0, 72) := by decide +kernel
theorem c115_72 : vlk 115 72 = some (4, 5, 0, 0, 74) := by decide +kernel
theorem c115_74 : vlk 115 74 = some (11, 0, 0, 0, 75) := by decide +kernel
theorem c115_75 : vlk 115 75 = some (4, 3, 0, 0, 76) := by decide +kernel
theorem c115_79 : vlk 115 79 = some (6, 0, 0, 0, 80) := by decide +kernel
theorem c115_80 : vlk 115 80 = some (42, 6, 13, 0, 83) := by decide +kernel
theorem c115_83 : vlk 115 83 = some (4, 2, 0, 0, 84) := by decide +kernel
theorem c115_84 : vlk 115 84 = some (4, 5, 0, 0, 86) := by decide +kernel
theorem c115_86 : vlk 115 86 = some (11, 0, 0, 0, 87) := by decide +kernel
theorem c115_87 : vlk 115 87 = some (47, 0, 0, 0, 88) := by decide +kernel
theorem c115_91 : vlk 115 91 = some (6, 0, 0, 0, 92) := by decide +kernel
theorem c115_92 : vlk 115 92 = some (42, 6, 13, 0, 95) := by decide +kernel
theorem c115_95 : vlk 115 95 = some (4, 4, 0, 0, 97) := by decide +kernel
theorem c115_97 : vlk 115 97 = some (4, 5, 0, 0, 99) := by decide +kernel
theorem c115_99 : vlk 115 99 = some (11, 0, 0, 0, 100) := by decide +kernel
theorem c115_100 : vlk 115 100 = some (47, 0, 0, 0, 101) := by decide +kernel
theorem c115_104 : vlk 115 104 = some (1, 0, 0, 1, 105) := by decide +kernel
theorem c115_105 : vlk 115 105 = some (37, 142, 0, 0, 108) := by decide +kernel
theorem c115_108 : vlk 115 108 = some (1, 0, 0, 0, 109) := by decide +kernel
theorem c115_109 : vlk 115 109 = some (37, 142, 0, 0, 112) := by decide +kernel
theorem c115_112 : vlk 115 112 = some (6, 0, 0, 0, 113) := by decide +kernel
theorem c115_113 : vlk 115 113 = some (42, 6, 13, 0, 116) := by decide +kernel
theorem c115_116 : vlk 115 116 = some (4, 2, 0, 0, 117) := by decide +kernel
theorem c115_117 : vlk 115 117 = some (4, 5, 0, 0, 119) := by decide +kernel
theorem c115_119 : vlk 115 119 = some (11, 0, 0, 0, 120) := by decide +kernel
theorem c115_120 : vlk 115 120 = some (47, 0, 0, 0, 121) := by decide +kernel
theorem c115_124 : vlk 115 124 = some (6, 0, 0, 0, 125) := by decide +kernel
theorem c115_125 : vlk 115 125 = some (42, 6, 13, 0, 128) := by decide +kernel
theorem c115_128 : vlk 115 128 = some (4, 4, 0, 0, 130) := by decide +kernel
theorem c115_130 : vlk 115 130 = some (4, 5, 0, 0, 132) := by decide +kernel
theorem c115_132 : vlk 115 132 = some (11, 0, 0, 0, 133) := by decide +kernel
theorem c115_133 : vlk 115 133 = some (47, 0, 0, 0, 134) := by decide +kernel
theorem c115_137 : vlk 115 137 = some (1, 0, 0, 1, 138) := by decide +kernel
theorem c115_138 : vlk 115 138 = some (37, 142, 0, 0, 141) := by decide +kernel
theorem c115_141 : vlk 115 141 = some (1, 0, 0, 0, 142) := by decide +kernel
theorem c115_142 : vlk 115 142 = some (51, 0, 0, 0, 143) := by decide +kernel
theorem c115_143 : vlk 115 143 = some (10, 5, 0, 1, 146) := by decide +kernel
theorem c115_146 : vlk 115 146 = some (37, 59, 0, 0, 149) := by decide +kernel
theorem c115_149 : vlk 115 149 = some (6, 0, 0, 0, 150) := by decide +kernel
theorem c115_150 : vlk 115 150 = some (4, 2, 0, 0, 151) := by decide +kernel
theorem c115_151 : vlk 115 151 = some (1, 0, 0, 720, 154) := by decide +kernel
theorem c115_154 : vlk 115 154 = some (14, 0, 0, 0, 155) := by decide +kernel
theorem c115_155 : vlk 115 155 = some (1, 0, 0, 1, 156) := by decide +kernel
theorem c115_156 : vlk 115 156 = some (11, 0, 0, 0, 157) := by decide +kernel
theorem c115_157 : vlk 115 157 = some (43, 6, 14, 0, 160) := by decide +kernel
theorem c115_160 : vlk 115 160 = some (37, 6, 0, 0, 163) := by decide +kernel
theorem c115_163 : vlk 115 163 = some (4, 2, 0, 0, 164) := by decide +kernel
theorem c115_164 : vlk 115 164 = some (63, 0, 0, 0, 165) := by decide +kernel
theorem c116_0 : vlk 116 0 = some (6, 0, 0, 0, 1) := by decide +kernel
theorem c116_1 : vlk 116 1 = some (4, 1, 0, 0, 2) := by decide +kernel
theorem c116_2 : vlk 116 2 = some (1, 0, 0, 1, 3) := by decide +kernel
theorem c116_3 : vlk 116 3 = some (58, 118, 0, 0, 6) := by decide +kernel
theorem c116_6 : vlk 116 6 = some (7, 2, 0, 0, 7) := by decide +kernel
theorem c116_7 : vlk 116 7 = some (6, 0, 0, 0, 8) := by decide +kernel
theorem c116_8 : vlk 116 8 = some (1, 0, 0, 38, 10) := by decide +kernel
theorem c116_10 : vlk 116 10 = some (58, 111, 0, 0, 13) := by decide +kernel
theorem c116_13 : vlk 116 13 = some (70, 102, 0, 0, 16) := by decide +kernel
theorem c116_16 : vlk 116 16 = some (6, 0, 0, 0, 17) := by decide +kernel
theorem c116_17 : vlk 116 17 = some (34, 0, 0, 0, 18) := by decide +kernel
theorem c116_18 : vlk 116 18 = some (42, 6, 11, 0, 21) := by decide +kernel
theorem c116_21 : vlk 116 21 = some (1, 0, 0, 1, 22) := by decide +kernel
theorem c116_22 : vlk 116 22 = some (11, 0, 0, 0, 23) := by decide +kernel
theorem c116_23 : vlk 116 23 = some (43, 6, 11, 0, 26) := by decide +kernel
theorem c116_26 : vlk 116 26 = some (6, 0, 0, 0, 27) := by decide +kernel
theorem c116_27 : vlk 116 27 = some (4, 1, 0, 0, 28) := by decide +kernel
theorem c116_28 : vlk 116 28 = some (1, 0, 0, 1, 29) := by decide +kernel
theorem c116_29 : vlk 116 29 = some (58, 118, 0, 0, 32) := by decide +kernel
theorem c116_32 : vlk 116 32 = some (7, 3, 0, 0, 33) := by decide +kernel
theorem c116_33 : vlk 116 33 = some (1, 0, 0, 0, 34) := by decide +kernel
theorem c116_34 : vlk 116 34 = some (7, 4, 0, 0, 36) := by decide +kernel
theorem c116_36 : vlk 116 36 = some (4, 4, 0, 0, 38) := by decide +kernel
theorem c116_38 : vlk 116 38 = some (1, 0, 0, 720, 41) := by decide +kernel
theorem c116_41 : vlk 116 41 = some (79, 88, 0, 0, 44) := by decide +kernel
theorem c116_44 : vlk 116 44 = some (6, 0, 0, 0, 45) := by decide +kernel
theorem c116_45 : vlk 116 45 = some (42, 6, 13, 0, 48) := by decide +kernel
theorem c116_48 : vlk 116 48 = some (4, 2, 0, 0, 49) := by decide +kernel
theorem c116_49 : vlk 116 49 = some (4, 4, 0, 0, 51) := by decide +kernel
theorem c116_51 : vlk 116 51 = some (11, 0, 0, 0, 52) := by decide +kernel
theorem c116_52 : vlk 116 52 = some (6, 0, 0, 0, 53) := by decide +kernel
theorem c116_53 : vlk 116 53 = some (42, 6, 13, 0, 56) := by decide +kernel
theorem c116_56 : vlk 116 56 = some (4, 2, 0, 0, 57) := by decide +kernel
theorem c116_57 : vlk 116 57 = some (4, 4, 0, 0, 59) := by decide +kernel
theorem c116_59 : vlk 116 59 = some (11, 0, 0, 0, 60) := by decide +kernel
theorem c116_60 : vlk 116 60 = some (47, 0, 0, 0, 61) := by decide +kernel
theorem c116_64 : vlk 116 64 = some (6, 0, 0, 0, 65) := by decide +kernel
theorem c116_65 : vlk 116 65 = some (42, 6, 13, 0, 68) := by decide +kernel
theorem c116_68 : vlk 116 68 = some (4, 3, 0, 0, 69) := by decide +kernel
theorem c116_69 : vlk 116 69 = some (4, 4, 0, 0, 71) := by decide +kernel
theorem c116_71 : vlk 116 71 = some (11, 0, 0, 0, 72) := by decide +kernel
theorem c116_72 : vlk 116 72 = some (47, 0, 0, 0, 73) := by decide +kernel
theorem c116_76 : vlk 116 76 = some (1, 0, 0, 1, 77) := by decide +kernel
theorem c116_77 : vlk 116 77 = some (37, 81, 0, 0, 80) := by decide +kernel
theorem c116_80 : vlk 116 80 = some (1, 0, 0, 0, 81) := by decide +kernel
theorem c116_81 : vlk 116 81 = some (51, 0, 0, 0, 82) := by decide +kernel
theorem c116_82 : vlk 116 82 = some (10, 4, 0, 1, 85) := by decide +kernel
theorem c116_85 : vlk 116 85 = some (37, 36, 0, 0, 88) := by decide +kernel
theorem c116_88 : vlk 116 88 = some (6, 0, 0, 0, 89) := by decide +kernel
theorem c116_89 : vlk 116 89 = some (4, 2, 0, 0, 90) := by decide +kernel
theorem c116_90 : vlk 116 90 = some (1, 0, 0, 720, 93) := by decide +kernel
theorem c116_93 : vlk 116 93 = some (14, 0, 0, 0, 94) := by decide +kernel
theorem c116_94 : vlk 116 94 = some (1, 0, 0, 1, 95) := by decide +kernel
theorem c116_95 : vlk 116 95 = some (11, 0, 0, 0, 96) := by decide +kernel
theorem c116_96 : vlk 116 96 = some (43, 6, 14, 0, 99) := by decide +kernel
theorem c116_99 : vlk 116 99 = some (37, 7, 0, 0, 102) := by decide +kernel
theorem c116_102 : vlk 116 102 = some (4, 2, 0, 0, 103) := by decide +kernel
theorem c116_103 : vlk 116 103 = some (63, 0, 0, 0, 104) := by decide +kernel
/-! the reference's reading: products, sums -/
theorem k_mterm {d c dep mx : Nat} {X : vMX} {F : Nat → vPr} (hF : vKm (d + 3) 118 [.int (iI (dep : Int)), .int (iI 1)] c X mx F) (hok : ∀ p, p ≤ X.2.1 → vok X.2.1 p (F p)) (hmx : 1 ≤ mx) : vKm (d + 4) 116 [.int (iI (dep : Int))] c X (mx + 1) (vpd X.2.1 X.2.2.1 F 81 (fun _ => true)) := by
  intro h a w tp G Q hM ha ht k
  have hn := hM.2.2.2.2.2.1
  have loop : ∀ (u a1 : Nat) (w1 : Bool) (G1 : Nat → Bool) (h1 : vHp) (A : vSt1), a1 ≤ X.2.1 → X.2.1 ≤ a1 + u → vRp h1 c X a1 w1 (tp + 1) G1 → vpre G G1 (720 * tp) → vFr (vZp c) h h1 → (w = false → a1 = a ∧ w1 = false) → (w = true → w1 = false → vpd X.2.1 X.2.2.1 F 81 (fun _ => true) a = (a1, none)) → (w = true → w1 = true → (∀ e, e < 720 → G1 (720 * tp + e) = A e) ∧ vpd X.2.1 X.2.2.1 F 81 (fun _ => true) a = (if vch X.2.1 X.2.2.1 a1 = 38 then vpd X.2.1 X.2.2.1 F u A (a1 + 1) else (a1, some A))) → ∀ x3 x4 : Value, vW (vCall (d + 3)) 116 Q 7 [.ref c, .int (iI (dep : Int)), .int (iI ((720 * tp : Nat) : Int)), x3, x4] [] h1 0 0 := by
    intro u
    induction u with
    | zero =>
      intro a1 w1 G1 h1 A ha1 hu hM1 p1 f1 c1 c2 c3 x3 x4
      refine r_aload c116_7 rfl (r_ci c116_8 ?_)
      refine r_iv1 c116_10 vr_111 hM1.1 rfl (k_isAt hM1 ha1 (by omega) (by omega) (fun e1 e2 => ?_) (fun e => ?_))
      · have := vch_lt (n := X.2.1) (t := X.2.2.1) (p := a1) (by omega)
        exfalso; omega
      · dsimp only [vpush]
        refine r_ifeq c116_13 (by omega) (by omega) (fun c_13 => ?_) (fun q => by exfalso; omega)
        refine r_iload c116_102 rfl ?_
        refine r_iret (st := []) c116_103 ?_
        refine k h1 a1 w1 G1 hM1 ha1 p1 ⟨c1, fun q => ?_⟩ f1
        cases w1
        · rw [c2 q rfl]
          exact ⟨rfl, fun _ => rfl, fun z => by cases z⟩
        · rw [(c3 q rfl).2, if_neg (fun z => e ⟨rfl, z⟩)]
          exact ⟨rfl, fun z => (by cases z), fun _ => ⟨A, rfl, (c3 q rfl).1⟩⟩
    | succ u ih =>
      intro a1 w1 G1 h1 A ha1 hu hM1 p1 f1 c1 c2 c3 x3 x4
      refine r_aload c116_7 rfl (r_ci c116_8 ?_)
      refine r_iv1 c116_10 vr_111 hM1.1 rfl (k_isAt hM1 ha1 (by omega) (by omega) (fun e1 e2 => ?_) (fun e => ?_))
      · dsimp only [vpush]
        have hl := vch_lt (n := X.2.1) (t := X.2.2.1) (p := a1) (by omega)
        subst e1
        have hw : w = true := by
          cases w
          · exact absurd (c1 rfl).2 (by decide)
          · rfl
        obtain ⟨row, hr⟩ := c3 hw rfl
        rw [if_pos e2] at hr
        have hr2 := hr.trans (show vpd X.2.1 X.2.2.1 F (u + 1) A (a1 + 1) = vth (F (a1 + 1)) (fun q S => if vch X.2.1 X.2.2.1 q = 38 then vpd X.2.1 X.2.2.1 F u (fun d => A d && S d) (q + 1) else (q, some (fun d => A d && S d))) from rfl)
        have fo := hok (a1 + 1) hl
        refine r_ifeq c116_13 (by omega) (by omega) (fun q => by exfalso; omega) (fun c_13 => ?_)
        refine r_aload c116_16 rfl (r_dup c116_17 rfl (r_get c116_18 hM1.1 rfl (r_ci c116_21 (r_iadd c116_22 ?_))))
        refine r_put c116_23 hM1.1 hM1.2.2.2.2.1 rfl ⟨rfl, rfl⟩ (fun h2 s2 => ?_)
        rw [vsu] at s2
        have hM2 := vRp_obj (a2 := a1 + 1) (w2 := true) (tp2 := tp + 1) hM1 s2
        refine r_aload c116_26 rfl (r_iload c116_27 rfl (r_ci c116_28 ?_))
        refine r_iv2 c116_29 vr_118 hM2.1 rfl (hF h2 _ _ _ _ _ hM2 hl (by omega) (fun h3 a3 w3 G3 hM3 ha3 p3 r3 f3 => ?_))
        dsimp only [vpush]
        obtain ⟨q1, q2, q3⟩ := r3.2 rfl
        have inner : ∀ v i : Nat, i + v = 720 → ∀ (h4 : vHp) (G4 : Nat → Bool), vRp h4 c X a3 w3 (tp + 1 + 1) G4 → vfil G3 G4 (720 * tp) (fun e => G3 (720 * tp + e) && G3 (720 * (tp + 1) + e)) i → vFr (vZp c) h h4 → vW (vCall (d + 3)) 116 Q 36 [.ref c, .int (iI (dep : Int)), .int (iI ((720 * tp : Nat) : Int)), .int (iI ((720 * (tp + 1) : Nat) : Int)), .int (iI (i : Int))] [] h4 0 0 := by
          intro v
          induction v with
          | zero =>
            intro i hi h4 G4 hM4 hf f4
            obtain rfl : i = 720 := by omega
            refine r_iload c116_36 rfl (r_ci c116_38 ?_)
            refine r_icge c116_41 (by omega) (by omega) (by omega) (by omega) (fun c_41 => ?_) (fun q => by exfalso; omega)
            refine r_aload c116_88 rfl (r_iload c116_89 rfl (r_ci c116_90 (r_idiv c116_93 (by omega) (by omega) (by omega) (by omega) (r_ci c116_94 (r_iadd c116_95 ?_)))))
            rw [show ((720 * tp : Nat) : Int) / 720 + 1 = ((tp + 1 : Nat) : Int) by omega]
            refine r_put c116_96 hM4.1 hM4.2.2.2.2.1 rfl ⟨rfl, rfl⟩ (fun h5 s5 => ?_)
            have hM5 := vRp_obj (a2 := a3) (w2 := w3) (tp2 := tp + 1) hM4 s5
            refine r_goto c116_99 ?_
            have p4 : vpre G G4 (720 * tp) := fun k hk => (hf.2 k (Or.inl hk)).trans ((p3 k (by omega)).trans (p1 k hk))
            cases w3
            · exact ih a3 false G4 h5 A ha3 (by have := fo.1; omega) hM5 p4 (vFr_tr f4 (vZp_o s5)) (fun z => by rw [hw] at z; cases z) (fun _ _ => by rw [hr2, vth_none (q2 rfl), ← q1]) (fun _ z => by cases z) _ _
            · obtain ⟨S, t1, t2⟩ := q3 rfl
              refine ih a3 true G4 h5 (fun e => A e && S e) ha3 (by have := fo.1; omega) hM5 p4 (vFr_tr f4 (vZp_o s5)) (fun z => by rw [hw] at z; cases z) (fun _ z => by cases z) (fun _ _ => ⟨fun e he => ?_, by rw [hr2, vth_some t1, ← q1]⟩) _ _
              have g0 := hf.1 e he
              dsimp only at g0
              rw [g0, t2 e he, p3 _ (by omega), row e he]
          | succ v ihv =>
            intro i hi h4 G4 hM4 hf f4
            obtain ⟨g, g1, g2⟩ := hM4.2.1
            have fin : ∀ b : Bool, b = (G3 (720 * tp + i) && G3 (720 * (tp + 1) + i)) → vW (vCall (d + 3)) 116 Q 81 [.ref c, .int (iI (dep : Int)), .int (iI ((720 * tp : Nat) : Int)), .int (iI ((720 * (tp + 1) : Nat) : Int)), .int (iI (i : Int))] [.int (iI (vBi b)), .int (iI (((720 * tp : Nat) : Int) + (i : Int))), .ref (c + 10)] h4 0 0 := by
              intro b hb
              refine r_bast c116_81 g1 (Nat.le_add_right_of_le hM4.2.2.2.2.1) (by omega) (by omega) (by cases b <;> decide) (fun h5 s5 => ?_)
              refine r_iinc c116_82 rfl rfl (r_goto c116_85 ?_)
              try dsimp only [vst]
              rw [vsu]
              rw [show (((720 * tp : Nat) : Int) + (i : Int)).toNat = 720 * tp + i by omega] at s5
              exact ihv (i + 1) (by omega) h5 _ (vRp_set hM4 g2 s5 rfl) (vfil_su hf hb) (vFr_tr f4 (vZp_s s5))
            rw [← hf.2 (720 * tp + i) (Or.inr (Nat.le_refl _)), ← hf.2 (720 * (tp + 1) + i) (Or.inr (by omega))] at fin
            refine r_iload c116_36 rfl (r_ci c116_38 ?_)
            refine r_icge c116_41 (by omega) (by omega) (by omega) (by omega) (fun q => by exfalso; omega) (fun c_41 => ?_)
            refine r_aload c116_44 rfl (r_get c116_45 hM4.1 rfl (r_iload c116_48 rfl (r_iload c116_49 rfl (r_iadd c116_51 (r_aload c116_52 rfl (r_get c116_53 hM4.1 rfl (r_iload c116_56 rfl (r_iload c116_57 rfl (r_iadd c116_59 (r_bald c116_60 g1 (by omega) (by omega) ?_))))))))))
            rw [show (((720 * tp : Nat) : Int) + (i : Int)).toNat = 720 * tp + i by omega, g2 _ (by omega)]
            refine vife (by decide +kernel : vlk 116 61 = some (70, 80, 0, 0, 64)) (fun b => ?_) (fun b => ?_)
            · refine r_ci c116_80 ?_
              exact fin false (by rw [b]; rfl)
            · refine r_aload c116_64 rfl (r_get c116_65 hM4.1 rfl (r_iload c116_68 rfl (r_iload c116_69 rfl (r_iadd c116_71 (r_bald c116_72 g1 (by omega) (by omega) ?_)))))
              rw [show (((720 * (tp + 1) : Nat) : Int) + (i : Int)).toNat = 720 * (tp + 1) + i by omega, g2 _ (by omega)]
              refine vife (by decide +kernel : vlk 116 73 = some (70, 80, 0, 0, 76)) (fun b2 => ?_) (fun b2 => ?_)
              · refine r_ci c116_80 ?_
                exact fin false (by rw [b2, Bool.and_false])
              · refine r_ci c116_76 (r_goto c116_77 ?_)
                exact fin true (by rw [b, b2]; rfl)
        refine r_istore c116_32 rfl (r_ci c116_33 (r_istore c116_34 rfl ?_))
        try dsimp only [vst]
        exact inner 720 0 rfl h3 G3 hM3 vfil_0 (vFr_tr f1 (vFr_tr (vZp_o s2) f3))
      · dsimp only [vpush]
        refine r_ifeq c116_13 (by omega) (by omega) (fun c_13 => ?_) (fun q => by exfalso; omega)
        refine r_iload c116_102 rfl ?_
        refine r_iret (st := []) c116_103 ?_
        refine k h1 a1 w1 G1 hM1 ha1 p1 ⟨c1, fun q => ?_⟩ f1
        cases w1
        · rw [c2 q rfl]
          exact ⟨rfl, fun _ => rfl, fun z => by cases z⟩
        · rw [(c3 q rfl).2, if_neg (fun z => e ⟨rfl, z⟩)]
          exact ⟨rfl, fun z => (by cases z), fun _ => ⟨A, rfl, (c3 q rfl).1⟩⟩
  refine vin 5 [_, _, _, _, _] ml_116 rfl rfl ?_
  refine r_aload c116_0 rfl (r_iload c116_1 rfl (r_ci c116_2 ?_))
  refine r_iv2 c116_3 vr_118 hM.1 rfl (hF h _ _ _ _ _ hM ha (by omega) (fun h1 a1 w1 G1 hM1 ha1 p1 r1 f1 => ?_))
  dsimp only [vpush]
  refine r_istore c116_6 rfl ?_
  try dsimp only [vst]
  have hr : vpd X.2.1 X.2.2.1 F 81 (fun _ => true) a = vth (F a) (fun q S => if vch X.2.1 X.2.2.1 q = 38 then vpd X.2.1 X.2.2.1 F 80 (fun d => true && S d) (q + 1) else (q, some (fun d => true && S d))) := rfl
  cases w
  · obtain ⟨q1, q2⟩ := r1.1 rfl
    subst q1 q2
    exact loop 80 a1 false G1 h1 (fun _ => true) ha1 (by omega) hM1 p1 f1 (fun _ => ⟨rfl, rfl⟩) (fun z => by cases z) (fun z => by cases z) _ _
  · obtain ⟨q1, q2, q3⟩ := r1.2 rfl
    cases w1
    · exact loop 80 a1 false G1 h1 (fun _ => true) ha1 (by omega) hM1 p1 f1 (fun z => by cases z) (fun _ _ => by rw [hr, vth_none (q2 rfl), ← q1]) (fun _ z => by cases z) _ _
    · obtain ⟨S, t1, t2⟩ := q3 rfl
      exact loop 80 a1 true G1 h1 (fun e => true && S e) ha1 (by omega) hM1 p1 f1 (fun z => by cases z) (fun _ z => by cases z) (fun _ _ => ⟨fun e he => by rw [t2 e he, Bool.true_and], by rw [hr, vth_some t1, ← q1]⟩) _ _
theorem vpz_su {n : Nat} {t : Nat → Int} {F : Nat → vPr} {u : Nat} {w : Bool} {A : vSt1} {p : Nat} : vpz n t F (u + 1) w A p = vth (F p) (fun q S => if vch n t q = 47 then vpz n t F u true (fun d => if w = true then A d && !S d else A d || S d) (q + 1) else if vch n t q = 124 then vpz n t F u false (fun d => if w = true then A d && !S d else A d || S d) (q + 1) else (q, some (fun d => if w = true then A d && !S d else A d || S d))) := rfl
theorem k_mexpr {d c dep mx U : Nat} {X : vMX} {F : Nat → vPr} (hF : vKm (d + 3) 116 [.int (iI (dep : Int))] c X mx F) (hok : ∀ p, p ≤ X.2.1 → vok X.2.1 p (F p)) (hmx : 1 ≤ mx) (hU : 80 ≤ U) : vKm (d + 4) 115 [.int (iI (dep : Int))] c X (mx + 1) (vpz X.2.1 X.2.2.1 F (U + 1) false (fun _ => false)) := by
  intro h a w tp G Q hM ha ht k
  have hn := hM.2.2.2.2.2.1
  have loop : ∀ (u a1 : Nat) (w1 : Bool) (G1 : Nat → Bool) (h1 : vHp) (A : vSt1), a1 ≤ X.2.1 → X.2.1 ≤ a1 + u → vRp h1 c X a1 w1 (tp + 1) G1 → vpre G G1 (720 * tp) → vFr (vZp c) h h1 → (w = false → a1 = a ∧ w1 = false) → (w = true → w1 = false → vpz X.2.1 X.2.2.1 F (U + 1) false (fun _ => false) a = (a1, none)) → (w = true → w1 = true → (∀ e, e < 720 → G1 (720 * tp + e) = A e) ∧ vpz X.2.1 X.2.2.1 F (U + 1) false (fun _ => false) a = (if vch X.2.1 X.2.2.1 a1 = 47 then vpz X.2.1 X.2.2.1 F u true A (a1 + 1) else if vch X.2.1 X.2.2.1 a1 = 124 then vpz X.2.1 X.2.2.1 F u false A (a1 + 1) else (a1, some A))) → ∀ x3 x4 x5 : Value, vW (vCall (d + 3)) 115 Q 6 [.ref c, .int (iI (dep : Int)), .int (iI ((720 * tp : Nat) : Int)), x3, x4, x5] [] h1 0 0 := by
    intro u
    induction u with
    | zero =>
      intro a1 w1 G1 h1 A ha1 hu hM1 p1 f1 c1 c2 c3 x3 x4 x5
      refine r_aload c115_6 rfl (r_ci c115_7 ?_)
      refine r_iv1 c115_9 vr_111 hM1.1 rfl (k_isAt hM1 ha1 (by omega) (by omega) (fun e1 e2 => ?_) (fun e => ?_))
      · have := vch_lt (n := X.2.1) (t := X.2.2.1) (p := a1) (by omega)
        exfalso; omega
      · dsimp only [vpush]
        refine r_ifne c115_12 (by omega) (by omega) (fun q => by exfalso; omega) (fun c_12 => ?_)
        refine r_aload c115_15 rfl (r_ci c115_16 ?_)
        refine r_iv1 c115_18 vr_111 hM1.1 rfl (k_isAt hM1 ha1 (by omega) (by omega) (fun e1 e2 => ?_) (fun e0 => ?_))
        · have := vch_lt (n := X.2.1) (t := X.2.2.1) (p := a1) (by omega)
          exfalso; omega
        · dsimp only [vpush]
          refine r_ifeq c115_21 (by omega) (by omega) (fun c_21 => ?_) (fun q => by exfalso; omega)
          refine r_iload c115_163 rfl ?_
          refine r_iret (st := []) c115_164 ?_
          refine k h1 a1 w1 G1 hM1 ha1 p1 ⟨c1, fun q => ?_⟩ f1
          cases w1
          · rw [c2 q rfl]
            exact ⟨rfl, fun _ => rfl, fun z => by cases z⟩
          · rw [(c3 q rfl).2, if_neg (fun z => e0 ⟨rfl, z⟩), if_neg (fun z => e ⟨rfl, z⟩)]
            exact ⟨rfl, fun z => (by cases z), fun _ => ⟨A, rfl, (c3 q rfl).1⟩⟩
    | succ u ih =>
      intro a1 w1 G1 h1 A ha1 hu hM1 p1 f1 c1 c2 c3 x3 x4 x5
      have body : ∀ mo : Bool, w = true → w1 = true → vch X.2.1 X.2.2.1 a1 = (if mo = true then 124 else 47) → vW (vCall (d + 3)) 115 Q 24 [.ref c, .int (iI (dep : Int)), .int (iI ((720 * tp : Nat) : Int)), x3, x4, x5] [] h1 0 0 := by
        intro mo hw e1 hch
        subst e1
        obtain ⟨row, hr⟩ := c3 hw rfl
        have hc0 : 0 ≤ vch X.2.1 X.2.2.1 a1 := by rw [hch]; cases mo <;> decide
        have hl := vch_lt hc0
        have hr1 : vpz X.2.1 X.2.2.1 F (U + 1) false (fun _ => false) a = vpz X.2.1 X.2.2.1 F (u + 1) (!mo) A (a1 + 1) := by
          rw [hr, hch]
          cases mo
          · exact if_pos rfl
          · rw [if_neg (by decide), if_pos (by rfl)]; rfl
        have hr2 := hr1.trans vpz_su
        have fo := hok (a1 + 1) hl
        have rest : vW (vCall (d + 3)) 115 Q 38 [.ref c, .int (iI (dep : Int)), .int (iI ((720 * tp : Nat) : Int)), x3, x4, x5] [.int (iI (vBi mo))] h1 0 0 := by
          refine r_istore c115_38 rfl (r_aload c115_39 rfl (r_dup c115_40 rfl (r_get c115_41 hM1.1 rfl (r_ci c115_44 (r_iadd c115_45 ?_)))))
          try dsimp only [vst]
          refine r_put c115_46 hM1.1 hM1.2.2.2.2.1 rfl ⟨rfl, rfl⟩ (fun h2 s2 => ?_)
          rw [vsu] at s2
          have hM2 := vRp_obj (a2 := a1 + 1) (w2 := true) (tp2 := tp + 1) hM1 s2
          refine r_aload c115_49 rfl (r_iload c115_50 rfl ?_)
          refine r_iv1 c115_51 vr_116 hM2.1 rfl (hF h2 _ _ _ _ _ hM2 hl (by omega) (fun h3 a3 w3 G3 hM3 ha3 p3 r3 f3 => ?_))
          dsimp only [vpush]
          obtain ⟨q1, q2, q3⟩ := r3.2 rfl
          have inner : ∀ v i : Nat, i + v = 720 → ∀ (h4 : vHp) (G4 : Nat → Bool), vRp h4 c X a3 w3 (tp + 1 + 1) G4 → vfil G3 G4 (720 * tp) (fun e => if (!mo) = true then G3 (720 * tp + e) && !G3 (720 * (tp + 1) + e) else G3 (720 * tp + e) || G3 (720 * (tp + 1) + e)) i → vFr (vZp c) h h4 → vW (vCall (d + 3)) 115 Q 59 [.ref c, .int (iI (dep : Int)), .int (iI ((720 * tp : Nat) : Int)), .int (iI (vBi mo)), .int (iI ((720 * (tp + 1) : Nat) : Int)), .int (iI (i : Int))] [] h4 0 0 := by
            intro v
            induction v with
            | zero =>
              intro i hi h4 G4 hM4 hf f4
              obtain rfl : i = 720 := by omega
              refine r_iload c115_59 rfl (r_ci c115_61 ?_)
              refine r_icge c115_64 (by omega) (by omega) (by omega) (by omega) (fun c_64 => ?_) (fun q => by exfalso; omega)
              refine r_aload c115_149 rfl (r_iload c115_150 rfl (r_ci c115_151 (r_idiv c115_154 (by omega) (by omega) (by omega) (by omega) (r_ci c115_155 (r_iadd c115_156 ?_)))))
              rw [show ((720 * tp : Nat) : Int) / 720 + 1 = ((tp + 1 : Nat) : Int) by omega]
              refine r_put c115_157 hM4.1 hM4.2.2.2.2.1 rfl ⟨rfl, rfl⟩ (fun h5 s5 => ?_)
              have hM5 := vRp_obj (a2 := a3) (w2 := w3) (tp2 := tp + 1) hM4 s5
              refine r_goto c115_160 ?_
              have p4 : vpre G G4 (720 * tp) := fun k hk => (hf.2 k (Or.inl hk)).trans ((p3 k (by omega)).trans (p1 k hk))
              cases w3
              · exact ih a3 false G4 h5 A ha3 (by have := fo.1; omega) hM5 p4 (vFr_tr f4 (vZp_o s5)) (fun z => by rw [hw] at z; cases z) (fun _ _ => by rw [hr2, vth_none (q2 rfl), ← q1]) (fun _ z => by cases z) _ _ _
              · obtain ⟨S, t1, t2⟩ := q3 rfl
                refine ih a3 true G4 h5 (fun e => if (!mo) = true then A e && !S e else A e || S e) ha3 (by have := fo.1; omega) hM5 p4 (vFr_tr f4 (vZp_o s5)) (fun z => by rw [hw] at z; cases z) (fun _ z => by cases z) (fun _ _ => ⟨fun e he => ?_, by rw [hr2, vth_some t1, ← q1]⟩) _ _ _
                have g0 := hf.1 e he
                dsimp only at g0
                rw [g0, t2 e he, p3 _ (by omega), row e he]
            | succ v ihv =>
              intro i hi h4 G4 hM4 hf f4
              obtain ⟨g, g1, g2⟩ := hM4.2.1
              have fin : ∀ b : Bool, b = (if (!mo) = true then G3 (720 * tp + i) && !G3 (720 * (tp + 1) + i) else G3 (720 * tp + i) || G3 (720 * (tp + 1) + i)) → vW (vCall (d + 3)) 115 Q 142 [.ref c, .int (iI (dep : Int)), .int (iI ((720 * tp : Nat) : Int)), .int (iI (vBi mo)), .int (iI ((720 * (tp + 1) : Nat) : Int)), .int (iI (i : Int))] [.int (iI (vBi b)), .int (iI (((720 * tp : Nat) : Int) + (i : Int))), .ref (c + 10)] h4 0 0 := by
                intro b hb
                refine r_bast c115_142 g1 (Nat.le_add_right_of_le hM4.2.2.2.2.1) (by omega) (by omega) (by cases b <;> decide) (fun h5 s5 => ?_)
                refine r_iinc c115_143 rfl rfl (r_goto c115_146 ?_)
                try dsimp only [vst]
                rw [vsu]
                rw [show (((720 * tp : Nat) : Int) + (i : Int)).toNat = 720 * tp + i by omega] at s5
                exact ihv (i + 1) (by omega) h5 _ (vRp_set hM4 g2 s5 rfl) (vfil_su hf hb) (vFr_tr f4 (vZp_s s5))
              rw [← hf.2 (720 * tp + i) (Or.inr (Nat.le_refl _)), ← hf.2 (720 * (tp + 1) + i) (Or.inr (by omega))] at fin
              refine r_iload c115_59 rfl (r_ci c115_61 ?_)
              refine r_icge c115_64 (by omega) (by omega) (by omega) (by omega) (fun q => by exfalso; omega) (fun c_64 => ?_)
              refine r_aload c115_67 rfl (r_get c115_68 hM4.1 rfl (r_iload c115_71 rfl (r_iload c115_72 rfl (r_iadd c115_74 (r_iload c115_75 rfl ?_)))))
              refine vife (by decide +kernel : vlk 115 76 = some (70, 112, 0, 0, 79)) (fun bm => ?_) (fun bm => ?_)
              · subst bm
                simp only [Bool.not_false, if_true] at fin
                refine r_aload c115_112 rfl (r_get c115_113 hM4.1 rfl (r_iload c115_116 rfl (r_iload c115_117 rfl (r_iadd c115_119 (r_bald c115_120 g1 (by omega) (by omega) ?_)))))
                rw [show (((720 * tp : Nat) : Int) + (i : Int)).toNat = 720 * tp + i by omega, g2 _ (by omega)]
                refine vife (by decide +kernel : vlk 115 121 = some (70, 141, 0, 0, 124)) (fun b => ?_) (fun b => ?_)
                · refine r_ci c115_141 ?_
                  exact fin false (by rw [b]; rfl)
                · refine r_aload c115_124 rfl (r_get c115_125 hM4.1 rfl (r_iload c115_128 rfl (r_iload c115_130 rfl (r_iadd c115_132 (r_bald c115_133 g1 (by omega) (by omega) ?_)))))
                  rw [show (((720 * (tp + 1) : Nat) : Int) + (i : Int)).toNat = 720 * (tp + 1) + i by omega, g2 _ (by omega)]
                  refine vifb (by decide +kernel : vlk 115 134 = some (71, 141, 0, 0, 137)) (fun b2 => ?_) (fun b2 => ?_)
                  · refine r_ci c115_141 ?_
                    exact fin false (by rw [b, b2]; rfl)
                  · refine r_ci c115_137 (r_goto c115_138 ?_)
                    exact fin true (by rw [b, b2]; rfl)
              · subst bm
                simp only [Bool.not_true, Bool.false_eq_true, if_false] at fin
                refine r_aload c115_79 rfl (r_get c115_80 hM4.1 rfl (r_iload c115_83 rfl (r_iload c115_84 rfl (r_iadd c115_86 (r_bald c115_87 g1 (by omega) (by omega) ?_)))))
                rw [show (((720 * tp : Nat) : Int) + (i : Int)).toNat = 720 * tp + i by omega, g2 _ (by omega)]
                refine vifb (by decide +kernel : vlk 115 88 = some (71, 104, 0, 0, 91)) (fun b => ?_) (fun b => ?_)
                · refine r_ci c115_104 (r_goto c115_105 ?_)
                  exact fin true (by rw [b]; rfl)
                · refine r_aload c115_91 rfl (r_get c115_92 hM4.1 rfl (r_iload c115_95 rfl (r_iload c115_97 rfl (r_iadd c115_99 (r_bald c115_100 g1 (by omega) (by omega) ?_)))))
                  rw [show (((720 * (tp + 1) : Nat) : Int) + (i : Int)).toNat = 720 * (tp + 1) + i by omega, g2 _ (by omega)]
                  refine vife (by decide +kernel : vlk 115 101 = some (70, 108, 0, 0, 104)) (fun b2 => ?_) (fun b2 => ?_)
                  · refine r_ci c115_108 (r_goto c115_109 ?_)
                    exact fin false (by rw [b, b2]; rfl)
                  · refine r_ci c115_104 (r_goto c115_105 ?_)
                    exact fin true (by rw [b, b2]; rfl)
          refine r_istore c115_54 rfl (r_ci c115_56 (r_istore c115_57 rfl ?_))
          try dsimp only [vst]
          exact inner 720 0 rfl h3 G3 hM3 vfil_0 (vFr_tr f1 (vFr_tr (vZp_o s2) f3))
        have rg := vpe0_rg hM.2.2.2.2.2 a1
        have pe := vpe0_eq hc0
        refine r_aload c115_24 rfl ?_
        refine r_iv0 c115_25 vr_110 hM1.1 rfl (k_peek hM1 ha1 ?_)
        dsimp only [vpush]
        refine r_ci c115_28 ?_
        refine r_icne c115_30 (by omega) (by omega) (by omega) (by omega) (fun c_30 => ?_) (fun c_30 => ?_)
        · cases mo
          · refine r_ci c115_37 ?_
            exact rest
          · rw [if_pos rfl] at hch; exfalso; omega
        · cases mo
          · rw [if_neg (by decide)] at hch; exfalso; omega
          · refine r_ci c115_33 (r_goto c115_34 ?_)
            exact rest
      have hw1 : w1 = true → w = true := fun z => by
        cases w
        · rw [(c1 rfl).2] at z; cases z
        · rfl
      refine r_aload c115_6 rfl (r_ci c115_7 ?_)
      refine r_iv1 c115_9 vr_111 hM1.1 rfl (k_isAt hM1 ha1 (by omega) (by omega) (fun e1 e2 => ?_) (fun e => ?_))
      · dsimp only [vpush]
        refine r_ifne c115_12 (by omega) (by omega) (fun c_12 => ?_) (fun q => by exfalso; omega)
        exact body true (hw1 e1) e1 e2
      · dsimp only [vpush]
        refine r_ifne c115_12 (by omega) (by omega) (fun q => by exfalso; omega) (fun c_12 => ?_)
        refine r_aload c115_15 rfl (r_ci c115_16 ?_)
        refine r_iv1 c115_18 vr_111 hM1.1 rfl (k_isAt hM1 ha1 (by omega) (by omega) (fun e1 e2 => ?_) (fun e0 => ?_))
        · dsimp only [vpush]
          refine r_ifeq c115_21 (by omega) (by omega) (fun q => by exfalso; omega) (fun c_21 => ?_)
          exact body false (hw1 e1) e1 e2
        · dsimp only [vpush]
          refine r_ifeq c115_21 (by omega) (by omega) (fun c_21 => ?_) (fun q => by exfalso; omega)
          refine r_iload c115_163 rfl ?_
          refine r_iret (st := []) c115_164 ?_
          refine k h1 a1 w1 G1 hM1 ha1 p1 ⟨c1, fun q => ?_⟩ f1
          cases w1
          · rw [c2 q rfl]
            exact ⟨rfl, fun _ => rfl, fun z => by cases z⟩
          · rw [(c3 q rfl).2, if_neg (fun z => e0 ⟨rfl, z⟩), if_neg (fun z => e ⟨rfl, z⟩)]
            exact ⟨rfl, fun z => (by cases z), fun _ => ⟨A, rfl, (c3 q rfl).1⟩⟩
  refine vin 6 [_, _, _, _, _, _] ml_115 rfl rfl ?_
  refine r_aload c115_0 rfl (r_iload c115_1 rfl ?_)
  refine r_iv1 c115_2 vr_116 hM.1 rfl (hF h _ _ _ _ _ hM ha (by omega) (fun h1 a1 w1 G1 hM1 ha1 p1 r1 f1 => ?_))
  dsimp only [vpush]
  refine r_istore c115_5 rfl ?_
  try dsimp only [vst]
  have hr := vpz_su (n := X.2.1) (t := X.2.2.1) (F := F) (u := U) (w := false) (A := fun _ => false) (p := a)
  cases w
  · obtain ⟨q1, q2⟩ := r1.1 rfl
    subst q1 q2
    exact loop U a1 false G1 h1 (fun _ => true) ha1 (by omega) hM1 p1 f1 (fun _ => ⟨rfl, rfl⟩) (fun z => by cases z) (fun z => by cases z) _ _ _
  · obtain ⟨q1, q2, q3⟩ := r1.2 rfl
    cases w1
    · exact loop U a1 false G1 h1 (fun _ => true) ha1 (by omega) hM1 p1 f1 (fun z => by cases z) (fun _ _ => by rw [hr, vth_none (q2 rfl), ← q1]) (fun _ z => by cases z) _ _ _
    · obtain ⟨S, t1, t2⟩ := q3 rfl
      exact loop U a1 true G1 h1 (fun d => if false = true then false && !S d else false || S d) ha1 (by omega) hM1 p1 f1 (fun z => by cases z) (fun _ z => by cases z) (fun _ _ => ⟨fun e he => by rw [t2 e he, if_neg (by decide), Bool.false_or], by rw [hr, vth_some t1, ← q1]⟩) _ _ _

