theorem ml_45 : vml 45 = 8 := by decide +kernel
theorem ml_46 : vml 46 = 7 := by decide +kernel
theorem ml_47 : vml 47 = 5 := by decide +kernel
theorem ml_48 : vml 48 = 4 := by decide +kernel
theorem vr_3 : vrc 3 = some (0, 1) := by decide +kernel
theorem vr_15 : vrc 15 = some (0, 2) := by decide +kernel
theorem vr_16 : vrc 16 = some (0, 2) := by decide +kernel
theorem vr_17 : vrc 17 = some (0, 3) := by decide +kernel
theorem vr_38 : vrc 38 = some (3, 2) := by decide +kernel
theorem vr_48 : vrc 48 = some (3, 2) := by decide +kernel
theorem vr_51 : vrc 51 = some (3, 1) := by decide +kernel
theorem vr_91 : vrc 91 = some (5, 1) := by decide +kernel
theorem c45_0 : vlk 45 0 = some (6, 0, 0, 0, 1) := by decide +kernel
theorem c45_1 : vlk 45 1 = some (1, 0, 0, 1, 2) := by decide +kernel
theorem c45_2 : vlk 45 2 = some (4, 1, 0, 0, 3) := by decide +kernel
theorem c45_3 : vlk 45 3 = some (59, 50, 0, 0, 6) := by decide +kernel
theorem c45_6 : vlk 45 6 = some (58, 49, 0, 0, 9) := by decide +kernel
theorem c45_9 : vlk 45 9 = some (7, 5, 0, 0, 11) := by decide +kernel
theorem c45_11 : vlk 45 11 = some (4, 5, 0, 0, 13) := by decide +kernel
theorem c45_13 : vlk 45 13 = some (1, 0, 0, (-1), 14) := by decide +kernel
theorem c45_14 : vlk 45 14 = some (77, 19, 0, 0, 17) := by decide +kernel
theorem c45_17 : vlk 45 17 = some (1, 0, 0, 0, 18) := by decide +kernel
theorem c45_18 : vlk 45 18 = some (63, 1, 0, 0, 19) := by decide +kernel
theorem c45_19 : vlk 45 19 = some (6, 0, 0, 0, 20) := by decide +kernel
theorem c45_20 : vlk 45 20 = some (58, 36, 0, 0, 23) := by decide +kernel
theorem c45_23 : vlk 45 23 = some (59, 51, 0, 0, 26) := by decide +kernel
theorem c45_26 : vlk 45 26 = some (7, 6, 0, 0, 28) := by decide +kernel
theorem c45_28 : vlk 45 28 = some (4, 6, 0, 0, 30) := by decide +kernel
theorem c45_30 : vlk 45 30 = some (82, 91, 0, 0, 33) := by decide +kernel
theorem c45_33 : vlk 45 33 = some (71, 38, 0, 0, 36) := by decide +kernel
theorem c45_36 : vlk 45 36 = some (1, 0, 0, 0, 37) := by decide +kernel
theorem c45_37 : vlk 45 37 = some (63, 1, 0, 0, 38) := by decide +kernel
theorem c45_38 : vlk 45 38 = some (6, 0, 0, 0, 39) := by decide +kernel
theorem c45_39 : vlk 45 39 = some (34, 0, 0, 0, 40) := by decide +kernel
theorem c45_40 : vlk 45 40 = some (42, 3, 2, 0, 43) := by decide +kernel
theorem c45_43 : vlk 45 43 = some (1, 0, 0, 1, 44) := by decide +kernel
theorem c45_44 : vlk 45 44 = some (11, 0, 0, 0, 45) := by decide +kernel
theorem c45_45 : vlk 45 45 = some (43, 3, 2, 0, 48) := by decide +kernel
theorem c45_48 : vlk 45 48 = some (6, 0, 0, 0, 49) := by decide +kernel
theorem c45_49 : vlk 45 49 = some (4, 2, 0, 0, 50) := by decide +kernel
theorem c45_50 : vlk 45 50 = some (6, 4, 0, 0, 52) := by decide +kernel
theorem c45_52 : vlk 45 52 = some (58, 48, 0, 0, 55) := by decide +kernel
theorem c45_55 : vlk 45 55 = some (9, 7, 0, 0, 57) := by decide +kernel
theorem c45_57 : vlk 45 57 = some (6, 7, 0, 0, 59) := by decide +kernel
theorem c45_59 : vlk 45 59 = some (41, 64, 0, 0, 62) := by decide +kernel
theorem c45_62 : vlk 45 62 = some (1, 0, 0, 0, 63) := by decide +kernel
theorem c45_63 : vlk 45 63 = some (63, 1, 0, 0, 64) := by decide +kernel
theorem c45_64 : vlk 45 64 = some (6, 3, 0, 0, 65) := by decide +kernel
theorem c45_65 : vlk 45 65 = some (58, 4, 0, 0, 68) := by decide +kernel
theorem c45_68 : vlk 45 68 = some (6, 3, 0, 0, 69) := by decide +kernel
theorem c45_69 : vlk 45 69 = some (6, 7, 0, 0, 71) := by decide +kernel
theorem c45_71 : vlk 45 71 = some (44, 0, 1, 0, 74) := by decide +kernel
theorem c45_74 : vlk 45 74 = some (4, 6, 0, 0, 76) := by decide +kernel
theorem c45_76 : vlk 45 76 = some (45, 0, 0, 0, 77) := by decide +kernel
theorem c45_77 : vlk 45 77 = some (4, 1, 0, 0, 78) := by decide +kernel
theorem c45_78 : vlk 45 78 = some (1, 0, 0, 110, 80) := by decide +kernel
theorem c45_80 : vlk 45 80 = some (77, 90, 0, 0, 83) := by decide +kernel
theorem c45_83 : vlk 45 83 = some (4, 5, 0, 0, 85) := by decide +kernel
theorem c45_85 : vlk 45 85 = some (1, 0, 0, 1, 86) := by decide +kernel
theorem c45_86 : vlk 45 86 = some (12, 0, 0, 0, 87) := by decide +kernel
theorem c45_87 : vlk 45 87 = some (37, 93, 0, 0, 90) := by decide +kernel
theorem c45_90 : vlk 45 90 = some (4, 5, 0, 0, 92) := by decide +kernel
theorem c45_92 : vlk 45 92 = some (16, 0, 0, 0, 93) := by decide +kernel
theorem c45_93 : vlk 45 93 = some (58, 17, 0, 0, 96) := by decide +kernel
theorem c45_96 : vlk 45 96 = some (1, 0, 0, 1, 97) := by decide +kernel
theorem c45_97 : vlk 45 97 = some (63, 1, 0, 0, 98) := by decide +kernel
theorem c46_0 : vlk 46 0 = some (6, 0, 0, 0, 1) := by decide +kernel
theorem c46_1 : vlk 46 1 = some (4, 1, 0, 0, 2) := by decide +kernel
theorem c46_2 : vlk 46 2 = some (1, 0, 0, 120, 4) := by decide +kernel
theorem c46_4 : vlk 46 4 = some (77, 11, 0, 0, 7) := by decide +kernel
theorem c46_7 : vlk 46 7 = some (1, 0, 0, 0, 8) := by decide +kernel
theorem c46_8 : vlk 46 8 = some (37, 12, 0, 0, 11) := by decide +kernel
theorem c46_11 : vlk 46 11 = some (1, 0, 0, 1, 12) := by decide +kernel
theorem c46_12 : vlk 46 12 = some (4, 1, 0, 0, 13) := by decide +kernel
theorem c46_13 : vlk 46 13 = some (59, 50, 0, 0, 16) := by decide +kernel
theorem c46_16 : vlk 46 16 = some (58, 49, 0, 0, 19) := by decide +kernel
theorem c46_19 : vlk 46 19 = some (7, 5, 0, 0, 21) := by decide +kernel
theorem c46_21 : vlk 46 21 = some (4, 5, 0, 0, 23) := by decide +kernel
theorem c46_23 : vlk 46 23 = some (1, 0, 0, (-1), 24) := by decide +kernel
theorem c46_24 : vlk 46 24 = some (77, 29, 0, 0, 27) := by decide +kernel
theorem c46_27 : vlk 46 27 = some (1, 0, 0, 0, 28) := by decide +kernel
theorem c46_28 : vlk 46 28 = some (63, 1, 0, 0, 29) := by decide +kernel
theorem c46_29 : vlk 46 29 = some (6, 0, 0, 0, 30) := by decide +kernel
theorem c46_30 : vlk 46 30 = some (4, 2, 0, 0, 31) := by decide +kernel
theorem c46_31 : vlk 46 31 = some (6, 4, 0, 0, 33) := by decide +kernel
theorem c46_33 : vlk 46 33 = some (58, 48, 0, 0, 36) := by decide +kernel
theorem c46_36 : vlk 46 36 = some (9, 6, 0, 0, 38) := by decide +kernel
theorem c46_38 : vlk 46 38 = some (6, 6, 0, 0, 40) := by decide +kernel
theorem c46_40 : vlk 46 40 = some (41, 45, 0, 0, 43) := by decide +kernel
theorem c46_43 : vlk 46 43 = some (1, 0, 0, 0, 44) := by decide +kernel
theorem c46_44 : vlk 46 44 = some (63, 1, 0, 0, 45) := by decide +kernel
theorem c46_45 : vlk 46 45 = some (6, 3, 0, 0, 46) := by decide +kernel
theorem c46_46 : vlk 46 46 = some (58, 4, 0, 0, 49) := by decide +kernel
theorem c46_49 : vlk 46 49 = some (4, 1, 0, 0, 50) := by decide +kernel
theorem c46_50 : vlk 46 50 = some (1, 0, 0, 115, 52) := by decide +kernel
theorem c46_52 : vlk 46 52 = some (77, 66, 0, 0, 55) := by decide +kernel
theorem c46_55 : vlk 46 55 = some (6, 3, 0, 0, 56) := by decide +kernel
theorem c46_56 : vlk 46 56 = some (6, 6, 0, 0, 58) := by decide +kernel
theorem c46_58 : vlk 46 58 = some (4, 5, 0, 0, 60) := by decide +kernel
theorem c46_60 : vlk 46 60 = some (58, 15, 0, 0, 63) := by decide +kernel
theorem c46_63 : vlk 46 63 = some (37, 122, 0, 0, 66) := by decide +kernel
theorem c46_66 : vlk 46 66 = some (4, 1, 0, 0, 67) := by decide +kernel
theorem c46_67 : vlk 46 67 = some (1, 0, 0, 98, 69) := by decide +kernel
theorem c46_69 : vlk 46 69 = some (77, 84, 0, 0, 72) := by decide +kernel
theorem c46_72 : vlk 46 72 = some (6, 3, 0, 0, 73) := by decide +kernel
theorem c46_73 : vlk 46 73 = some (6, 6, 0, 0, 75) := by decide +kernel
theorem c46_75 : vlk 46 75 = some (4, 5, 0, 0, 77) := by decide +kernel
theorem c46_77 : vlk 46 77 = some (16, 0, 0, 0, 78) := by decide +kernel
theorem c46_78 : vlk 46 78 = some (58, 15, 0, 0, 81) := by decide +kernel
theorem c46_81 : vlk 46 81 = some (37, 122, 0, 0, 84) := by decide +kernel
theorem c46_84 : vlk 46 84 = some (4, 1, 0, 0, 85) := by decide +kernel
theorem c46_85 : vlk 46 85 = some (1, 0, 0, 112, 87) := by decide +kernel
theorem c46_87 : vlk 46 87 = some (77, 101, 0, 0, 90) := by decide +kernel
theorem c46_90 : vlk 46 90 = some (6, 3, 0, 0, 91) := by decide +kernel
theorem c46_91 : vlk 46 91 = some (6, 6, 0, 0, 93) := by decide +kernel
theorem c46_93 : vlk 46 93 = some (4, 5, 0, 0, 95) := by decide +kernel
theorem c46_95 : vlk 46 95 = some (58, 16, 0, 0, 98) := by decide +kernel
theorem c46_98 : vlk 46 98 = some (37, 122, 0, 0, 101) := by decide +kernel
theorem c46_101 : vlk 46 101 = some (6, 3, 0, 0, 102) := by decide +kernel
theorem c46_102 : vlk 46 102 = some (6, 6, 0, 0, 104) := by decide +kernel
theorem c46_104 : vlk 46 104 = some (58, 5, 0, 0, 107) := by decide +kernel
theorem c46_107 : vlk 46 107 = some (6, 3, 0, 0, 108) := by decide +kernel
theorem c46_108 : vlk 46 108 = some (6, 6, 0, 0, 110) := by decide +kernel
theorem c46_110 : vlk 46 110 = some (1, 0, 0, 0, 111) := by decide +kernel
theorem c46_111 : vlk 46 111 = some (1, 0, 0, 719, 114) := by decide +kernel
theorem c46_114 : vlk 46 114 = some (4, 5, 0, 0, 116) := by decide +kernel
theorem c46_116 : vlk 46 116 = some (58, 12, 0, 0, 119) := by decide +kernel
theorem c46_119 : vlk 46 119 = some (58, 3, 0, 0, 122) := by decide +kernel
theorem c46_122 : vlk 46 122 = some (1, 0, 0, 1, 123) := by decide +kernel
theorem c46_123 : vlk 46 123 = some (63, 1, 0, 0, 124) := by decide +kernel
theorem c47_0 : vlk 47 0 = some (6, 0, 0, 0, 1) := by decide +kernel
theorem c47_1 : vlk 47 1 = some (4, 1, 0, 0, 2) := by decide +kernel
theorem c47_2 : vlk 47 2 = some (6, 3, 0, 0, 3) := by decide +kernel
theorem c47_3 : vlk 47 3 = some (58, 48, 0, 0, 6) := by decide +kernel
theorem c47_6 : vlk 47 6 = some (9, 4, 0, 0, 8) := by decide +kernel
theorem c47_8 : vlk 47 8 = some (6, 4, 0, 0, 10) := by decide +kernel
theorem c47_10 : vlk 47 10 = some (41, 15, 0, 0, 13) := by decide +kernel
theorem c47_13 : vlk 47 13 = some (1, 0, 0, 0, 14) := by decide +kernel
theorem c47_14 : vlk 47 14 = some (63, 1, 0, 0, 15) := by decide +kernel
theorem c47_15 : vlk 47 15 = some (6, 2, 0, 0, 16) := by decide +kernel
theorem c47_16 : vlk 47 16 = some (6, 4, 0, 0, 18) := by decide +kernel
theorem c47_18 : vlk 47 18 = some (58, 5, 0, 0, 21) := by decide +kernel
theorem c47_21 : vlk 47 21 = some (1, 0, 0, 1, 22) := by decide +kernel
theorem c47_22 : vlk 47 22 = some (63, 1, 0, 0, 23) := by decide +kernel
theorem c48_0 : vlk 48 0 = some (4, 1, 0, 0, 1) := by decide +kernel
theorem c48_1 : vlk 48 1 = some (1, 0, 0, 5, 2) := by decide +kernel
theorem c48_2 : vlk 48 2 = some (79, 14, 0, 0, 5) := by decide +kernel
theorem c48_5 : vlk 48 5 = some (6, 0, 0, 0, 6) := by decide +kernel
theorem c48_6 : vlk 48 6 = some (1, 0, 0, 40, 8) := by decide +kernel
theorem c48_8 : vlk 48 8 = some (58, 37, 0, 0, 11) := by decide +kernel
theorem c48_11 : vlk 48 11 = some (71, 16, 0, 0, 14) := by decide +kernel
theorem c48_14 : vlk 48 14 = some (3, 0, 0, 0, 15) := by decide +kernel
theorem c48_15 : vlk 48 15 = some (65, 0, 0, 0, 16) := by decide +kernel
theorem c48_16 : vlk 48 16 = some (6, 0, 0, 0, 17) := by decide +kernel
theorem c48_17 : vlk 48 17 = some (4, 1, 0, 0, 18) := by decide +kernel
theorem c48_18 : vlk 48 18 = some (1, 0, 0, 1, 19) := by decide +kernel
theorem c48_19 : vlk 48 19 = some (11, 0, 0, 0, 20) := by decide +kernel
theorem c48_20 : vlk 48 20 = some (6, 2, 0, 0, 21) := by decide +kernel
theorem c48_21 : vlk 48 21 = some (58, 38, 0, 0, 24) := by decide +kernel
theorem c48_24 : vlk 48 24 = some (9, 3, 0, 0, 25) := by decide +kernel
theorem c48_25 : vlk 48 25 = some (6, 3, 0, 0, 26) := by decide +kernel
theorem c48_26 : vlk 48 26 = some (40, 42, 0, 0, 29) := by decide +kernel
theorem c48_29 : vlk 48 29 = some (6, 0, 0, 0, 30) := by decide +kernel
theorem c48_30 : vlk 48 30 = some (1, 0, 0, 41, 32) := by decide +kernel
theorem c48_32 : vlk 48 32 = some (58, 37, 0, 0, 35) := by decide +kernel
theorem c48_35 : vlk 48 35 = some (70, 42, 0, 0, 38) := by decide +kernel
theorem c48_38 : vlk 48 38 = some (6, 3, 0, 0, 39) := by decide +kernel
theorem c48_39 : vlk 48 39 = some (37, 43, 0, 0, 42) := by decide +kernel
theorem c48_42 : vlk 48 42 = some (3, 0, 0, 0, 43) := by decide +kernel
theorem c48_43 : vlk 48 43 = some (65, 0, 0, 0, 44) := by decide +kernel
/-! Reader: brackets and what has one, on the machine -/
def vXd (r dep q : Nat) : Prop := q = r ∨ (r + 5 + 6 * dep ≤ q ∧ q < r + 41)
def vKs (d : Nat) (r n : Nat) (t : Nat → Int) (pr : Nat) (pa : Nat → Nat) (D : Nat → vSt1) (dep e : Nat) : Prop := ∀ (h : vHp) (pl : Nat) (Q : vQ), vPx h r n t pr pa D pl → pl ≤ n → ((vex n t D e pl).2 = none → ∀ h', vPx h' r n t pr pa D (vex n t D e pl).1 → vFr (vXd r dep) h h' → Q (some .null) h') → (∀ S, (vex n t D e pl).2 = some S → ∀ h', vPx h' r n t pr pa D (vex n t D e pl).1 → vDy h' (r + 5 + 2 * (3 * dep)) S → vFr (vXd r dep) h h' → Q (some (.ref (r + 5 + 2 * (3 * dep)))) h') → vCall d 0 0 38 [.ref r, .int (iI (dep : Int)), .ref pr] h Q
theorem vXd_r {r dep : Nat} {h h1 : vHp} (f : vFr (fun q => q = r) h h1) : vFr (vXd r dep) h h1 := vFr_up f (fun q e => Or.inl e)
def vXf (r dep q : Nat) : Prop := q = r ∨ (r + 5 + 6 * dep + 4 ≤ q ∧ q < r + 41)
theorem vXf_r {r dep : Nat} {h h1 : vHp} (f : vFr (fun q => q = r) h h1) : vFr (vXf r dep) h h1 := vFr_up f (fun q e => Or.inl e)
theorem vXf_j {r dep j : Nat} {h h1 : vHp} (e1 : 3 * dep + 2 ≤ j) (e2 : j < 18) (f : vFr (fun q => q = r + 5 + 2 * j + 1) h h1) : vFr (vXf r dep) h h1 := vFr_up f (fun q e => by unfold vXf; omega)
theorem vXf_s {r dep : Nat} {h h1 : vHp} (f : vFr (vXd r (dep + 1)) h h1) : vFr (vXf r dep) h h1 := vFr_up f (fun q e => by unfold vXd at e; unfold vXf; omega)
theorem k_bracket {r n pl pr : Nat} {t : Nat → Int} {pa : Nat → Nat} {D : Nat → vSt1} {d dep e : Nat} {h : vHp} {Q : vQ} (hP : vPx h r n t pr pa D pl) (hde : dep + 1 + e = 5) (ih : vKs (d + 3) r n t pr pa D (dep + 1) e) (hpl : pl ≤ n) (kN : (vbr n t (vex n t D e) pl).2 = none → ∀ h', vPx h' r n t pr pa D (vbr n t (vex n t D e) pl).1 → vFr (vXd r (dep + 1)) h h' → Q (some .null) h') (kS : ∀ S, (vbr n t (vex n t D e) pl).2 = some S → ∀ h', vPx h' r n t pr pa D (vbr n t (vex n t D e) pl).1 → vDy h' (r + 5 + 2 * (3 * (dep + 1))) S → vFr (vXd r (dep + 1)) h h' → Q (some (.ref (r + 5 + 2 * (3 * (dep + 1))))) h') : vCall (d + 4) 0 0 48 [.ref r, .int (iI (dep : Int)), .ref pr] h Q := by
  have ho := hP.1
  unfold vRo at ho
  have hn := hP.2.2.2.2.2.2.1.1
  refine vin 4 [_, _, _, _] ml_48 rfl rfl ?_
  refine r_iload c48_0 rfl (r_ci c48_1 ?_)
  refine r_icge c48_2 (by omega) (by omega) (by omega) (by omega) (fun q => by exfalso; omega) (fun c_2 => ?_)
  refine r_aload c48_5 rfl (r_ci c48_6 ?_)
  unfold vbr at kN kS
  refine r_iv1 c48_8 vr_37 ho rfl (k_take hP.1 hP.2.1.1 hP.2.2.2.2.2.2.1 (by omega) hP.2.2.2.2.2.1 (by omega) (by omega) (fun q h1 ho1 f1 => ?_) (fun q => ?_))
  · rw [if_pos q] at kN kS
    have hl := vch_lt (n := n) (t := t) (p := pl) (by omega)
    have hP1 := vPx_pl hP ho1 f1
    have vok1 := vex_ok (t := t) (D := D) e (pl + 1) hl
    dsimp only [vpush]
    refine r_ifne c48_11 (by omega) (by omega) (fun c_11 => ?_) (fun q => by exfalso; omega)
    refine r_aload c48_16 rfl (r_iload c48_17 rfl (r_ci c48_18 (r_iadd c48_19 (r_aload c48_20 rfl ?_))))
    rw [vsu]
    have ho1' := ho1
    unfold vRo at ho1'
    unfold vth at kN kS
    refine r_iv2 c48_21 vr_38 ho1' rfl (ih h1 (pl + 1) _ hP1 hl (fun e1 h2 hP2 f2 => ?_) (fun S e1 h2 hP2 hS2 f2 => ?_))
    · dsimp only [vpush]
      rw [e1] at kN
      refine r_astoreN c48_24 rfl (r_aloadN c48_25 rfl ?_)
      try dsimp only [vst]
      refine r_ifnullN c48_26 ?_
      refine r_null c48_42 ?_
      refine r_aretN (st := []) c48_43 ?_
      exact kN rfl h2 hP2 (vFr_tr (vXd_r f1) f2)
    · dsimp only [vpush]
      rw [e1] at kN kS
      dsimp only at kN kS
      have ho2 := hP2.1
      unfold vRo at ho2
      refine r_astore c48_24 rfl (r_aload c48_25 rfl ?_)
      try dsimp only [vst]
      refine r_ifnullR c48_26 ?_
      refine r_aload c48_29 rfl (r_ci c48_30 ?_)
      refine r_iv1 c48_32 vr_37 ho2 rfl (k_take hP2.1 hP2.2.1.1 hP2.2.2.2.2.2.2.1 (by have := vok1.2.1; omega) hP2.2.2.2.2.2.1 (by omega) (by omega) (fun q2 h3 ho3 f3 => ?_) (fun q2 => ?_))
      · dsimp only [vpush]
        rw [if_pos q2] at kS
        refine r_ifeq c48_35 (by omega) (by omega) (fun q => by exfalso; omega) (fun c_35 => ?_)
        refine r_aload c48_38 rfl (r_goto c48_39 ?_)
        refine r_aret (st := []) c48_43 ?_
        exact kS S rfl h3 (vPx_pl hP2 ho3 f3) (vDy_fr hS2 f3 (by omega) (by omega)) (vFr_tr (vFr_tr (vXd_r f1) f2) (vXd_r f3))
      · dsimp only [vpush]
        rw [if_neg q2] at kN
        refine r_ifeq c48_35 (by omega) (by omega) (fun c_35 => ?_) (fun q => by exfalso; omega)
        refine r_null c48_42 ?_
        refine r_aretN (st := []) c48_43 ?_
        exact kN rfl h2 hP2 (vFr_tr (vXd_r f1) f2)
  · rw [if_neg q] at kN
    dsimp only [vpush]
    refine r_ifne c48_11 (by omega) (by omega) (fun q => by exfalso; omega) (fun c_11 => ?_)
    refine r_null c48_14 ?_
    refine r_aretN (st := []) c48_15 ?_
    exact kN rfl h hP vFr_rf
theorem k_inner {r n pl pr : Nat} {t : Nat → Int} {pa : Nat → Nat} {D : Nat → vSt1} {d dep e : Nat} {h : vHp} {Q : vQ} (hP : vPx h r n t pr pa D pl) (hde : dep + 1 + e = 5) (ih : vKs (d + 3) r n t pr pa D (dep + 1) e) (hpl : pl ≤ n) (kN : (vbr n t (vex n t D e) pl).2 = none → ∀ h', vPx h' r n t pr pa D (vbr n t (vex n t D e) pl).1 → vFr (vXf r dep) h h' → Q (some (.int (iI 0))) h') (kS : ∀ S, (vbr n t (vex n t D e) pl).2 = some S → ∀ h', vPx h' r n t pr pa D (vbr n t (vex n t D e) pl).1 → vDy h' (r + 5 + 2 * (3 * dep + 2)) S → vFr (vXf r dep) h h' → Q (some (.int (iI 1))) h') : vCall (d + 5) 0 0 47 [.ref r, .int (iI (dep : Int)), .ref (r + 5 + 2 * (3 * dep + 2)), .ref pr] h Q := by
  have ho := hP.1
  unfold vRo at ho
  refine vin 5 [_, _, _, _, _] ml_47 rfl rfl ?_
  refine r_aload c47_0 rfl (r_iload c47_1 rfl (r_aload c47_2 rfl ?_))
  refine r_iv2 c47_3 vr_48 ho rfl (k_bracket hP hde ih hpl (fun e1 h2 hP2 f2 => ?_) (fun S e1 h2 hP2 hS2 f2 => ?_))
  · dsimp only [vpush]
    refine r_astoreN c47_6 rfl (r_aloadN c47_8 rfl ?_)
    try dsimp only [vst]
    refine r_ifnonN c47_10 ?_
    refine r_ci c47_13 ?_
    refine r_zret (st := []) c47_14 (by omega) ?_
    exact kN e1 h2 hP2 (vXf_s f2)
  · dsimp only [vpush]
    refine r_astore c47_6 rfl (r_aload c47_8 rfl ?_)
    try dsimp only [vst]
    refine r_ifnonR c47_10 ?_
    obtain ⟨S0, hS0⟩ := hP2.2.2.1 (3 * dep + 2) (by omega)
    refine r_aload c47_15 rfl (r_aload c47_16 rfl ?_)
    refine r_iv1 c47_18 vr_5 hS0.1 rfl (k_become hS0 hS2 (by have := hP2.2.2.2.2.2.1; omega) (fun h3 hS3 f3 => ?_))
    dsimp only [vpush]
    refine r_ci c47_21 ?_
    refine r_zret (st := []) c47_22 (by omega) ?_
    exact kS S e1 h3 (vPx_dy hP2 (by omega) hS3 f3) hS3 (vFr_tr (vXf_s f2) (vXf_j (dep := dep) (j := 3 * dep + 2) (by omega) (by omega) f3))
theorem k_blocks {r n pl pr : Nat} {t : Nat → Int} {pa : Nat → Nat} {D : Nat → vSt1} {d dep e : Nat} {c : Int} {h : vHp} {Q : vQ} (hP : vPx h r n t pr pa D pl) (hde : dep + 1 + e = 5) (ih : vKs (d + 4) r n t pr pa D (dep + 1) e) (hpl : pl ≤ n) (hc : c = 110 ∨ c = 108) (kN : (vpb n t (vex n t D e) c pl).2 = none → ∀ h', vPx h' r n t pr pa D (vpb n t (vex n t D e) c pl).1 → vFr (vXf r dep) h h' → Q (some (.int (iI 0))) h') (kS : ∀ S, (vpb n t (vex n t D e) c pl).2 = some S → ∀ h', vPx h' r n t pr pa D (vpb n t (vex n t D e) c pl).1 → vDy h' (r + 5 + 2 * (3 * dep + 2)) S → vFr (vXf r dep) h h' → Q (some (.int (iI 1))) h') : vCall (d + 6) 0 0 45 [.ref r, .int (iI c), .int (iI (dep : Int)), .ref (r + 5 + 2 * (3 * dep + 2)), .ref pr] h Q := by
  have ho := hP.1
  unfold vRo at ho
  have hT := hP.2.2.2.2.2.2.1
  have hn := hT.1
  have hmo : vmo c = 99 := by rcases hc with rfl | rfl <;> decide
  have rg := vnm_rg (n := n) (t := t) (lo := 1) (hi := 99) (p := pl) hpl
  refine vin 8 [_, _, _, _, _, _, _, _] ml_45 rfl rfl ?_
  refine r_aload c45_0 rfl (r_ci c45_1 (r_iload c45_2 rfl ?_))
  refine r_is1 c45_3 vr_50 rfl (k_mostOf (by omega) (by omega) ?_)
  dsimp only [vpush]
  rw [hmo]
  unfold vpb at kN kS
  refine r_iv2 c45_6 vr_49 ho rfl (k_number hP.1 hP.2.1.1 hT (by omega) hP.2.2.2.2.2.1 (by omega) (by omega) (by omega) (by omega) (fun h1 ho1 f1 => ?_))
  dsimp only [vpush]
  have hP1 := vPx_pl hP ho1 f1
  generalize (vnm n t 1 99 pl).2 = z at *
  generalize (vnm n t 1 99 pl).1 = p1 at *
  refine r_istore c45_9 rfl (r_iload c45_11 rfl (r_ci c45_13 ?_))
  try dsimp only [vst]
  refine r_icne c45_14 (by omega) (by omega) (by omega) (by omega) (fun c_14 => ?_) (fun c_14 => ?_)
  · rw [if_neg c_14] at kN kS
    have ho1' := ho1
    unfold vRo at ho1'
    have hrg := vch_rg hT p1
    refine r_aload c45_19 rfl ?_
    refine r_iv0 c45_20 vr_36 ho1' rfl (k_here hP1.1 hP1.2.1.1 hT (by omega) ?_)
    dsimp only [vpush]
    refine r_is1 c45_23 vr_51 rfl (k_blockOf (by omega) (by omega) ?_)
    dsimp only [vpush]
    have hbr : (vbo (vch n t p1) = -1 ∨ (vbo (vch n t p1) = 0 ∨ vbo (vch n t p1) = 1 ∨ vbo (vch n t p1) = 2) ∧ 0 ≤ vch n t p1) := by
      unfold vbo
      split
      · omega
      · split
        · omega
        · split <;> omega
    generalize hbg : vbo (vch n t p1) = b at *
    refine r_istore c45_26 rfl (r_iload c45_28 rfl ?_)
    try dsimp only [vst]
    refine r_isN1 c45_30 vr_91 rfl (k_isBlock hP1.2.2.2.2.1 (by omega) (by omega) (fun b1 b2 => ?_) (fun b1 => ?_))
    · dsimp only [vpush]
      rw [if_neg (by omega)] at kN kS
      have hl := vch_lt (n := n) (t := t) (p := p1) (by omega)
      refine r_ifne c45_33 (by omega) (by omega) (fun c_33 => ?_) (fun q => by exfalso; omega)
      refine r_aload c45_38 rfl (r_dup c45_39 rfl (r_get c45_40 ho1' rfl (r_ci c45_43 (r_iadd c45_44 ?_))))
      refine r_put c45_45 ho1' hP1.2.2.2.2.2.1 rfl ⟨rfl, rfl⟩ (fun h2 s2 => ?_)
      rw [vsu] at s2
      have hP2 := vPx_pl hP1 (vRo_st s2) (vFr_st s2)
      have f12 := vFr_tr f1 (vFr_st s2)
      have ho2 := hP2.1
      unfold vRo at ho2
      refine r_aload c45_48 rfl (r_iload c45_49 rfl (r_aload c45_50 rfl ?_))
      unfold vth at kN kS
      refine r_iv2 c45_52 vr_48 ho2 rfl (k_bracket (d := d + 1) hP2 hde ih hl (fun e1 h3 hP3 f3 => ?_) (fun S e1 h3 hP3 hS3 f3 => ?_))
      · dsimp only [vpush]
        rw [e1] at kN
        refine r_astoreN c45_55 rfl (r_aloadN c45_57 rfl ?_)
        try dsimp only [vst]
        refine r_ifnonN c45_59 ?_
        refine r_ci c45_62 ?_
        refine r_zret (st := []) c45_63 (by omega) ?_
        exact kN rfl h3 hP3 (vFr_tr (vXf_r f12) (vXf_s f3))
      · dsimp only [vpush]
        rw [e1] at kS
        refine r_astore c45_55 rfl (r_aload c45_57 rfl ?_)
        try dsimp only [vst]
        refine r_ifnonR c45_59 ?_
        obtain ⟨S0, hS0⟩ := hP3.2.2.1 (3 * dep + 2) (by omega)
        have hl3 : h3.1.1 ≤ r + 5 + 2 * (3 * dep + 2) := by have := hP3.2.2.2.2.2.1; omega
        refine r_aload c45_64 rfl ?_
        refine r_iv0 c45_65 vr_4 hS0.1 rfl (k_wipe hS0 hl3 (fun h4 hS4 f4 => ?_))
        dsimp only [vpush]
        have hP4 := vPx_dy hP3 (by omega) hS4 f4
        have hI4 := vDy_fr hS3 f4 (by omega) (by omega)
        obtain ⟨⟨fb, fb1, fb2, fb3, fb4⟩, -⟩ := hP4.2.2.2.2.1
        have eL : fb b.toNat = ((vbL b : Nat) : Int) := by
          have : b = 0 ∨ b = 1 ∨ b = 2 := by omega
          rcases this with e | e | e <;> rw [e] <;> simp [vbL, fb2, fb3, fb4]
        have bL : 0 < vbL b ∧ vbL b ≤ 360 := by unfold vbL; split; omega; split <;> omega
        have fin : ∀ k : Int, k = (if c = 110 then z - 1 else -z) → vW (vCall (d + 5)) 45 Q 93 [.ref r, .int (iI c), .int (iI (dep : Int)), .ref (r + 5 + 2 * (3 * dep + 2)), .ref pr, .int (iI z), .int (iI b), .ref (r + 5 + 2 * (3 * (dep + 1)))] [.int (iI k), .int (iI ((vbL b : Nat) : Int)), .ref (r + 5 + 2 * (3 * (dep + 1))), .ref (r + 5 + 2 * (3 * dep + 2))] h4 0 0 := by
          intro k hk
          have hkr : -1000 ≤ k ∧ k ≤ 1000 := by rw [hk]; split <;> omega
          refine r_iv3 c45_93 vr_17 hS4.1 rfl (k_addOfBlocks hS4 hI4 (by omega) (by rw [f4.1]; exact hl3) bL.1 bL.2 hkr.1 hkr.2 (fun h5 hS5 f5 => ?_))
          dsimp only [vpush]
          refine r_ci c45_96 ?_
          refine r_zret (st := []) c45_97 (by omega) ?_
          refine kS _ rfl h5 (vPx_dy hP4 (by omega) hS5 f5) (vDy_cg hS5 (fun m hm => ?_)) (vFr_tr (vFr_tr (vFr_tr (vXf_r f12) (vXf_s f3)) (vXf_j (dep := dep) (j := 3 * dep + 2) (by omega) (by omega) f4)) (vXf_j (dep := dep) (j := 3 * dep + 2) (by omega) (by omega) f5))
          unfold vbs
          rw [hk, Bool.false_or]
        refine r_aload c45_68 rfl (r_aload c45_69 rfl (r_gets c45_71 (r_iload c45_74 rfl (r_iald c45_76 fb1 (by omega) (by omega) (r_iload c45_77 rfl (r_ci c45_78 ?_))))))
        rw [eL]
        refine r_icne c45_80 (by omega) (by omega) (by omega) (by omega) (fun c_80 => ?_) (fun c_80 => ?_)
        · refine r_iload c45_90 rfl (r_ineg c45_92 ?_)
          exact fin _ (if_neg c_80).symm
        · refine r_iload c45_83 rfl (r_ci c45_85 (r_isub c45_86 (r_goto c45_87 ?_)))
          exact fin _ (if_pos c_80).symm
    · dsimp only [vpush]
      rw [if_pos (by omega)] at kN
      refine r_ifne c45_33 (by omega) (by omega) (fun q => by exfalso; omega) (fun c_33 => ?_)
      refine r_ci c45_36 ?_
      refine r_zret (st := []) c45_37 (by omega) ?_
      exact kN rfl h1 hP1 (vXf_r f1)
  · rw [if_pos c_14] at kN
    refine r_ci c45_17 ?_
    refine r_zret (st := []) c45_18 (by omega) ?_
    exact kN rfl h1 hP1 (vXf_r f1)
theorem k_changed {r n pl pr : Nat} {t : Nat → Int} {pa : Nat → Nat} {D : Nat → vSt1} {d dep e : Nat} {c : Int} {h : vHp} {Q : vQ} (hP : vPx h r n t pr pa D pl) (hde : dep + 1 + e = 5) (ih : vKs (d + 4) r n t pr pa D (dep + 1) e) (hpl : pl ≤ n) (hc : c = 115 ∨ c = 98 ∨ c = 112 ∨ c = 120) (kN : (vpc n t (vex n t D e) c pl).2 = none → ∀ h', vPx h' r n t pr pa D (vpc n t (vex n t D e) c pl).1 → vFr (vXf r dep) h h' → Q (some (.int (iI 0))) h') (kS : ∀ S, (vpc n t (vex n t D e) c pl).2 = some S → ∀ h', vPx h' r n t pr pa D (vpc n t (vex n t D e) c pl).1 → vDy h' (r + 5 + 2 * (3 * dep + 2)) S → vFr (vXf r dep) h h' → Q (some (.int (iI 1))) h') : vCall (d + 6) 0 0 46 [.ref r, .int (iI c), .int (iI (dep : Int)), .ref (r + 5 + 2 * (3 * dep + 2)), .ref pr] h Q := by
  have ho := hP.1
  unfold vRo at ho
  have hT := hP.2.2.2.2.2.2.1
  have hn := hT.1
  have hmo : vmo c ≤ 719 ∧ 0 ≤ vmo c := by rcases hc with rfl | rfl | rfl | rfl <;> decide
  have main : ∀ x5 x6 : Value, vW (vCall (d + 5)) 46 Q 12 [.ref r, .int (iI c), .int (iI (dep : Int)), .ref (r + 5 + 2 * (3 * dep + 2)), .ref pr, x5, x6] [.int (iI (if c = 120 then (0 : Int) else 1)), .ref r] h 0 0 := by
    intro x5 x6
    have hq1 : (if c = 120 then (0 : Int) else 1) = 0 ∨ (if c = 120 then (0 : Int) else 1) = 1 := by split <;> simp
    have hq2 : c ≠ 120 → (if c = 120 then (0 : Int) else 1) = 1 := fun e => if_neg e
    have rg := vnm_rg (n := n) (t := t) (lo := (if c = 120 then (0 : Int) else 1)) (hi := vmo c) (p := pl) hpl
    refine r_iload c46_12 rfl ?_
    refine r_is1 c46_13 vr_50 rfl (k_mostOf (by omega) (by omega) ?_)
    dsimp only [vpush]
    unfold vpc at kN kS
    generalize (if c = 120 then (0 : Int) else 1) = q0 at *
    refine r_iv2 c46_16 vr_49 ho rfl (k_number hP.1 hP.2.1.1 hT (by omega) hP.2.2.2.2.2.1 (by omega) (by omega) (by omega) (by omega) (fun h1 ho1 f1 => ?_))
    dsimp only [vpush]
    have hP1 := vPx_pl hP ho1 f1
    generalize (vnm n t q0 (vmo c) pl).2 = z at *
    generalize (vnm n t q0 (vmo c) pl).1 = p1 at *
    refine r_istore c46_19 rfl (r_iload c46_21 rfl (r_ci c46_23 ?_))
    try dsimp only [vst]
    refine r_icne c46_24 (by omega) (by omega) (by omega) (by omega) (fun c_24 => ?_) (fun c_24 => ?_)
    · rw [if_neg c_24] at kN kS
      have ho1' := ho1
      unfold vRo at ho1'
      refine r_aload c46_29 rfl (r_iload c46_30 rfl (r_aload c46_31 rfl ?_))
      unfold vth at kN kS
      refine r_iv2 c46_33 vr_48 ho1' rfl (k_bracket (d := d + 1) hP1 hde ih rg.2.2 (fun e1 h3 hP3 f3 => ?_) (fun S e1 h3 hP3 hS3 f3 => ?_))
      · dsimp only [vpush]
        rw [e1] at kN
        refine r_astoreN c46_36 rfl (r_aloadN c46_38 rfl ?_)
        try dsimp only [vst]
        refine r_ifnonN c46_40 ?_
        refine r_ci c46_43 ?_
        refine r_zret (st := []) c46_44 (by omega) ?_
        exact kN rfl h3 hP3 (vFr_tr (vXf_r f1) (vXf_s f3))
      · dsimp only [vpush]
        rw [e1] at kS
        refine r_astore c46_36 rfl (r_aload c46_38 rfl ?_)
        try dsimp only [vst]
        refine r_ifnonR c46_40 ?_
        obtain ⟨S0, hS0⟩ := hP3.2.2.1 (3 * dep + 2) (by omega)
        have hl3 : h3.1.1 ≤ r + 5 + 2 * (3 * dep + 2) := by have := hP3.2.2.2.2.2.1; omega
        refine r_aload c46_45 rfl ?_
        refine r_iv0 c46_46 vr_4 hS0.1 rfl (k_wipe hS0 hl3 (fun h4 hS4 f4 => ?_))
        dsimp only [vpush]
        have hP4 := vPx_dy hP3 (by omega) hS4 f4
        have hI4 := vDy_fr hS3 f4 (by omega) (by omega)
        have hl4 : h4.1.1 ≤ r + 5 + 2 * (3 * dep + 2) := by rw [f4.1]; exact hl3
        have ff4 := vFr_tr (vFr_tr (vXf_r f1) (vXf_s f3)) (vXf_j (dep := dep) (j := 3 * dep + 2) (by omega) (by omega) f4)
        have fin : ∀ (h5 : vHp) (T : vSt1), vDy h5 (r + 5 + 2 * (3 * dep + 2)) T → vFr (fun q => q = r + 5 + 2 * (3 * dep + 2) + 1) h4 h5 → (∀ m, m < 720 → T m = vcs c z S m) → vW (vCall (d + 5)) 46 Q 122 [.ref r, .int (iI c), .int (iI (dep : Int)), .ref (r + 5 + 2 * (3 * dep + 2)), .ref pr, .int (iI z), .ref (r + 5 + 2 * (3 * (dep + 1)))] [] h5 0 0 := by
          intro h5 T hS5 f5 he
          refine r_ci c46_122 ?_
          refine r_zret (st := []) c46_123 (by omega) ?_
          exact kS _ rfl h5 (vPx_dy hP4 (by omega) hS5 f5) (vDy_cg hS5 he) (vFr_tr ff4 (vXf_j (dep := dep) (j := 3 * dep + 2) (by omega) (by omega) f5))
        refine r_iload c46_49 rfl (r_ci c46_50 ?_)
        refine r_icne c46_52 (by omega) (by omega) (by omega) (by omega) (fun c_52 => ?_) (fun c_52 => ?_)
        · refine r_iload c46_66 rfl (r_ci c46_67 ?_)
          refine r_icne c46_69 (by omega) (by omega) (by omega) (by omega) (fun c_69 => ?_) (fun c_69 => ?_)
          · refine r_iload c46_84 rfl (r_ci c46_85 ?_)
            refine r_icne c46_87 (by omega) (by omega) (by omega) (by omega) (fun c_87 => ?_) (fun c_87 => ?_)
            · have ec : c = 120 := by omega
              refine r_aload c46_101 rfl (r_aload c46_102 rfl ?_)
              refine r_iv1 c46_104 vr_5 hS4.1 rfl (k_become hS4 hI4 hl4 (fun h5 hS5 f5 => ?_))
              dsimp only [vpush]
              have hI5 := vDy_fr hI4 f5 (by omega) (by omega)
              have hvp := vpk_range S 0 719 z
              refine r_aload c46_107 rfl (r_aload c46_108 rfl (r_ci c46_110 (r_ci c46_111 (r_iload c46_114 rfl ?_))))
              refine r_iv3 c46_116 vr_12 hI5.1 rfl (k_pick (lo := 0) (hi := 719) hI5 (by omega) (by omega) (by omega) (by omega) ?_)
              dsimp only [vpush]
              refine r_iv1 c46_119 vr_3 hS5.1 rfl (k_remove hS5 (vFr_lo f5 hl4) (by omega) (by omega) (fun h6 hS6 f6 => ?_))
              dsimp only [vpush]
              refine fin h6 _ hS6 (vFr_tr f5 f6) (fun m hm => ?_)
              unfold vcs
              rw [if_neg c_52, if_neg c_69, if_neg c_87]
            · obtain ⟨k, rfl⟩ := Int.eq_ofNat_of_zero_le (show 0 ≤ z by omega)
              refine r_aload c46_90 rfl (r_aload c46_91 rfl (r_iload c46_93 rfl ?_))
              refine r_iv2 c46_95 vr_16 hS4.1 rfl (k_addEachNth hS4 hI4 (by omega) hl4 (by omega) (by omega) (fun h5 hS5 f5 => ?_))
              dsimp only [vpush]
              refine r_goto c46_98 ?_
              refine fin h5 _ hS5 f5 (fun m hm => ?_)
              unfold vcs
              rw [if_neg c_52, if_neg c_69, if_pos c_87, Bool.false_or, Int.toNat_natCast]
          · refine r_aload c46_72 rfl (r_aload c46_73 rfl (r_iload c46_75 rfl (r_ineg c46_77 ?_)))
            refine r_iv2 c46_78 vr_15 hS4.1 rfl (k_addMoved hS4 hI4 (by omega) hl4 (by omega) (by omega) (fun h5 hS5 f5 => ?_))
            dsimp only [vpush]
            refine r_goto c46_81 ?_
            refine fin h5 _ hS5 f5 (fun m hm => ?_)
            unfold vcs
            rw [if_neg c_52, if_pos c_69, Bool.false_or]
        · refine r_aload c46_55 rfl (r_aload c46_56 rfl (r_iload c46_58 rfl ?_))
          refine r_iv2 c46_60 vr_15 hS4.1 rfl (k_addMoved hS4 hI4 (by omega) hl4 (by omega) (by omega) (fun h5 hS5 f5 => ?_))
          dsimp only [vpush]
          refine r_goto c46_63 ?_
          refine fin h5 _ hS5 f5 (fun m hm => ?_)
          unfold vcs
          rw [if_pos c_52, Bool.false_or]
    · rw [if_pos c_24] at kN
      refine r_ci c46_27 ?_
      refine r_zret (st := []) c46_28 (by omega) ?_
      exact kN rfl h1 hP1 (vXf_r f1)
  refine vin 7 [_, _, _, _, _, _, _] ml_46 rfl rfl ?_
  refine r_aload c46_0 rfl (r_iload c46_1 rfl (r_ci c46_2 ?_))
  refine r_icne c46_4 (by omega) (by omega) (by omega) (by omega) (fun c_4 => ?_) (fun c_4 => ?_)
  · refine r_ci c46_11 ?_
    rw [if_neg c_4] at main
    exact main _ _
  · refine r_ci c46_7 (r_goto c46_8 ?_)
    rw [if_pos c_4] at main
    exact main _ _

