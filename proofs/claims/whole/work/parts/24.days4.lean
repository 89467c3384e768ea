theorem ml_18 : vml 18 = 8 := by decide +kernel
theorem ml_19 : vml 19 = 8 := by decide +kernel
theorem ml_169 : vml 169 = 1 := by decide +kernel
theorem vr_18 : vrc 18 = some (0, 1) := by decide +kernel
theorem c18_0 : vlk 18 0 = some (4, 1, 0, 0, 1) := by decide +kernel
theorem c18_1 : vlk 18 1 = some (82, 88, 0, 0, 4) := by decide +kernel
theorem c18_4 : vlk 18 4 = some (71, 9, 0, 0, 7) := by decide +kernel
theorem c18_7 : vlk 18 7 = some (2, 0, 0, 0, 8) := by decide +kernel
theorem c18_8 : vlk 18 8 = some (64, 0, 0, 0, 9) := by decide +kernel
theorem c18_9 : vlk 18 9 = some (4, 1, 0, 0, 10) := by decide +kernel
theorem c18_10 : vlk 18 10 = some (1, 0, 0, 60, 12) := by decide +kernel
theorem c18_12 : vlk 18 12 = some (14, 0, 0, 0, 13) := by decide +kernel
theorem c18_13 : vlk 18 13 = some (7, 2, 0, 0, 14) := by decide +kernel
theorem c18_14 : vlk 18 14 = some (4, 1, 0, 0, 15) := by decide +kernel
theorem c18_15 : vlk 18 15 = some (1, 0, 0, 60, 17) := by decide +kernel
theorem c18_17 : vlk 18 17 = some (15, 0, 0, 0, 18) := by decide +kernel
theorem c18_18 : vlk 18 18 = some (7, 3, 0, 0, 19) := by decide +kernel
theorem c18_19 : vlk 18 19 = some (6, 0, 0, 0, 20) := by decide +kernel
theorem c18_20 : vlk 18 20 = some (42, 0, 0, 0, 23) := by decide +kernel
theorem c18_23 : vlk 18 23 = some (4, 2, 0, 0, 24) := by decide +kernel
theorem c18_24 : vlk 18 24 = some (46, 0, 0, 0, 25) := by decide +kernel
theorem c18_25 : vlk 18 25 = some (4, 3, 0, 0, 26) := by decide +kernel
theorem c18_26 : vlk 18 26 = some (29, 0, 0, 0, 27) := by decide +kernel
theorem c18_27 : vlk 18 27 = some (8, 4, 0, 0, 29) := by decide +kernel
theorem c18_29 : vlk 18 29 = some (4, 2, 0, 0, 30) := by decide +kernel
theorem c18_30 : vlk 18 30 = some (1, 0, 0, 1, 31) := by decide +kernel
theorem c18_31 : vlk 18 31 = some (11, 0, 0, 0, 32) := by decide +kernel
theorem c18_32 : vlk 18 32 = some (1, 0, 0, 12, 34) := by decide +kernel
theorem c18_34 : vlk 18 34 = some (79, 53, 0, 0, 37) := by decide +kernel
theorem c18_37 : vlk 18 37 = some (6, 0, 0, 0, 38) := by decide +kernel
theorem c18_38 : vlk 18 38 = some (42, 0, 0, 0, 41) := by decide +kernel
theorem c18_41 : vlk 18 41 = some (4, 2, 0, 0, 42) := by decide +kernel
theorem c18_42 : vlk 18 42 = some (1, 0, 0, 1, 43) := by decide +kernel
theorem c18_43 : vlk 18 43 = some (11, 0, 0, 0, 44) := by decide +kernel
theorem c18_44 : vlk 18 44 = some (46, 0, 0, 0, 45) := by decide +kernel
theorem c18_45 : vlk 18 45 = some (1, 0, 0, 60, 47) := by decide +kernel
theorem c18_47 : vlk 18 47 = some (4, 3, 0, 0, 48) := by decide +kernel
theorem c18_48 : vlk 18 48 = some (12, 0, 0, 0, 49) := by decide +kernel
theorem c18_49 : vlk 18 49 = some (28, 0, 0, 0, 50) := by decide +kernel
theorem c18_50 : vlk 18 50 = some (37, 54, 0, 0, 53) := by decide +kernel
theorem c18_53 : vlk 18 53 = some (2, 0, 0, 0, 54) := by decide +kernel
theorem c18_54 : vlk 18 54 = some (8, 6, 0, 0, 56) := by decide +kernel
theorem c18_56 : vlk 18 56 = some (5, 4, 0, 0, 58) := by decide +kernel
theorem c18_58 : vlk 18 58 = some (5, 6, 0, 0, 60) := by decide +kernel
theorem c18_60 : vlk 18 60 = some (26, 0, 0, 0, 61) := by decide +kernel
theorem c18_61 : vlk 18 61 = some (2, 0, 0, 1152921504606846975, 64) := by decide +kernel
theorem c18_64 : vlk 18 64 = some (25, 0, 0, 0, 65) := by decide +kernel
theorem c18_65 : vlk 18 65 = some (64, 0, 0, 0, 66) := by decide +kernel
theorem c19_0 : vlk 19 0 = some (1, 0, 0, 720, 3) := by decide +kernel
theorem c19_3 : vlk 19 3 = some (4, 1, 0, 0, 4) := by decide +kernel
theorem c19_4 : vlk 19 4 = some (12, 0, 0, 0, 5) := by decide +kernel
theorem c19_5 : vlk 19 5 = some (7, 2, 0, 0, 6) := by decide +kernel
theorem c19_6 : vlk 19 6 = some (1, 0, 0, 0, 7) := by decide +kernel
theorem c19_7 : vlk 19 7 = some (7, 3, 0, 0, 8) := by decide +kernel
theorem c19_8 : vlk 19 8 = some (4, 3, 0, 0, 9) := by decide +kernel
theorem c19_9 : vlk 19 9 = some (1, 0, 0, 12, 11) := by decide +kernel
theorem c19_11 : vlk 19 11 = some (79, 74, 0, 0, 14) := by decide +kernel
theorem c19_14 : vlk 19 14 = some (4, 3, 0, 0, 15) := by decide +kernel
theorem c19_15 : vlk 19 15 = some (1, 0, 0, 60, 17) := by decide +kernel
theorem c19_17 : vlk 19 17 = some (13, 0, 0, 0, 18) := by decide +kernel
theorem c19_18 : vlk 19 18 = some (7, 4, 0, 0, 20) := by decide +kernel
theorem c19_20 : vlk 19 20 = some (1, 0, 0, 0, 21) := by decide +kernel
theorem c19_21 : vlk 19 21 = some (1, 0, 0, 60, 23) := by decide +kernel
theorem c19_23 : vlk 19 23 = some (4, 2, 0, 0, 24) := by decide +kernel
theorem c19_24 : vlk 19 24 = some (4, 4, 0, 0, 26) := by decide +kernel
theorem c19_26 : vlk 19 26 = some (12, 0, 0, 0, 27) := by decide +kernel
theorem c19_27 : vlk 19 27 = some (85, 0, 0, 0, 30) := by decide +kernel
theorem c19_30 : vlk 19 30 = some (84, 0, 0, 0, 33) := by decide +kernel
theorem c19_33 : vlk 19 33 = some (7, 5, 0, 0, 35) := by decide +kernel
theorem c19_35 : vlk 19 35 = some (2, 0, 0, 1, 36) := by decide +kernel
theorem c19_36 : vlk 19 36 = some (4, 5, 0, 0, 38) := by decide +kernel
theorem c19_38 : vlk 19 38 = some (28, 0, 0, 0, 39) := by decide +kernel
theorem c19_39 : vlk 19 39 = some (2, 0, 0, 1, 40) := by decide +kernel
theorem c19_40 : vlk 19 40 = some (23, 0, 0, 0, 41) := by decide +kernel
theorem c19_41 : vlk 19 41 = some (8, 6, 0, 0, 43) := by decide +kernel
theorem c19_43 : vlk 19 43 = some (6, 0, 0, 0, 44) := by decide +kernel
theorem c19_44 : vlk 19 44 = some (42, 0, 0, 0, 47) := by decide +kernel
theorem c19_47 : vlk 19 47 = some (4, 3, 0, 0, 48) := by decide +kernel
theorem c19_48 : vlk 19 48 = some (46, 0, 0, 0, 49) := by decide +kernel
theorem c19_49 : vlk 19 49 = some (6, 0, 0, 0, 50) := by decide +kernel
theorem c19_50 : vlk 19 50 = some (4, 4, 0, 0, 52) := by decide +kernel
theorem c19_52 : vlk 19 52 = some (4, 1, 0, 0, 53) := by decide +kernel
theorem c19_53 : vlk 19 53 = some (11, 0, 0, 0, 54) := by decide +kernel
theorem c19_54 : vlk 19 54 = some (58, 18, 0, 0, 57) := by decide +kernel
theorem c19_57 : vlk 19 57 = some (27, 0, 0, 0, 58) := by decide +kernel
theorem c19_58 : vlk 19 58 = some (5, 6, 0, 0, 60) := by decide +kernel
theorem c19_60 : vlk 19 60 = some (25, 0, 0, 0, 61) := by decide +kernel
theorem c19_61 : vlk 19 61 = some (2, 0, 0, 0, 62) := by decide +kernel
theorem c19_62 : vlk 19 62 = some (31, 0, 0, 0, 63) := by decide +kernel
theorem c19_63 : vlk 19 63 = some (70, 68, 0, 0, 66) := by decide +kernel
theorem c19_66 : vlk 19 66 = some (1, 0, 0, 0, 67) := by decide +kernel
theorem c19_67 : vlk 19 67 = some (63, 1, 0, 0, 68) := by decide +kernel
theorem c19_68 : vlk 19 68 = some (10, 3, 0, 1, 71) := by decide +kernel
theorem c19_71 : vlk 19 71 = some (37, 8, 0, 0, 74) := by decide +kernel
theorem c19_74 : vlk 19 74 = some (1, 0, 0, 1, 75) := by decide +kernel
theorem c19_75 : vlk 19 75 = some (63, 1, 0, 0, 76) := by decide +kernel
theorem c169_0 : vlk 169 0 = some (4, 0, 0, 0, 1) := by decide +kernel
theorem c169_1 : vlk 169 1 = some (4, 0, 0, 0, 2) := by decide +kernel
theorem c169_2 : vlk 169 2 = some (1, 0, 0, 1, 3) := by decide +kernel
theorem c169_3 : vlk 169 3 = some (21, 0, 0, 0, 4) := by decide +kernel
theorem c169_4 : vlk 169 4 = some (1, 0, 0, 1431655765, 7) := by decide +kernel
theorem c169_7 : vlk 169 7 = some (17, 0, 0, 0, 8) := by decide +kernel
theorem c169_8 : vlk 169 8 = some (12, 0, 0, 0, 9) := by decide +kernel
theorem c169_9 : vlk 169 9 = some (7, 0, 0, 0, 10) := by decide +kernel
theorem c169_10 : vlk 169 10 = some (4, 0, 0, 0, 11) := by decide +kernel
theorem c169_11 : vlk 169 11 = some (1, 0, 0, 858993459, 14) := by decide +kernel
theorem c169_14 : vlk 169 14 = some (17, 0, 0, 0, 15) := by decide +kernel
theorem c169_15 : vlk 169 15 = some (4, 0, 0, 0, 16) := by decide +kernel
theorem c169_16 : vlk 169 16 = some (1, 0, 0, 2, 17) := by decide +kernel
theorem c169_17 : vlk 169 17 = some (21, 0, 0, 0, 18) := by decide +kernel
theorem c169_18 : vlk 169 18 = some (1, 0, 0, 858993459, 21) := by decide +kernel
theorem c169_21 : vlk 169 21 = some (17, 0, 0, 0, 22) := by decide +kernel
theorem c169_22 : vlk 169 22 = some (11, 0, 0, 0, 23) := by decide +kernel
theorem c169_23 : vlk 169 23 = some (7, 0, 0, 0, 24) := by decide +kernel
theorem c169_24 : vlk 169 24 = some (4, 0, 0, 0, 25) := by decide +kernel
theorem c169_25 : vlk 169 25 = some (4, 0, 0, 0, 26) := by decide +kernel
theorem c169_26 : vlk 169 26 = some (1, 0, 0, 4, 27) := by decide +kernel
theorem c169_27 : vlk 169 27 = some (21, 0, 0, 0, 28) := by decide +kernel
theorem c169_28 : vlk 169 28 = some (11, 0, 0, 0, 29) := by decide +kernel
theorem c169_29 : vlk 169 29 = some (1, 0, 0, 252645135, 32) := by decide +kernel
theorem c169_32 : vlk 169 32 = some (17, 0, 0, 0, 33) := by decide +kernel
theorem c169_33 : vlk 169 33 = some (7, 0, 0, 0, 34) := by decide +kernel
theorem c169_34 : vlk 169 34 = some (4, 0, 0, 0, 35) := by decide +kernel
theorem c169_35 : vlk 169 35 = some (4, 0, 0, 0, 36) := by decide +kernel
theorem c169_36 : vlk 169 36 = some (1, 0, 0, 8, 38) := by decide +kernel
theorem c169_38 : vlk 169 38 = some (21, 0, 0, 0, 39) := by decide +kernel
theorem c169_39 : vlk 169 39 = some (11, 0, 0, 0, 40) := by decide +kernel
theorem c169_40 : vlk 169 40 = some (7, 0, 0, 0, 41) := by decide +kernel
theorem c169_41 : vlk 169 41 = some (4, 0, 0, 0, 42) := by decide +kernel
theorem c169_42 : vlk 169 42 = some (4, 0, 0, 0, 43) := by decide +kernel
theorem c169_43 : vlk 169 43 = some (1, 0, 0, 16, 45) := by decide +kernel
theorem c169_45 : vlk 169 45 = some (21, 0, 0, 0, 46) := by decide +kernel
theorem c169_46 : vlk 169 46 = some (11, 0, 0, 0, 47) := by decide +kernel
theorem c169_47 : vlk 169 47 = some (7, 0, 0, 0, 48) := by decide +kernel
theorem c169_48 : vlk 169 48 = some (4, 0, 0, 0, 49) := by decide +kernel
theorem c169_49 : vlk 169 49 = some (1, 0, 0, 63, 51) := by decide +kernel
theorem c169_51 : vlk 169 51 = some (17, 0, 0, 0, 52) := by decide +kernel
theorem c169_52 : vlk 169 52 = some (63, 0, 0, 0, 53) := by decide +kernel
/-! the 60 days from one on; the period; how many bits of an int -/
theorem vWs_mk {S : Nat → Bool} {i : Nat} (X : Int64) (h1 : ∀ j, j < 60 → vbt X.toInt j = S (60 * i + j)) (h2 : ∀ j, 60 ≤ j → vbt X.toInt j = false) : vWs S i X.toInt := ⟨lZ_norm X, h1, h2⟩
theorem k_wordFrom {d a : Nat} {S : Nat → Bool} {n : Nat} {h : vHp} {Q : vQ} (hD : vDy h a S) (h1 : n ≤ 2000) (k : ∀ w, vWs (fun j => decide (n + j < 720) && S (n + j)) 0 w → Q (some (.long (lZ w))) h) : vCall (d + 2) 0 0 18 [.ref a, .int (iI (n : Int))] h Q := by
  obtain ⟨f, hw, hf⟩ := hD.2
  have hd := hD.1
  refine vin 8 [_, _, _, _, _, _, _, _] ml_18 rfl rfl ?_
  refine r_iload c18_0 rfl ?_
  refine r_isN1 c18_1 vr_88 rfl (k_isDay (by omega) (by omega) (fun a1 a2 => ?_) (fun a1 => ?_))
  · dsimp only [vpush]
    refine r_ifne c18_4 (by omega) (by omega) (fun c_4 => ?_) (fun q => by exfalso; omega)
    refine r_iload c18_9 rfl (r_ci c18_10 (r_idiv c18_12 (by omega) (by omega) (by omega) (by omega) (r_istore c18_13 rfl (r_iload c18_14 rfl (r_ci c18_15 (r_irem c18_17 (by omega) (by omega) (by omega) (by omega) (r_istore c18_18 rfl (r_aload c18_19 rfl (r_get c18_20 hd rfl (r_iload c18_23 rfl (r_lald c18_24 hw (by omega) (by omega) (r_iload c18_25 rfl (r_lshr c18_26 (r_lstore c18_27 rfl rfl (r_iload c18_29 rfl (r_ci c18_30 (r_iadd c18_31 (r_ci c18_32 ?_))))))))))))))))))
    try dsimp only [vst]
    rw [vdv60, vmd60]
    have hi : n / 60 < 12 := by omega
    have hlow := hf (n / 60) hi
    refine r_icge c18_34 (by omega) (by omega) (by omega) (by omega) (fun c_34 => ?_) (fun c_34 => ?_)
    · refine r_cl c18_53 (r_lstore c18_54 rfl rfl (r_lload c18_56 rfl (r_lload c18_58 rfl (r_lor c18_60 (r_cl c18_61 (r_land c18_64 ?_))))))
      try dsimp only [vst]
      refine r_lret (st := []) c18_65 ?_
      refine k _ (vWs_mk _ (fun j hj => ?_) (fun j hj => ?_))
      · show vbt (vandL _ _) j = _
        rw [vbt_and, vbt_or, vbt_all, vbt_0, vbt_shr (by omega) _ _ (hlow.2.2 63 (by omega)), decide_eq_true hj, Bool.and_true, Bool.or_false, Nat.zero_add]
        by_cases e : n % 60 + j < 60
        · rw [hlow.2.1 _ e, decide_eq_true (by omega), Bool.true_and]
          congr 1; omega
        · rw [hlow.2.2 _ (by omega), decide_eq_false (by omega), Bool.false_and]
      · show vbt (vandL _ _) j = _
        rw [vbt_and, vbt_all, decide_eq_false (by omega), Bool.and_false]
    · refine r_aload c18_37 rfl (r_get c18_38 hd rfl (r_iload c18_41 rfl (r_ci c18_42 (r_iadd c18_43 (r_lald c18_44 hw (by omega) (by omega) (r_ci c18_45 (r_iload c18_47 rfl (r_isub c18_48 (r_lshl c18_49 (r_goto c18_50 (r_lstore c18_54 rfl rfl (r_lload c18_56 rfl (r_lload c18_58 rfl (r_lor c18_60 (r_cl c18_61 (r_land c18_64 ?_))))))))))))))))
      try dsimp only [vst]
      refine r_lret (st := []) c18_65 ?_
      rw [show ((n : Int) / 60 + 1).toNat = n / 60 + 1 by omega, show (60 : Int) - ((n % 60 : Nat) : Int) = ((60 - n % 60 : Nat) : Int) by omega]
      have hi2 : n / 60 + 1 < 12 := by omega
      have hhi := hf (n / 60 + 1) hi2
      refine k _ (vWs_mk _ (fun j hj => ?_) (fun j hj => ?_))
      · show vbt (vandL _ _) j = _
        rw [vbt_and, vbt_or, vbt_all, vbt_shr (by omega) _ _ (hlow.2.2 63 (by omega)), vbt_shl (by omega), decide_eq_true hj, Bool.and_true, Nat.zero_add, decide_eq_true (show j < 64 by omega), Bool.true_and, decide_eq_true (show n + j < 720 by omega), Bool.true_and]
        by_cases e : n % 60 + j < 60
        · rw [hlow.2.1 _ e, decide_eq_false (show ¬ 60 - n % 60 ≤ j by omega), Bool.false_and, Bool.or_false]
          congr 1; omega
        · rw [hlow.2.2 _ (by omega), decide_eq_true (show 60 - n % 60 ≤ j by omega), Bool.true_and, Bool.false_or, hhi.2.1 _ (by omega)]
          congr 1; omega
      · show vbt (vandL _ _) j = _
        rw [vbt_and, vbt_all, decide_eq_false (by omega), Bool.and_false]
  · dsimp only [vpush]
    refine r_ifne c18_4 (by omega) (by omega) (fun q => by exfalso; omega) (fun c_4 => ?_)
    refine r_cl c18_7 ?_
    refine r_lret (st := []) c18_8 ?_
    exact k 0 (vWs_cong (vWs_0 0) (fun j hj => by rw [decide_eq_false (by omega)]; rfl))
theorem vbt_msk {c : Nat} (hc : c ≤ 60) (j : Nat) : vbt (vshlL 1 (c : Int) - 1) j = decide (j < c) := by
  by_cases h : j < 64
  · have e : ∀ t : Nat, t < 61 → ∀ k : Nat, k < 64 → vbt (vshlL 1 (t : Int) - 1) k = decide (k < t) := by decide +kernel
    exact e c (by omega) j h
  · rw [vbt_ge _ (by omega)]; simp; omega
theorem vWs_zero {S : Nat → Bool} {i : Nat} {w : Int} (h : vWs S i w) : w = 0 ↔ ∀ j, j < 60 → S (60 * i + j) = false := by
  constructor
  · intro e j hj
    rw [← h.2.1 j hj, e, vbt_0]
  · intro e
    exact vWs_uniq h (vWs_cong (vWs_0 i) (fun j hj => (e j hj).symm))
/-- the days that come again after so many -/
def vca (S : Nat → Bool) (p u : Nat) : Prop := ∀ n, n < u → n + p < 720 → S n = S (n + p)
theorem k_comesAgain {d a p : Nat} {S : Nat → Bool} {h : vHp} {Q : vQ} (hD : vDy h a S) (h1 : p ≤ 720) (kT : vca S p 720 → Q (some (.int (iI 1))) h) (kF : ¬ vca S p 720 → Q (some (.int (iI 0))) h) : vCall (d + 3) 0 0 19 [.ref a, .int (iI (p : Int))] h Q := by
  obtain ⟨f, hw, hf⟩ := hD.2
  have hd := hD.1
  have loop : ∀ u i : Nat, i + u = 12 → vca S p (60 * i) → ∀ x4 x5 x6 x7 : Value, vW (vCall (d + 2)) 19 Q 8 [.ref a, .int (iI (p : Int)), .int (iI (720 - (p : Int))), .int (iI (i : Int)), x4, x5, x6, x7] [] h 0 0 := by
    intro u
    induction u with
    | zero =>
      intro i hi hv x4 x5 x6 x7
      refine r_iload c19_8 rfl (r_ci c19_9 ?_)
      refine r_icge c19_11 (by omega) (by omega) (by omega) (by omega) (fun c_11 => ?_) (fun q => by exfalso; omega)
      refine r_ci c19_74 ?_
      refine r_zret (st := []) c19_75 (by omega) ?_
      exact kT (by rw [show 720 = 60 * i by omega]; exact hv)
    | succ u ih =>
      intro i hi hv x4 x5 x6 x7
      refine r_iload c19_8 rfl (r_ci c19_9 ?_)
      refine r_icge c19_11 (by omega) (by omega) (by omega) (by omega) (fun q => by exfalso; omega) (fun c_11 => ?_)
      refine r_iload c19_14 rfl (r_ci c19_15 (r_imul c19_17 (r_istore c19_18 rfl (r_ci c19_20 (r_ci c19_21 (r_iload c19_23 rfl (r_iload c19_24 rfl (r_isub c19_26 (r_mmin c19_27 (by omega) (by omega) (by omega) (by omega) (Nat.le_of_ble_eq_true rfl) (r_mmax c19_30 (by omega) (by omega) (by omega) (by omega) (Nat.le_of_ble_eq_true rfl) (r_istore c19_33 rfl (r_cl c19_35 (r_iload c19_36 rfl (r_lshl c19_38 (r_cl c19_39 (r_lsub c19_40 (r_lstore c19_41 rfl rfl (r_aload c19_43 rfl (r_get c19_44 hd rfl (r_iload c19_47 rfl (r_lald c19_48 hw (by omega) (by omega) (r_aload c19_49 rfl (r_iload c19_50 rfl (r_iload c19_52 rfl ?_))))))))))))))))))))))))
      refine r_iadd c19_53 ?_
      try dsimp only [vst]
      rw [show (i : Int) * 60 = ((60 * i : Nat) : Int) by omega, show ((60 * i : Nat) : Int) + (p : Int) = ((60 * i + p : Nat) : Int) by omega, Int.toNat_natCast]
      refine r_iv1 c19_54 vr_18 hd rfl (k_wordFrom hD (by omega) (fun w hw2 => ?_))
      dsimp only [vpush]
      obtain ⟨c, hc, hc60, hcc⟩ : ∃ c : Nat, (if (0 : Int) < (if 720 - (p : Int) - ((60 * i : Nat) : Int) < 60 then 720 - (p : Int) - ((60 * i : Nat) : Int) else 60) then (if 720 - (p : Int) - ((60 * i : Nat) : Int) < 60 then 720 - (p : Int) - ((60 * i : Nat) : Int) else 60) else 0) = (c : Int) ∧ c ≤ 60 ∧ ∀ j, j < 60 → (j < c ↔ 60 * i + j + p < 720) := by
        refine ⟨if 720 - p - 60 * i < 60 then 720 - p - 60 * i else 60, ?_, ?_, ?_⟩
        · split <;> split <;> split <;> omega
        · split <;> omega
        · intro j hj; split <;> omega
      rw [hc]
      have hX : vWs (fun j => (S (60 * i + j) ^^ (decide (60 * i + p + j < 720) && S (60 * i + p + j))) && decide (j < c)) 0 (vandL (vxorL (f i) w) (vshlL 1 (c : Int) - 1)) := by
        refine vWs_mk _ (fun j hj => ?_) (fun j hj => ?_)
        · show vbt (vandL _ _) j = _
          rw [vbt_and, vbt_msk hc60, vbt_xor, (hf i (by omega)).2.1 j hj, hw2.2.1 j hj, Nat.mul_zero, Nat.zero_add]
        · show vbt (vandL _ _) j = _
          rw [vbt_and, vbt_msk hc60, decide_eq_false (by omega), Bool.and_false]
      have hr := vWs_range hX
      have hz := vWs_zero hX
      refine r_lxor c19_57 (r_lload c19_58 rfl (r_land c19_60 (r_cl c19_61 ?_)))
      generalize vandL (vxorL (f i) w) (vshlL 1 (c : Int) - 1) = xx at hr hz
      refine r_lceq c19_62 c19_63 (by omega) (by omega) (by omega) (by omega) (fun c_62 => ?_) (fun c_62 => ?_)
      · refine r_iinc c19_68 rfl rfl (r_goto c19_71 ?_)
        try dsimp only [vst]
        rw [vsu]
        refine ih (i + 1) (by omega) (fun n hn hn2 => ?_) _ _ _ _
        by_cases e : n < 60 * i
        · exact hv n e hn2
        · have e2 := hz.1 c_62 (n - 60 * i) (by omega)
          have e3 := (hcc (n - 60 * i) (by omega)).2 (by omega)
          rw [decide_eq_true (by omega), decide_eq_true (by omega), Bool.true_and, Bool.and_true, Nat.mul_zero, Nat.zero_add, show 60 * i + (n - 60 * i) = n by omega, show 60 * i + p + (n - 60 * i) = n + p by omega] at e2
          revert e2
          cases S n <;> cases S (n + p) <;> simp
      · refine r_ci c19_66 ?_
        refine r_zret (st := []) c19_67 (by omega) ?_
        refine kF (fun q => c_62 (hz.2 (fun j hj => ?_)))
        rw [Nat.mul_zero, Nat.zero_add]
        by_cases e : j < c
        · have e3 := (hcc j hj).1 e
          rw [decide_eq_true (show 60 * i + p + j < 720 by omega), Bool.true_and, q (60 * i + j) (by omega) e3, show 60 * i + j + p = 60 * i + p + j by omega]
          simp
        · rw [decide_eq_false e, Bool.and_false]
  refine vin 8 [_, _, _, _, _, _, _, _] ml_19 rfl rfl ?_
  refine r_ci c19_0 (r_iload c19_3 rfl (r_isub c19_4 (r_istore c19_5 rfl (r_ci c19_6 (r_istore c19_7 rfl ?_)))))
  try dsimp only [vst]
  exact loop 12 0 (by omega) (fun n hn => absurd hn (by omega)) _ _ _ _
/-- how many of the ten lowest bits -/
def vbc (x1 : Int) : Int :=
  let x2 := x1 - vandI (vushrI x1 1) 1431655765
  let x3 := vandI x2 858993459 + vandI (vushrI x2 2) 858993459
  let x4 := vandI (x3 + vushrI x3 4) 252645135
  let x5 := x4 + vushrI x4 8
  let x6 := x5 + vushrI x5 16
  vandI x6 63
theorem vbc_eq : ∀ n : Nat, n < 1024 → vbc (n : Int) = ((vcn (fun j => n.testBit j) 0 10 : Nat) : Int) := by decide +kernel
theorem k_bitCountI {d n : Nat} {h : vHp} {Q : vQ} (hn : n < 1024) (k : Q (some (.int (iI (vcn (fun j => n.testBit j) 0 10 : Nat)))) h) : vCall (d + 1) 0 0 169 [.int (iI (n : Int))] h Q := by
  refine vin 1 [_] ml_169 rfl rfl ?_
  refine r_iload c169_0 rfl (r_iload c169_1 rfl (r_ci c169_2 (r_iushr c169_3 (r_ci c169_4 (r_iand c169_7 (r_isub c169_8 (r_istore c169_9 rfl (r_iload c169_10 rfl (r_ci c169_11 (r_iand c169_14 (r_iload c169_15 rfl (r_ci c169_16 (r_iushr c169_17 (r_ci c169_18 (r_iand c169_21 (r_iadd c169_22 (r_istore c169_23 rfl (r_iload c169_24 rfl (r_iload c169_25 rfl (r_ci c169_26 (r_iushr c169_27 (r_iadd c169_28 (r_ci c169_29 (r_iand c169_32 ?_))))))))))))))))))))))))
  refine r_istore c169_33 rfl (r_iload c169_34 rfl (r_iload c169_35 rfl (r_ci c169_36 (r_iushr c169_38 (r_iadd c169_39 (r_istore c169_40 rfl (r_iload c169_41 rfl (r_iload c169_42 rfl (r_ci c169_43 (r_iushr c169_45 (r_iadd c169_46 (r_istore c169_47 rfl (r_iload c169_48 rfl (r_ci c169_49 (r_iand c169_51 ?_)))))))))))))))
  try dsimp only [vst]
  refine r_iret (st := []) c169_52 ?_
  rw [← vbc_eq n hn] at k
  exact k

