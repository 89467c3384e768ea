theorem ml_71 : vml 71 = 3 := by decide +kernel
theorem ml_72 : vml 72 = 3 := by decide +kernel
theorem ml_73 : vml 73 = 8 := by decide +kernel
theorem ml_74 : vml 74 = 6 := by decide +kernel
theorem vr_90 : vrc 90 = some (5, 1) := by decide +kernel
theorem vr_95 : vrc 95 = some (5, 1) := by decide +kernel
theorem vr_96 : vrc 96 = some (5, 1) := by decide +kernel
theorem vr_169 : vrc 169 = some (99, 1) := by decide +kernel
theorem c71_0 : vlk 71 0 = some (4, 1, 0, 0, 1) := by decide +kernel
theorem c71_1 : vlk 71 1 = some (59, 90, 0, 0, 4) := by decide +kernel
theorem c71_4 : vlk 71 4 = some (71, 10, 0, 0, 7) := by decide +kernel
theorem c71_7 : vlk 71 7 = some (1, 0, 0, (-2), 9) := by decide +kernel
theorem c71_9 : vlk 71 9 = some (63, 0, 0, 0, 10) := by decide +kernel
theorem c71_10 : vlk 71 10 = some (4, 2, 0, 0, 11) := by decide +kernel
theorem c71_11 : vlk 71 11 = some (1, 0, 0, (-1), 12) := by decide +kernel
theorem c71_12 : vlk 71 12 = some (79, 17, 0, 0, 15) := by decide +kernel
theorem c71_15 : vlk 71 15 = some (1, 0, 0, (-1), 16) := by decide +kernel
theorem c71_16 : vlk 71 16 = some (63, 0, 0, 0, 17) := by decide +kernel
theorem c71_17 : vlk 71 17 = some (6, 0, 0, 0, 18) := by decide +kernel
theorem c71_18 : vlk 71 18 = some (4, 1, 0, 0, 19) := by decide +kernel
theorem c71_19 : vlk 71 19 = some (58, 95, 0, 0, 22) := by decide +kernel
theorem c71_22 : vlk 71 22 = some (4, 2, 0, 0, 23) := by decide +kernel
theorem c71_23 : vlk 71 23 = some (1, 0, 0, (-1), 24) := by decide +kernel
theorem c71_24 : vlk 71 24 = some (77, 37, 0, 0, 27) := by decide +kernel
theorem c71_27 : vlk 71 27 = some (6, 0, 0, 0, 28) := by decide +kernel
theorem c71_28 : vlk 71 28 = some (42, 5, 6, 0, 31) := by decide +kernel
theorem c71_31 : vlk 71 31 = some (58, 10, 0, 0, 34) := by decide +kernel
theorem c71_34 : vlk 71 34 = some (37, 49, 0, 0, 37) := by decide +kernel
theorem c71_37 : vlk 71 37 = some (6, 0, 0, 0, 38) := by decide +kernel
theorem c71_38 : vlk 71 38 = some (42, 5, 6, 0, 41) := by decide +kernel
theorem c71_41 : vlk 71 41 = some (1, 0, 0, 0, 42) := by decide +kernel
theorem c71_42 : vlk 71 42 = some (1, 0, 0, 719, 45) := by decide +kernel
theorem c71_45 : vlk 71 45 = some (4, 2, 0, 0, 46) := by decide +kernel
theorem c71_46 : vlk 71 46 = some (58, 12, 0, 0, 49) := by decide +kernel
theorem c71_49 : vlk 71 49 = some (63, 0, 0, 0, 50) := by decide +kernel
theorem c72_0 : vlk 72 0 = some (4, 1, 0, 0, 1) := by decide +kernel
theorem c72_1 : vlk 72 1 = some (59, 90, 0, 0, 4) := by decide +kernel
theorem c72_4 : vlk 72 4 = some (71, 10, 0, 0, 7) := by decide +kernel
theorem c72_7 : vlk 72 7 = some (1, 0, 0, (-2), 9) := by decide +kernel
theorem c72_9 : vlk 72 9 = some (63, 0, 0, 0, 10) := by decide +kernel
theorem c72_10 : vlk 72 10 = some (4, 2, 0, 0, 11) := by decide +kernel
theorem c72_11 : vlk 72 11 = some (73, 16, 0, 0, 14) := by decide +kernel
theorem c72_14 : vlk 72 14 = some (1, 0, 0, (-1), 15) := by decide +kernel
theorem c72_15 : vlk 72 15 = some (63, 0, 0, 0, 16) := by decide +kernel
theorem c72_16 : vlk 72 16 = some (6, 0, 0, 0, 17) := by decide +kernel
theorem c72_17 : vlk 72 17 = some (4, 1, 0, 0, 18) := by decide +kernel
theorem c72_18 : vlk 72 18 = some (58, 95, 0, 0, 21) := by decide +kernel
theorem c72_21 : vlk 72 21 = some (6, 0, 0, 0, 22) := by decide +kernel
theorem c72_22 : vlk 72 22 = some (6, 0, 0, 0, 23) := by decide +kernel
theorem c72_23 : vlk 72 23 = some (42, 5, 6, 0, 26) := by decide +kernel
theorem c72_26 : vlk 72 26 = some (1, 0, 0, 0, 27) := by decide +kernel
theorem c72_27 : vlk 72 27 = some (1, 0, 0, 719, 30) := by decide +kernel
theorem c72_30 : vlk 72 30 = some (4, 2, 0, 0, 31) := by decide +kernel
theorem c72_31 : vlk 72 31 = some (58, 12, 0, 0, 34) := by decide +kernel
theorem c72_34 : vlk 72 34 = some (58, 96, 0, 0, 37) := by decide +kernel
theorem c72_37 : vlk 72 37 = some (4, 1, 0, 0, 38) := by decide +kernel
theorem c72_38 : vlk 72 38 = some (17, 0, 0, 0, 39) := by decide +kernel
theorem c72_39 : vlk 72 39 = some (63, 0, 0, 0, 40) := by decide +kernel
theorem c73_0 : vlk 73 0 = some (4, 1, 0, 0, 1) := by decide +kernel
theorem c73_1 : vlk 73 1 = some (4, 2, 0, 0, 2) := by decide +kernel
theorem c73_2 : vlk 73 2 = some (59, 89, 0, 0, 5) := by decide +kernel
theorem c73_5 : vlk 73 5 = some (71, 11, 0, 0, 8) := by decide +kernel
theorem c73_8 : vlk 73 8 = some (1, 0, 0, (-2), 10) := by decide +kernel
theorem c73_10 : vlk 73 10 = some (63, 0, 0, 0, 11) := by decide +kernel
theorem c73_11 : vlk 73 11 = some (4, 3, 0, 0, 12) := by decide +kernel
theorem c73_12 : vlk 73 12 = some (70, 22, 0, 0, 15) := by decide +kernel
theorem c73_15 : vlk 73 15 = some (4, 3, 0, 0, 16) := by decide +kernel
theorem c73_16 : vlk 73 16 = some (1, 0, 0, 1, 17) := by decide +kernel
theorem c73_17 : vlk 73 17 = some (76, 22, 0, 0, 20) := by decide +kernel
theorem c73_20 : vlk 73 20 = some (1, 0, 0, (-1), 21) := by decide +kernel
theorem c73_21 : vlk 73 21 = some (63, 0, 0, 0, 22) := by decide +kernel
theorem c73_22 : vlk 73 22 = some (1, 0, 0, (-5), 24) := by decide +kernel
theorem c73_24 : vlk 73 24 = some (7, 4, 0, 0, 26) := by decide +kernel
theorem c73_26 : vlk 73 26 = some (1, 0, 0, 0, 27) := by decide +kernel
theorem c73_27 : vlk 73 27 = some (7, 5, 0, 0, 29) := by decide +kernel
theorem c73_29 : vlk 73 29 = some (4, 1, 0, 0, 30) := by decide +kernel
theorem c73_30 : vlk 73 30 = some (7, 6, 0, 0, 32) := by decide +kernel
theorem c73_32 : vlk 73 32 = some (4, 6, 0, 0, 34) := by decide +kernel
theorem c73_34 : vlk 73 34 = some (4, 2, 0, 0, 35) := by decide +kernel
theorem c73_35 : vlk 73 35 = some (80, 70, 0, 0, 38) := by decide +kernel
theorem c73_38 : vlk 73 38 = some (6, 0, 0, 0, 39) := by decide +kernel
theorem c73_39 : vlk 73 39 = some (4, 6, 0, 0, 41) := by decide +kernel
theorem c73_41 : vlk 73 41 = some (58, 96, 0, 0, 44) := by decide +kernel
theorem c73_44 : vlk 73 44 = some (59, 169, 0, 0, 47) := by decide +kernel
theorem c73_47 : vlk 73 47 = some (7, 7, 0, 0, 49) := by decide +kernel
theorem c73_49 : vlk 73 49 = some (4, 7, 0, 0, 51) := by decide +kernel
theorem c73_51 : vlk 73 51 = some (4, 5, 0, 0, 53) := by decide +kernel
theorem c73_53 : vlk 73 53 = some (81, 64, 0, 0, 56) := by decide +kernel
theorem c73_56 : vlk 73 56 = some (4, 6, 0, 0, 58) := by decide +kernel
theorem c73_58 : vlk 73 58 = some (7, 4, 0, 0, 60) := by decide +kernel
theorem c73_60 : vlk 73 60 = some (4, 7, 0, 0, 62) := by decide +kernel
theorem c73_62 : vlk 73 62 = some (7, 5, 0, 0, 64) := by decide +kernel
theorem c73_64 : vlk 73 64 = some (10, 6, 0, 1, 67) := by decide +kernel
theorem c73_67 : vlk 73 67 = some (37, 32, 0, 0, 70) := by decide +kernel
theorem c73_70 : vlk 73 70 = some (4, 3, 0, 0, 71) := by decide +kernel
theorem c73_71 : vlk 73 71 = some (71, 79, 0, 0, 74) := by decide +kernel
theorem c73_74 : vlk 73 74 = some (4, 4, 0, 0, 76) := by decide +kernel
theorem c73_76 : vlk 73 76 = some (37, 81, 0, 0, 79) := by decide +kernel
theorem c73_79 : vlk 73 79 = some (4, 5, 0, 0, 81) := by decide +kernel
theorem c73_81 : vlk 73 81 = some (63, 0, 0, 0, 82) := by decide +kernel
theorem c74_0 : vlk 74 0 = some (4, 1, 0, 0, 1) := by decide +kernel
theorem c74_1 : vlk 74 1 = some (59, 90, 0, 0, 4) := by decide +kernel
theorem c74_4 : vlk 74 4 = some (70, 25, 0, 0, 7) := by decide +kernel
theorem c74_7 : vlk 74 7 = some (4, 2, 0, 0, 8) := by decide +kernel
theorem c74_8 : vlk 74 8 = some (59, 88, 0, 0, 11) := by decide +kernel
theorem c74_11 : vlk 74 11 = some (70, 25, 0, 0, 14) := by decide +kernel
theorem c74_14 : vlk 74 14 = some (4, 3, 0, 0, 15) := by decide +kernel
theorem c74_15 : vlk 74 15 = some (1, 0, 0, 1, 16) := by decide +kernel
theorem c74_16 : vlk 74 16 = some (78, 25, 0, 0, 19) := by decide +kernel
theorem c74_19 : vlk 74 19 = some (4, 3, 0, 0, 20) := by decide +kernel
theorem c74_20 : vlk 74 20 = some (1, 0, 0, 99, 22) := by decide +kernel
theorem c74_22 : vlk 74 22 = some (81, 28, 0, 0, 25) := by decide +kernel
theorem c74_25 : vlk 74 25 = some (1, 0, 0, (-2), 27) := by decide +kernel
theorem c74_27 : vlk 74 27 = some (63, 0, 0, 0, 28) := by decide +kernel
theorem c74_28 : vlk 74 28 = some (6, 0, 0, 0, 29) := by decide +kernel
theorem c74_29 : vlk 74 29 = some (4, 1, 0, 0, 30) := by decide +kernel
theorem c74_30 : vlk 74 30 = some (58, 95, 0, 0, 33) := by decide +kernel
theorem c74_33 : vlk 74 33 = some (1, 0, 0, 0, 34) := by decide +kernel
theorem c74_34 : vlk 74 34 = some (7, 4, 0, 0, 36) := by decide +kernel
theorem c74_36 : vlk 74 36 = some (4, 2, 0, 0, 37) := by decide +kernel
theorem c74_37 : vlk 74 37 = some (7, 5, 0, 0, 39) := by decide +kernel
theorem c74_39 : vlk 74 39 = some (4, 5, 0, 0, 41) := by decide +kernel
theorem c74_41 : vlk 74 41 = some (1, 0, 0, 720, 44) := by decide +kernel
theorem c74_44 : vlk 74 44 = some (79, 88, 0, 0, 47) := by decide +kernel
theorem c74_47 : vlk 74 47 = some (6, 0, 0, 0, 48) := by decide +kernel
theorem c74_48 : vlk 74 48 = some (42, 5, 6, 0, 51) := by decide +kernel
theorem c74_51 : vlk 74 51 = some (4, 5, 0, 0, 53) := by decide +kernel
theorem c74_53 : vlk 74 53 = some (58, 1, 0, 0, 56) := by decide +kernel
theorem c74_56 : vlk 74 56 = some (70, 63, 0, 0, 59) := by decide +kernel
theorem c74_59 : vlk 74 59 = some (1, 0, 0, 0, 60) := by decide +kernel
theorem c74_60 : vlk 74 60 = some (37, 67, 0, 0, 63) := by decide +kernel
theorem c74_63 : vlk 74 63 = some (4, 4, 0, 0, 65) := by decide +kernel
theorem c74_65 : vlk 74 65 = some (1, 0, 0, 1, 66) := by decide +kernel
theorem c74_66 : vlk 74 66 = some (11, 0, 0, 0, 67) := by decide +kernel
theorem c74_67 : vlk 74 67 = some (7, 4, 0, 0, 69) := by decide +kernel
theorem c74_69 : vlk 74 69 = some (4, 4, 0, 0, 71) := by decide +kernel
theorem c74_71 : vlk 74 71 = some (4, 3, 0, 0, 72) := by decide +kernel
theorem c74_72 : vlk 74 72 = some (77, 82, 0, 0, 75) := by decide +kernel
theorem c74_75 : vlk 74 75 = some (4, 5, 0, 0, 77) := by decide +kernel
theorem c74_77 : vlk 74 77 = some (4, 3, 0, 0, 78) := by decide +kernel
theorem c74_78 : vlk 74 78 = some (12, 0, 0, 0, 79) := by decide +kernel
theorem c74_79 : vlk 74 79 = some (1, 0, 0, 1, 80) := by decide +kernel
theorem c74_80 : vlk 74 80 = some (11, 0, 0, 0, 81) := by decide +kernel
theorem c74_81 : vlk 74 81 = some (63, 0, 0, 0, 82) := by decide +kernel
theorem c74_82 : vlk 74 82 = some (10, 5, 0, 1, 85) := by decide +kernel
theorem c74_85 : vlk 74 85 = some (37, 39, 0, 0, 88) := by decide +kernel
theorem c74_88 : vlk 74 88 = some (1, 0, 0, (-5), 90) := by decide +kernel
theorem c74_90 : vlk 74 90 = some (63, 0, 0, 0, 91) := by decide +kernel
/-! the object's questions about sets of names -/
def vQ_merged (N : vNmS) (x y : Int) : Int := if 0 ≤ x ∧ x < 1024 then (if y < -1 then -1 else if y = -1 then ((vcn (vjn N x.toNat 10) 0 720 : Nat) : Int) else vpk (vjn N x.toNat 10) 0 719 y) else -2
theorem k_merged {d b : Nat} {σ : vSg} {x y : Int} {h : vHp} {Q : vQ} (hR : vRD h b σ) (x1 : -2147483648 ≤ x) (x2 : x ≤ 2147483647) (y1 : -2147483648 ≤ y) (y2 : y ≤ 2147483647) (k : ∀ h', vRD h' b σ → vFr (fun q => b ≤ q ∧ q < b + 243) h h' → Q (some (.int (iI (vQ_merged σ.1 x y)))) h') : vCall (d + 4) 0 0 71 [.ref b, .int (iI x), .int (iI y)] h Q := by
  have hR0 := hR
  obtain ⟨a1, ⟨p, p1, p2⟩, ⟨s, s1, s2⟩, ⟨w, w1, w2⟩, a5, a6, a7, a8, ⟨J, a9⟩, b1, b2, b3⟩ := hR
  unfold vQ_merged at k
  refine vin 3 [_, _, _] ml_71 rfl rfl ?_
  refine r_iload c71_0 rfl ?_
  refine r_is1 c71_1 vr_90 rfl (k_isSet x1 x2 (fun e1 e2 => ?_) (fun e1 => ?_))
  · dsimp only [vpush]
    rw [if_pos ⟨e1, e2⟩] at k
    refine r_ifne c71_4 (by omega) (by omega) (fun c_4 => ?_) (fun q => by exfalso; omega)
    refine r_iload c71_10 rfl (r_ci c71_11 ?_)
    refine r_icge c71_12 (by omega) (by omega) (by omega) (by omega) (fun c_12 => ?_) (fun c_12 => ?_)
    · rw [if_neg (by omega)] at k
      obtain ⟨m, rfl⟩ := Int.eq_ofNat_of_zero_le e1
      rw [Int.toNat_natCast] at k
      refine r_aload c71_17 rfl (r_iload c71_18 rfl ?_)
      refine r_iv1 c71_19 vr_95 a1 rfl (k_join hR0 (by omega) (fun h1 hR1 hD1 f1 => ?_))
      dsimp only [vpush]
      have a1' := hR1.1
      refine r_iload c71_22 rfl (r_ci c71_23 ?_)
      refine r_icne c71_24 (by omega) (by omega) (by omega) (by omega) (fun c_24 => ?_) (fun c_24 => ?_)
      · rw [if_neg c_24] at k
        refine r_aload c71_37 rfl (r_get c71_38 a1' rfl (r_ci c71_41 (r_ci c71_42 (r_iload c71_45 rfl ?_))))
        refine r_iv3 c71_46 vr_12 hD1.1 rfl (k_pick (lo := 0) (hi := 719) hD1 (by omega) (by omega) y1 y2 ?_)
        dsimp only [vpush]
        refine r_iret (st := []) c71_49 ?_
        exact k h1 hR1 (vFr_up f1 (fun q e => by omega))
      · rw [if_pos c_24] at k
        refine r_aload c71_27 rfl (r_get c71_28 a1' rfl ?_)
        refine r_iv0 c71_31 vr_10 hD1.1 rfl (k_size hD1 ?_)
        dsimp only [vpush]
        refine r_goto c71_34 ?_
        refine r_iret (st := []) c71_49 ?_
        exact k h1 hR1 (vFr_up f1 (fun q e => by omega))
    · rw [if_pos (by omega)] at k
      refine r_ci c71_15 ?_
      refine r_iret (st := []) c71_16 ?_
      exact k h hR0 vFr_rf
  · dsimp only [vpush]
    rw [if_neg (by omega)] at k
    refine r_ifne c71_4 (by omega) (by omega) (fun q => by exfalso; omega) (fun c_4 => ?_)
    refine r_ci c71_7 ?_
    refine r_iret (st := []) c71_9 ?_
    exact k h hR0 vFr_rf
def vQ_whose (N : vNmS) (x y : Int) : Int := if 0 ≤ x ∧ x < 1024 then (if y < 0 then -1 else vandI ((vow N (vpk (vjn N x.toNat 10) 0 719 y) 10 : Nat) : Int) x) else -2
theorem k_whose {d b : Nat} {σ : vSg} {x y : Int} {h : vHp} {Q : vQ} (hR : vRD h b σ) (x1 : -2147483648 ≤ x) (x2 : x ≤ 2147483647) (y1 : -2147483648 ≤ y) (y2 : y ≤ 2147483647) (k : ∀ h', vRD h' b σ → vFr (fun q => b ≤ q ∧ q < b + 243) h h' → Q (some (.int (iI (vQ_whose σ.1 x y)))) h') : vCall (d + 4) 0 0 72 [.ref b, .int (iI x), .int (iI y)] h Q := by
  have hR0 := hR
  obtain ⟨a1, ⟨p, p1, p2⟩, ⟨s, s1, s2⟩, ⟨w, w1, w2⟩, a5, a6, a7, a8, ⟨J, a9⟩, b1, b2, b3⟩ := hR
  unfold vQ_whose at k
  refine vin 3 [_, _, _] ml_72 rfl rfl ?_
  refine r_iload c72_0 rfl ?_
  refine r_is1 c72_1 vr_90 rfl (k_isSet x1 x2 (fun e1 e2 => ?_) (fun e1 => ?_))
  · dsimp only [vpush]
    rw [if_pos ⟨e1, e2⟩] at k
    refine r_ifne c72_4 (by omega) (by omega) (fun c_4 => ?_) (fun q => by exfalso; omega)
    refine r_iload c72_10 rfl ?_
    refine r_ifge c72_11 (by omega) (by omega) (fun c_11 => ?_) (fun c_11 => ?_)
    · rw [if_neg (by omega)] at k
      obtain ⟨m, rfl⟩ := Int.eq_ofNat_of_zero_le e1
      rw [Int.toNat_natCast] at k
      refine r_aload c72_16 rfl (r_iload c72_17 rfl ?_)
      refine r_iv1 c72_18 vr_95 a1 rfl (k_join hR0 (by omega) (fun h1 hR1 hD1 f1 => ?_))
      dsimp only [vpush]
      have a1' := hR1.1
      have hvp := vpk_range (vjn σ.1 m 10) 0 719 y
      refine r_aload c72_21 rfl (r_aload c72_22 rfl (r_get c72_23 a1' rfl (r_ci c72_26 (r_ci c72_27 (r_iload c72_30 rfl ?_)))))
      refine r_iv3 c72_31 vr_12 hD1.1 rfl (k_pick (lo := 0) (hi := 719) hD1 (by omega) (by omega) y1 y2 ?_)
      dsimp only [vpush]
      refine r_iv1 c72_34 vr_96 a1' rfl (k_ownersOf hR1 (by omega) (by omega) ?_)
      dsimp only [vpush]
      refine r_iload c72_37 rfl (r_iand c72_38 ?_)
      refine r_iret (st := []) c72_39 ?_
      exact k h1 hR1 (vFr_up f1 (fun q e => by omega))
    · rw [if_pos (by omega)] at k
      refine r_ci c72_14 ?_
      refine r_iret (st := []) c72_15 ?_
      exact k h hR0 vFr_rf
  · dsimp only [vpush]
    rw [if_neg (by omega)] at k
    refine r_ifne c72_4 (by omega) (by omega) (fun q => by exfalso; omega) (fun c_4 => ?_)
    refine r_ci c72_7 ?_
    refine r_iret (st := []) c72_9 ?_
    exact k h hR0 vFr_rf
/-- how many names have a day -/
def vmn (N : vNmS) (e : Nat) : Nat := vcn (fun j => (vow N (e : Int) 10).testBit j) 0 10
def vbz (N : vNmS) : Nat → Nat → Int → Int → Int × Int
  | 0, _, B, M => (B, M)
  | n + 1, e, B, M => if M < ((vmn N e : Nat) : Int) then vbz N n (e + 1) (e : Int) ((vmn N e : Nat) : Int) else vbz N n (e + 1) B M
def vQ_busiest (N : vNmS) (x y z : Int) : Int := if 0 ≤ x ∧ x ≤ y ∧ y < 720 then (if z = 0 then (vbz N (y.toNat + 1 - x.toNat) x.toNat (-5) 0).1 else if z = 1 then (vbz N (y.toNat + 1 - x.toNat) x.toNat (-5) 0).2 else -1) else -2
theorem k_busiest {d b : Nat} {σ : vSg} {x y z : Int} {h : vHp} {Q : vQ} (hR : vRD h b σ) (x1 : -2147483648 ≤ x) (x2 : x ≤ 2147483647) (y1 : -2147483648 ≤ y) (y2 : y ≤ 2147483647) (z1 : -2147483648 ≤ z) (z2 : z ≤ 2147483647) (k : Q (some (.int (iI (vQ_busiest σ.1 x y z)))) h) : vCall (d + 4) 0 0 73 [.ref b, .int (iI x), .int (iI y), .int (iI z)] h Q := by
  have hR0 := hR
  obtain ⟨a1, ⟨p, p1, p2⟩, ⟨s, s1, s2⟩, ⟨w, w1, w2⟩, a5, a6, a7, a8, ⟨J, a9⟩, b1, b2, b3⟩ := hR
  unfold vQ_busiest at k
  refine vin 8 [_, _, _, _, _, _, _, _] ml_73 rfl rfl ?_
  refine r_iload c73_0 rfl (r_iload c73_1 rfl ?_)
  refine r_is2 c73_2 vr_89 rfl (k_isSpan x1 x2 y1 y2 (fun e1 e2 e3 => ?_) (fun e1 => ?_))
  · dsimp only [vpush]
    rw [if_pos ⟨e1, e2, e3⟩] at k
    refine r_ifne c73_5 (by omega) (by omega) (fun c_5 => ?_) (fun q => by exfalso; omega)
    obtain ⟨xn, rfl⟩ := Int.eq_ofNat_of_zero_le e1
    obtain ⟨yn, rfl⟩ := Int.eq_ofNat_of_zero_le (show 0 ≤ y by omega)
    rw [Int.toNat_natCast, Int.toNat_natCast] at k
    have loop : (z = 0 ∨ z = 1) → ∀ u i : Nat, i + u = yn + 1 → ∀ (B M : Int) (x7 : Value), 0 ≤ M → M ≤ 10 → vbz σ.1 u i B M = vbz σ.1 (yn + 1 - xn) xn (-5) 0 → vW (vCall (d + 3)) 73 Q 32 [.ref b, .int (iI (xn : Int)), .int (iI (yn : Int)), .int (iI z), .int (iI B), .int (iI M), .int (iI (i : Int)), x7] [] h 0 0 := by
      intro hz u
      induction u with
      | zero =>
        intro i hi B M x7 m1 m2 he
        have he' : (B, M) = vbz σ.1 (yn + 1 - xn) xn (-5) 0 := he
        refine r_iload c73_32 rfl (r_iload c73_34 rfl ?_)
        refine r_icgt c73_35 (by omega) (by omega) (by omega) (by omega) (fun c_35 => ?_) (fun q => by exfalso; omega)
        refine r_iload c73_70 rfl ?_
        refine r_ifne c73_71 (by omega) (by omega) (fun c_71 => ?_) (fun c_71 => ?_)
        · rw [if_neg c_71, if_pos (by omega), ← he'] at k
          refine r_iload c73_79 rfl ?_
          refine r_iret (st := []) c73_81 ?_
          exact k
        · rw [if_pos (by omega), ← he'] at k
          refine r_iload c73_74 rfl (r_goto c73_76 ?_)
          refine r_iret (st := []) c73_81 ?_
          exact k
      | succ u ih =>
        intro i hi B M x7 m1 m2 he
        have he' : (if M < ((vmn σ.1 i : Nat) : Int) then vbz σ.1 u (i + 1) (i : Int) ((vmn σ.1 i : Nat) : Int) else vbz σ.1 u (i + 1) B M) = vbz σ.1 (yn + 1 - xn) xn (-5) 0 := he
        have hm : vmn σ.1 i ≤ 10 := vcn_le _ _ _
        refine r_iload c73_32 rfl (r_iload c73_34 rfl ?_)
        refine r_icgt c73_35 (by omega) (by omega) (by omega) (by omega) (fun q => by exfalso; omega) (fun c_35 => ?_)
        refine r_aload c73_38 rfl (r_iload c73_39 rfl ?_)
        refine r_iv1 c73_41 vr_96 a1 rfl (k_ownersOf hR0 (by omega) (by omega) ?_)
        dsimp only [vpush]
        refine r_is1 c73_44 vr_169 rfl (k_bitCountI (vow_lt σ.1 (i : Int) 10) ?_)
        dsimp only [vpush]
        rw [show vcn (fun j => (vow σ.1 (i : Int) 10).testBit j) 0 10 = vmn σ.1 i from rfl]
        refine r_istore c73_47 rfl (r_iload c73_49 rfl (r_iload c73_51 rfl ?_))
        try dsimp only [vst]
        refine r_icle c73_53 (by omega) (by omega) (by omega) (by omega) (fun c_53 => ?_) (fun c_53 => ?_)
        · rw [if_neg (by omega)] at he'
          refine r_iinc c73_64 rfl rfl (r_goto c73_67 ?_)
          try dsimp only [vst]
          rw [vsu]
          exact ih (i + 1) (by omega) B M _ m1 m2 he'
        · rw [if_pos (by omega)] at he'
          refine r_iload c73_56 rfl (r_istore c73_58 rfl (r_iload c73_60 rfl (r_istore c73_62 rfl (r_iinc c73_64 rfl rfl (r_goto c73_67 ?_)))))
          try dsimp only [vst]
          rw [vsu]
          exact ih (i + 1) (by omega) _ _ _ (by omega) (by omega) he'
    refine r_iload c73_11 rfl ?_
    refine r_ifeq c73_12 (by omega) (by omega) (fun c_12 => ?_) (fun c_12 => ?_)
    · refine r_ci c73_22 (r_istore c73_24 rfl (r_ci c73_26 (r_istore c73_27 rfl (r_iload c73_29 rfl (r_istore c73_30 rfl ?_)))))
      try dsimp only [vst]
      exact loop (Or.inl c_12) (yn + 1 - xn) xn (by omega) (-5) 0 _ (by omega) (by omega) rfl
    · refine r_iload c73_15 rfl (r_ci c73_16 ?_)
      refine r_iceq c73_17 (by omega) (by omega) (by omega) (by omega) (fun c_17 => ?_) (fun c_17 => ?_)
      · refine r_ci c73_22 (r_istore c73_24 rfl (r_ci c73_26 (r_istore c73_27 rfl (r_iload c73_29 rfl (r_istore c73_30 rfl ?_)))))
        try dsimp only [vst]
        exact loop (Or.inr c_17) (yn + 1 - xn) xn (by omega) (-5) 0 _ (by omega) (by omega) rfl
      · rw [if_neg c_12, if_neg c_17] at k
        refine r_ci c73_20 ?_
        refine r_iret (st := []) c73_21 ?_
        exact k
  · dsimp only [vpush]
    rw [if_neg e1] at k
    refine r_ifne c73_5 (by omega) (by omega) (fun q => by exfalso; omega) (fun c_5 => ?_)
    refine r_ci c73_8 ?_
    refine r_iret (st := []) c73_10 ?_
    exact k
/-- the first of so many days in a row without -/
def vfe (S : vSt1) (n : Int) : Nat → Nat → Int → Int
  | 0, _, _ => -5
  | u + 1, e, r => if (if S e = true then 0 else r + 1) = n then (e : Int) - n + 1 else vfe S n u (e + 1) (if S e = true then 0 else r + 1)
def vQ_free (N : vNmS) (x y z : Int) : Int := if (0 ≤ x ∧ x < 1024) ∧ (0 ≤ y ∧ y < 720) ∧ 1 ≤ z ∧ z ≤ 99 then vfe (vjn N x.toNat 10) z (720 - y.toNat) y.toNat 0 else -2
theorem k_free {d b : Nat} {σ : vSg} {x y z : Int} {h : vHp} {Q : vQ} (hR : vRD h b σ) (x1 : -2147483648 ≤ x) (x2 : x ≤ 2147483647) (y1 : -2147483648 ≤ y) (y2 : y ≤ 2147483647) (z1 : -2147483648 ≤ z) (z2 : z ≤ 2147483647) (k : ∀ h', vRD h' b σ → vFr (fun q => b ≤ q ∧ q < b + 243) h h' → Q (some (.int (iI (vQ_free σ.1 x y z)))) h') : vCall (d + 4) 0 0 74 [.ref b, .int (iI x), .int (iI y), .int (iI z)] h Q := by
  have hR0 := hR
  obtain ⟨a1, ⟨p, p1, p2⟩, ⟨s, s1, s2⟩, ⟨w, w1, w2⟩, a5, a6, a7, a8, ⟨J, a9⟩, b1, b2, b3⟩ := hR
  unfold vQ_free at k
  have no : ¬ ((0 ≤ x ∧ x < 1024) ∧ (0 ≤ y ∧ y < 720) ∧ 1 ≤ z ∧ z ≤ 99) → ∀ v4 v5 : Value, vW (vCall (d + 3)) 74 Q 25 [.ref b, .int (iI x), .int (iI y), .int (iI z), v4, v5] [] h 0 0 := fun q v4 v5 => by
    rw [if_neg q] at k
    refine r_ci c74_25 ?_
    refine r_iret (st := []) c74_27 ?_
    exact k h hR0 vFr_rf
  refine vin 6 [_, _, _, _, _, _] ml_74 rfl rfl ?_
  refine r_iload c74_0 rfl ?_
  refine r_is1 c74_1 vr_90 rfl (k_isSet x1 x2 (fun e1 e2 => ?_) (fun e1 => ?_))
  · dsimp only [vpush]
    refine r_ifeq c74_4 (by omega) (by omega) (fun q => by exfalso; omega) (fun c_4 => ?_)
    refine r_iload c74_7 rfl ?_
    refine r_is1 c74_8 vr_88 rfl (k_isDay y1 y2 (fun g1 g2 => ?_) (fun g1 => ?_))
    · dsimp only [vpush]
      refine r_ifeq c74_11 (by omega) (by omega) (fun q => by exfalso; omega) (fun c_11 => ?_)
      refine r_iload c74_14 rfl (r_ci c74_15 ?_)
      refine r_iclt c74_16 (by omega) (by omega) (by omega) (by omega) (fun c_16 => ?_) (fun c_16 => ?_)
      · exact no (by omega) _ _
      · refine r_iload c74_19 rfl (r_ci c74_20 ?_)
        refine r_icle c74_22 (by omega) (by omega) (by omega) (by omega) (fun c_22 => ?_) (fun c_22 => ?_)
        · rw [if_pos (by omega)] at k
          obtain ⟨m, rfl⟩ := Int.eq_ofNat_of_zero_le e1
          obtain ⟨yn, rfl⟩ := Int.eq_ofNat_of_zero_le g1
          rw [Int.toNat_natCast, Int.toNat_natCast] at k
          refine r_aload c74_28 rfl (r_iload c74_29 rfl ?_)
          refine r_iv1 c74_30 vr_95 a1 rfl (k_join hR0 (by omega) (fun h1 hR1 hD1 f1 => ?_))
          dsimp only [vpush]
          have a1' := hR1.1
          have loop : ∀ u i : Nat, i + u = 720 → ∀ r : Int, 0 ≤ r → r ≤ i → vfe (vjn σ.1 m 10) z u i r = vfe (vjn σ.1 m 10) z (720 - yn) yn 0 → vW (vCall (d + 3)) 74 Q 39 [.ref b, .int (iI (m : Int)), .int (iI (yn : Int)), .int (iI z), .int (iI r), .int (iI (i : Int))] [] h1 0 0 := by
            intro u
            induction u with
            | zero =>
              intro i hi r r1 r2 he
              refine r_iload c74_39 rfl (r_ci c74_41 ?_)
              refine r_icge c74_44 (by omega) (by omega) (by omega) (by omega) (fun c_44 => ?_) (fun q => by exfalso; omega)
              refine r_ci c74_88 ?_
              refine r_iret (st := []) c74_90 ?_
              rw [← he] at k
              exact k h1 hR1 (vFr_up f1 (fun q e => by omega))
            | succ u ih =>
              intro i hi r r1 r2 he
              rw [show vfe (vjn σ.1 m 10) z (u + 1) i r = (if (if vjn σ.1 m 10 i = true then 0 else r + 1) = z then (i : Int) - z + 1 else vfe (vjn σ.1 m 10) z u (i + 1) (if vjn σ.1 m 10 i = true then 0 else r + 1)) from rfl] at he
              have from67 : ∀ r' : Int, 0 ≤ r' → r' ≤ i + 1 → r' = (if vjn σ.1 m 10 i = true then 0 else r + 1) → vW (vCall (d + 3)) 74 Q 67 [.ref b, .int (iI (m : Int)), .int (iI (yn : Int)), .int (iI z), .int (iI r), .int (iI (i : Int))] [.int (iI r')] h1 0 0 := by
                intro r' q1 q2 q3
                rw [← q3] at he
                refine r_istore c74_67 rfl (r_iload c74_69 rfl (r_iload c74_71 rfl ?_))
                try dsimp only [vst]
                refine r_icne c74_72 (by omega) (by omega) (by omega) (by omega) (fun c_72 => ?_) (fun c_72 => ?_)
                · rw [if_neg c_72] at he
                  refine r_iinc c74_82 rfl rfl (r_goto c74_85 ?_)
                  try dsimp only [vst]
                  rw [vsu]
                  exact ih (i + 1) (by omega) r' q1 (by omega) he
                · rw [if_pos c_72] at he
                  refine r_iload c74_75 rfl (r_iload c74_77 rfl (r_isub c74_78 (r_ci c74_79 (r_iadd c74_80 ?_))))
                  refine r_iret (st := []) c74_81 ?_
                  rw [← he] at k
                  exact k h1 hR1 (vFr_up f1 (fun q e => by omega))
              refine r_iload c74_39 rfl (r_ci c74_41 ?_)
              refine r_icge c74_44 (by omega) (by omega) (by omega) (by omega) (fun q => by exfalso; omega) (fun c_44 => ?_)
              refine r_aload c74_47 rfl (r_get c74_48 a1' rfl (r_iload c74_51 rfl ?_))
              refine r_iv1 c74_53 vr_1 hD1.1 rfl (k_holdsN hD1 (by omega) (fun q => ?_) (fun q => ?_))
              · dsimp only [vpush]
                refine r_ifeq c74_56 (by omega) (by omega) (fun q => by exfalso; omega) (fun c_56 => ?_)
                refine r_ci c74_59 (r_goto c74_60 ?_)
                exact from67 0 (by omega) (by omega) (by rw [if_pos q])
              · dsimp only [vpush]
                refine r_ifeq c74_56 (by omega) (by omega) (fun c_56 => ?_) (fun q => by exfalso; omega)
                refine r_iload c74_63 rfl (r_ci c74_65 (r_iadd c74_66 ?_))
                exact from67 _ (by omega) (by omega) (by rw [if_neg (by rw [q]; decide)])
          refine r_ci c74_33 (r_istore c74_34 rfl (r_iload c74_36 rfl (r_istore c74_37 rfl ?_)))
          try dsimp only [vst]
          exact loop (720 - yn) yn (by omega) 0 (by omega) (by omega) rfl
        · exact no (by omega) _ _
    · dsimp only [vpush]
      refine r_ifeq c74_11 (by omega) (by omega) (fun c_11 => ?_) (fun q => by exfalso; omega)
      exact no (by omega) _ _
  · dsimp only [vpush]
    refine r_ifeq c74_4 (by omega) (by omega) (fun c_4 => ?_) (fun q => by exfalso; omega)
    exact no (by omega) _ _

