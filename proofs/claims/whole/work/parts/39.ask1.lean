theorem ml_62 : vml 62 = 3 := by decide +kernel
theorem ml_63 : vml 63 = 3 := by decide +kernel
theorem ml_64 : vml 64 = 3 := by decide +kernel
theorem ml_65 : vml 65 = 3 := by decide +kernel
theorem ml_67 : vml 67 = 6 := by decide +kernel
theorem ml_68 : vml 68 = 3 := by decide +kernel
theorem ml_69 : vml 69 = 7 := by decide +kernel
theorem vr_19 : vrc 19 = some (0, 1) := by decide +kernel
theorem vr_87 : vrc 87 = some (5, 1) := by decide +kernel
theorem c62_0 : vlk 62 0 = some (4, 1, 0, 0, 1) := by decide +kernel
theorem c62_1 : vlk 62 1 = some (59, 87, 0, 0, 4) := by decide +kernel
theorem c62_4 : vlk 62 4 = some (71, 9, 0, 0, 7) := by decide +kernel
theorem c62_7 : vlk 62 7 = some (1, 0, 0, (-1), 8) := by decide +kernel
theorem c62_8 : vlk 62 8 = some (63, 0, 0, 0, 9) := by decide +kernel
theorem c62_9 : vlk 62 9 = some (4, 2, 0, 0, 10) := by decide +kernel
theorem c62_10 : vlk 62 10 = some (59, 88, 0, 0, 13) := by decide +kernel
theorem c62_13 : vlk 62 13 = some (71, 19, 0, 0, 16) := by decide +kernel
theorem c62_16 : vlk 62 16 = some (1, 0, 0, (-2), 18) := by decide +kernel
theorem c62_18 : vlk 62 18 = some (63, 0, 0, 0, 19) := by decide +kernel
theorem c62_19 : vlk 62 19 = some (6, 0, 0, 0, 20) := by decide +kernel
theorem c62_20 : vlk 62 20 = some (42, 5, 0, 0, 23) := by decide +kernel
theorem c62_23 : vlk 62 23 = some (4, 1, 0, 0, 24) := by decide +kernel
theorem c62_24 : vlk 62 24 = some (48, 0, 0, 0, 25) := by decide +kernel
theorem c62_25 : vlk 62 25 = some (42, 2, 4, 0, 28) := by decide +kernel
theorem c62_28 : vlk 62 28 = some (4, 2, 0, 0, 29) := by decide +kernel
theorem c62_29 : vlk 62 29 = some (58, 1, 0, 0, 32) := by decide +kernel
theorem c62_32 : vlk 62 32 = some (70, 39, 0, 0, 35) := by decide +kernel
theorem c62_35 : vlk 62 35 = some (1, 0, 0, 1, 36) := by decide +kernel
theorem c62_36 : vlk 62 36 = some (37, 40, 0, 0, 39) := by decide +kernel
theorem c62_39 : vlk 62 39 = some (1, 0, 0, 0, 40) := by decide +kernel
theorem c62_40 : vlk 62 40 = some (63, 0, 0, 0, 41) := by decide +kernel
theorem c63_0 : vlk 63 0 = some (4, 1, 0, 0, 1) := by decide +kernel
theorem c63_1 : vlk 63 1 = some (59, 87, 0, 0, 4) := by decide +kernel
theorem c63_4 : vlk 63 4 = some (71, 9, 0, 0, 7) := by decide +kernel
theorem c63_7 : vlk 63 7 = some (1, 0, 0, (-1), 8) := by decide +kernel
theorem c63_8 : vlk 63 8 = some (63, 0, 0, 0, 9) := by decide +kernel
theorem c63_9 : vlk 63 9 = some (4, 2, 0, 0, 10) := by decide +kernel
theorem c63_10 : vlk 63 10 = some (59, 88, 0, 0, 13) := by decide +kernel
theorem c63_13 : vlk 63 13 = some (71, 19, 0, 0, 16) := by decide +kernel
theorem c63_16 : vlk 63 16 = some (1, 0, 0, (-2), 18) := by decide +kernel
theorem c63_18 : vlk 63 18 = some (63, 0, 0, 0, 19) := by decide +kernel
theorem c63_19 : vlk 63 19 = some (6, 0, 0, 0, 20) := by decide +kernel
theorem c63_20 : vlk 63 20 = some (42, 5, 0, 0, 23) := by decide +kernel
theorem c63_23 : vlk 63 23 = some (4, 1, 0, 0, 24) := by decide +kernel
theorem c63_24 : vlk 63 24 = some (48, 0, 0, 0, 25) := by decide +kernel
theorem c63_25 : vlk 63 25 = some (42, 2, 4, 0, 28) := by decide +kernel
theorem c63_28 : vlk 63 28 = some (4, 2, 0, 0, 29) := by decide +kernel
theorem c63_29 : vlk 63 29 = some (1, 0, 0, 719, 32) := by decide +kernel
theorem c63_32 : vlk 63 32 = some (1, 0, 0, 0, 33) := by decide +kernel
theorem c63_33 : vlk 63 33 = some (58, 12, 0, 0, 36) := by decide +kernel
theorem c63_36 : vlk 63 36 = some (63, 0, 0, 0, 37) := by decide +kernel
theorem c64_0 : vlk 64 0 = some (4, 1, 0, 0, 1) := by decide +kernel
theorem c64_1 : vlk 64 1 = some (59, 87, 0, 0, 4) := by decide +kernel
theorem c64_4 : vlk 64 4 = some (71, 9, 0, 0, 7) := by decide +kernel
theorem c64_7 : vlk 64 7 = some (1, 0, 0, (-1), 8) := by decide +kernel
theorem c64_8 : vlk 64 8 = some (63, 0, 0, 0, 9) := by decide +kernel
theorem c64_9 : vlk 64 9 = some (4, 2, 0, 0, 10) := by decide +kernel
theorem c64_10 : vlk 64 10 = some (59, 88, 0, 0, 13) := by decide +kernel
theorem c64_13 : vlk 64 13 = some (71, 19, 0, 0, 16) := by decide +kernel
theorem c64_16 : vlk 64 16 = some (1, 0, 0, (-2), 18) := by decide +kernel
theorem c64_18 : vlk 64 18 = some (63, 0, 0, 0, 19) := by decide +kernel
theorem c64_19 : vlk 64 19 = some (6, 0, 0, 0, 20) := by decide +kernel
theorem c64_20 : vlk 64 20 = some (42, 5, 0, 0, 23) := by decide +kernel
theorem c64_23 : vlk 64 23 = some (4, 1, 0, 0, 24) := by decide +kernel
theorem c64_24 : vlk 64 24 = some (48, 0, 0, 0, 25) := by decide +kernel
theorem c64_25 : vlk 64 25 = some (42, 2, 4, 0, 28) := by decide +kernel
theorem c64_28 : vlk 64 28 = some (1, 0, 0, 0, 29) := by decide +kernel
theorem c64_29 : vlk 64 29 = some (4, 2, 0, 0, 30) := by decide +kernel
theorem c64_30 : vlk 64 30 = some (1, 0, 0, (-1), 31) := by decide +kernel
theorem c64_31 : vlk 64 31 = some (58, 12, 0, 0, 34) := by decide +kernel
theorem c64_34 : vlk 64 34 = some (63, 0, 0, 0, 35) := by decide +kernel
theorem c65_0 : vlk 65 0 = some (4, 1, 0, 0, 1) := by decide +kernel
theorem c65_1 : vlk 65 1 = some (59, 87, 0, 0, 4) := by decide +kernel
theorem c65_4 : vlk 65 4 = some (71, 9, 0, 0, 7) := by decide +kernel
theorem c65_7 : vlk 65 7 = some (1, 0, 0, (-1), 8) := by decide +kernel
theorem c65_8 : vlk 65 8 = some (63, 0, 0, 0, 9) := by decide +kernel
theorem c65_9 : vlk 65 9 = some (6, 0, 0, 0, 10) := by decide +kernel
theorem c65_10 : vlk 65 10 = some (42, 5, 0, 0, 13) := by decide +kernel
theorem c65_13 : vlk 65 13 = some (4, 1, 0, 0, 14) := by decide +kernel
theorem c65_14 : vlk 65 14 = some (48, 0, 0, 0, 15) := by decide +kernel
theorem c65_15 : vlk 65 15 = some (42, 2, 4, 0, 18) := by decide +kernel
theorem c65_18 : vlk 65 18 = some (1, 0, 0, 0, 19) := by decide +kernel
theorem c65_19 : vlk 65 19 = some (1, 0, 0, 719, 22) := by decide +kernel
theorem c65_22 : vlk 65 22 = some (4, 2, 0, 0, 23) := by decide +kernel
theorem c65_23 : vlk 65 23 = some (58, 12, 0, 0, 26) := by decide +kernel
theorem c65_26 : vlk 65 26 = some (63, 0, 0, 0, 27) := by decide +kernel
theorem c67_0 : vlk 67 0 = some (4, 1, 0, 0, 1) := by decide +kernel
theorem c67_1 : vlk 67 1 = some (59, 87, 0, 0, 4) := by decide +kernel
theorem c67_4 : vlk 67 4 = some (71, 9, 0, 0, 7) := by decide +kernel
theorem c67_7 : vlk 67 7 = some (1, 0, 0, (-1), 8) := by decide +kernel
theorem c67_8 : vlk 67 8 = some (63, 0, 0, 0, 9) := by decide +kernel
theorem c67_9 : vlk 67 9 = some (6, 0, 0, 0, 10) := by decide +kernel
theorem c67_10 : vlk 67 10 = some (42, 5, 0, 0, 13) := by decide +kernel
theorem c67_13 : vlk 67 13 = some (4, 1, 0, 0, 14) := by decide +kernel
theorem c67_14 : vlk 67 14 = some (48, 0, 0, 0, 15) := by decide +kernel
theorem c67_15 : vlk 67 15 = some (42, 2, 4, 0, 18) := by decide +kernel
theorem c67_18 : vlk 67 18 = some (9, 2, 0, 0, 19) := by decide +kernel
theorem c67_19 : vlk 67 19 = some (1, 0, 0, 0, 20) := by decide +kernel
theorem c67_20 : vlk 67 20 = some (7, 3, 0, 0, 21) := by decide +kernel
theorem c67_21 : vlk 67 21 = some (1, 0, 0, 0, 22) := by decide +kernel
theorem c67_22 : vlk 67 22 = some (7, 4, 0, 0, 24) := by decide +kernel
theorem c67_24 : vlk 67 24 = some (1, 0, 0, 0, 25) := by decide +kernel
theorem c67_25 : vlk 67 25 = some (7, 5, 0, 0, 27) := by decide +kernel
theorem c67_27 : vlk 67 27 = some (4, 5, 0, 0, 29) := by decide +kernel
theorem c67_29 : vlk 67 29 = some (1, 0, 0, 720, 32) := by decide +kernel
theorem c67_32 : vlk 67 32 = some (79, 67, 0, 0, 35) := by decide +kernel
theorem c67_35 : vlk 67 35 = some (6, 2, 0, 0, 36) := by decide +kernel
theorem c67_36 : vlk 67 36 = some (4, 5, 0, 0, 38) := by decide +kernel
theorem c67_38 : vlk 67 38 = some (58, 1, 0, 0, 41) := by decide +kernel
theorem c67_41 : vlk 67 41 = some (70, 48, 0, 0, 44) := by decide +kernel
theorem c67_44 : vlk 67 44 = some (1, 0, 0, 0, 45) := by decide +kernel
theorem c67_45 : vlk 67 45 = some (37, 52, 0, 0, 48) := by decide +kernel
theorem c67_48 : vlk 67 48 = some (4, 4, 0, 0, 50) := by decide +kernel
theorem c67_50 : vlk 67 50 = some (1, 0, 0, 1, 51) := by decide +kernel
theorem c67_51 : vlk 67 51 = some (11, 0, 0, 0, 52) := by decide +kernel
theorem c67_52 : vlk 67 52 = some (7, 4, 0, 0, 54) := by decide +kernel
theorem c67_54 : vlk 67 54 = some (4, 3, 0, 0, 55) := by decide +kernel
theorem c67_55 : vlk 67 55 = some (4, 4, 0, 0, 57) := by decide +kernel
theorem c67_57 : vlk 67 57 = some (84, 0, 0, 0, 60) := by decide +kernel
theorem c67_60 : vlk 67 60 = some (7, 3, 0, 0, 61) := by decide +kernel
theorem c67_61 : vlk 67 61 = some (10, 5, 0, 1, 64) := by decide +kernel
theorem c67_64 : vlk 67 64 = some (37, 27, 0, 0, 67) := by decide +kernel
theorem c67_67 : vlk 67 67 = some (4, 3, 0, 0, 68) := by decide +kernel
theorem c67_68 : vlk 67 68 = some (63, 0, 0, 0, 69) := by decide +kernel
theorem c68_0 : vlk 68 0 = some (4, 1, 0, 0, 1) := by decide +kernel
theorem c68_1 : vlk 68 1 = some (59, 87, 0, 0, 4) := by decide +kernel
theorem c68_4 : vlk 68 4 = some (71, 9, 0, 0, 7) := by decide +kernel
theorem c68_7 : vlk 68 7 = some (1, 0, 0, (-1), 8) := by decide +kernel
theorem c68_8 : vlk 68 8 = some (63, 0, 0, 0, 9) := by decide +kernel
theorem c68_9 : vlk 68 9 = some (1, 0, 0, 1, 10) := by decide +kernel
theorem c68_10 : vlk 68 10 = some (7, 2, 0, 0, 11) := by decide +kernel
theorem c68_11 : vlk 68 11 = some (4, 2, 0, 0, 12) := by decide +kernel
theorem c68_12 : vlk 68 12 = some (1, 0, 0, 360, 15) := by decide +kernel
theorem c68_15 : vlk 68 15 = some (80, 42, 0, 0, 18) := by decide +kernel
theorem c68_18 : vlk 68 18 = some (6, 0, 0, 0, 19) := by decide +kernel
theorem c68_19 : vlk 68 19 = some (42, 5, 0, 0, 22) := by decide +kernel
theorem c68_22 : vlk 68 22 = some (4, 1, 0, 0, 23) := by decide +kernel
theorem c68_23 : vlk 68 23 = some (48, 0, 0, 0, 24) := by decide +kernel
theorem c68_24 : vlk 68 24 = some (42, 2, 4, 0, 27) := by decide +kernel
theorem c68_27 : vlk 68 27 = some (4, 2, 0, 0, 28) := by decide +kernel
theorem c68_28 : vlk 68 28 = some (58, 19, 0, 0, 31) := by decide +kernel
theorem c68_31 : vlk 68 31 = some (70, 36, 0, 0, 34) := by decide +kernel
theorem c68_34 : vlk 68 34 = some (4, 2, 0, 0, 35) := by decide +kernel
theorem c68_35 : vlk 68 35 = some (63, 0, 0, 0, 36) := by decide +kernel
theorem c68_36 : vlk 68 36 = some (10, 2, 0, 1, 39) := by decide +kernel
theorem c68_39 : vlk 68 39 = some (37, 11, 0, 0, 42) := by decide +kernel
theorem c68_42 : vlk 68 42 = some (1, 0, 0, (-5), 44) := by decide +kernel
theorem c68_44 : vlk 68 44 = some (63, 0, 0, 0, 45) := by decide +kernel
theorem c69_0 : vlk 69 0 = some (4, 1, 0, 0, 1) := by decide +kernel
theorem c69_1 : vlk 69 1 = some (59, 87, 0, 0, 4) := by decide +kernel
theorem c69_4 : vlk 69 4 = some (70, 14, 0, 0, 7) := by decide +kernel
theorem c69_7 : vlk 69 7 = some (4, 2, 0, 0, 8) := by decide +kernel
theorem c69_8 : vlk 69 8 = some (59, 87, 0, 0, 11) := by decide +kernel
theorem c69_11 : vlk 69 11 = some (71, 16, 0, 0, 14) := by decide +kernel
theorem c69_14 : vlk 69 14 = some (1, 0, 0, (-1), 15) := by decide +kernel
theorem c69_15 : vlk 69 15 = some (63, 0, 0, 0, 16) := by decide +kernel
theorem c69_16 : vlk 69 16 = some (4, 3, 0, 0, 17) := by decide +kernel
theorem c69_17 : vlk 69 17 = some (59, 88, 0, 0, 20) := by decide +kernel
theorem c69_20 : vlk 69 20 = some (71, 26, 0, 0, 23) := by decide +kernel
theorem c69_23 : vlk 69 23 = some (1, 0, 0, (-2), 25) := by decide +kernel
theorem c69_25 : vlk 69 25 = some (63, 0, 0, 0, 26) := by decide +kernel
theorem c69_26 : vlk 69 26 = some (6, 0, 0, 0, 27) := by decide +kernel
theorem c69_27 : vlk 69 27 = some (42, 5, 0, 0, 30) := by decide +kernel
theorem c69_30 : vlk 69 30 = some (4, 1, 0, 0, 31) := by decide +kernel
theorem c69_31 : vlk 69 31 = some (48, 0, 0, 0, 32) := by decide +kernel
theorem c69_32 : vlk 69 32 = some (42, 2, 4, 0, 35) := by decide +kernel
theorem c69_35 : vlk 69 35 = some (9, 4, 0, 0, 37) := by decide +kernel
theorem c69_37 : vlk 69 37 = some (6, 0, 0, 0, 38) := by decide +kernel
theorem c69_38 : vlk 69 38 = some (42, 5, 0, 0, 41) := by decide +kernel
theorem c69_41 : vlk 69 41 = some (4, 2, 0, 0, 42) := by decide +kernel
theorem c69_42 : vlk 69 42 = some (48, 0, 0, 0, 43) := by decide +kernel
theorem c69_43 : vlk 69 43 = some (42, 2, 4, 0, 46) := by decide +kernel
theorem c69_46 : vlk 69 46 = some (9, 5, 0, 0, 48) := by decide +kernel
theorem c69_48 : vlk 69 48 = some (4, 3, 0, 0, 49) := by decide +kernel
theorem c69_49 : vlk 69 49 = some (7, 6, 0, 0, 51) := by decide +kernel
theorem c69_51 : vlk 69 51 = some (4, 6, 0, 0, 53) := by decide +kernel
theorem c69_53 : vlk 69 53 = some (1, 0, 0, 720, 56) := by decide +kernel
theorem c69_56 : vlk 69 56 = some (79, 88, 0, 0, 59) := by decide +kernel
theorem c69_59 : vlk 69 59 = some (6, 4, 0, 0, 61) := by decide +kernel
theorem c69_61 : vlk 69 61 = some (4, 6, 0, 0, 63) := by decide +kernel
theorem c69_63 : vlk 69 63 = some (58, 1, 0, 0, 66) := by decide +kernel
theorem c69_66 : vlk 69 66 = some (70, 82, 0, 0, 69) := by decide +kernel
theorem c69_69 : vlk 69 69 = some (6, 5, 0, 0, 71) := by decide +kernel
theorem c69_71 : vlk 69 71 = some (4, 6, 0, 0, 73) := by decide +kernel
theorem c69_73 : vlk 69 73 = some (58, 1, 0, 0, 76) := by decide +kernel
theorem c69_76 : vlk 69 76 = some (70, 82, 0, 0, 79) := by decide +kernel
theorem c69_79 : vlk 69 79 = some (4, 6, 0, 0, 81) := by decide +kernel
theorem c69_81 : vlk 69 81 = some (63, 0, 0, 0, 82) := by decide +kernel
theorem c69_82 : vlk 69 82 = some (10, 6, 0, 1, 85) := by decide +kernel
theorem c69_85 : vlk 69 85 = some (37, 51, 0, 0, 88) := by decide +kernel
theorem c69_88 : vlk 69 88 = some (1, 0, 0, (-5), 90) := by decide +kernel
theorem c69_90 : vlk 69 90 = some (63, 0, 0, 0, 91) := by decide +kernel
/-! the object's questions about one name or two -/
def vDd (N : vNmS) (i : Nat) (d : Nat) : Bool := vhs (N.2.1 i) (N.2.2.1 i) (N.2.2.2 i) d
def vQ_has (N : vNmS) (x y : Int) : Int := if 0 ≤ x ∧ x < 10 then (if 0 ≤ y ∧ y < 720 then vBi (vDd N x.toNat y.toNat) else -2) else -1
theorem k_has {d b : Nat} {σ : vSg} {x y : Int} {h : vHp} {Q : vQ} (hR : vRD h b σ) (x1 : -2147483648 ≤ x) (x2 : x ≤ 2147483647) (y1 : -2147483648 ≤ y) (y2 : y ≤ 2147483647) (k : Q (some (.int (iI (vQ_has σ.1 x y)))) h) : vCall (d + 4) 0 0 62 [.ref b, .int (iI x), .int (iI y)] h Q := by
  obtain ⟨a1, ⟨p, p1, p2⟩, ⟨s, s1, s2⟩, ⟨w, w1, w2⟩, a5, a6, a7, a8, ⟨J, a9⟩, b1, b2, b3⟩ := hR
  unfold vQ_has at k
  refine vin 3 [_, _, _] ml_62 rfl rfl ?_
  refine r_iload c62_0 rfl ?_
  refine r_is1 c62_1 vr_87 rfl (k_isName x1 x2 (fun e1 e2 => ?_) (fun e1 => ?_))
  · dsimp only [vpush]
    rw [if_pos ⟨e1, e2⟩] at k
    refine r_ifne c62_4 (by omega) (by omega) (fun c_4 => ?_) (fun q => by exfalso; omega)
    refine r_iload c62_9 rfl ?_
    refine r_is1 c62_10 vr_88 rfl (k_isDay y1 y2 (fun g1 g2 => ?_) (fun g1 => ?_))
    · dsimp only [vpush]
      rw [if_pos ⟨g1, g2⟩] at k
      refine r_ifne c62_13 (by omega) (by omega) (fun c_13 => ?_) (fun q => by exfalso; omega)
      have hx := a5 x.toNat (by omega)
      obtain ⟨c, rfl⟩ := Int.eq_ofNat_of_zero_le g1
      refine r_aload c62_19 rfl (r_get c62_20 a1 rfl (r_iload c62_23 rfl (r_aald c62_24 p1 (by omega) (by omega) (by omega) (p2 _ (by omega)) (r_get c62_25 hx.1 rfl (r_iload c62_28 rfl ?_)))))
      refine r_iv1 c62_29 vr_1 hx.2.2.2.2.1 rfl (k_holdsN hx.2.2.2.2 (by omega) (fun q => ?_) (fun q => ?_))
      · dsimp only [vpush]
        refine r_ifeq c62_32 (by omega) (by omega) (fun q => by exfalso; omega) (fun c_32 => ?_)
        refine r_ci c62_35 (r_goto c62_36 ?_)
        refine r_iret (st := []) c62_40 ?_
        rw [show vDd σ.1 x.toNat ((c : Int)).toNat = true from q] at k
        exact k
      · dsimp only [vpush]
        refine r_ifeq c62_32 (by omega) (by omega) (fun c_32 => ?_) (fun q => by exfalso; omega)
        refine r_ci c62_39 ?_
        refine r_iret (st := []) c62_40 ?_
        rw [show vDd σ.1 x.toNat ((c : Int)).toNat = false from q] at k
        exact k
    · dsimp only [vpush]
      rw [if_neg (by omega)] at k
      refine r_ifne c62_13 (by omega) (by omega) (fun q => by exfalso; omega) (fun c_13 => ?_)
      refine r_ci c62_16 ?_
      refine r_iret (st := []) c62_18 ?_
      exact k
  · dsimp only [vpush]
    rw [if_neg (by omega)] at k
    refine r_ifne c62_4 (by omega) (by omega) (fun q => by exfalso; omega) (fun c_4 => ?_)
    refine r_ci c62_7 ?_
    refine r_iret (st := []) c62_8 ?_
    exact k
def vQ_next (N : vNmS) (x y : Int) : Int := if 0 ≤ x ∧ x < 10 then (if 0 ≤ y ∧ y < 720 then vpk (vDd N x.toNat) y.toNat 719 0 else -2) else -1
theorem k_next {d b : Nat} {σ : vSg} {x y : Int} {h : vHp} {Q : vQ} (hR : vRD h b σ) (x1 : -2147483648 ≤ x) (x2 : x ≤ 2147483647) (y1 : -2147483648 ≤ y) (y2 : y ≤ 2147483647) (k : Q (some (.int (iI (vQ_next σ.1 x y)))) h) : vCall (d + 4) 0 0 63 [.ref b, .int (iI x), .int (iI y)] h Q := by
  obtain ⟨a1, ⟨p, p1, p2⟩, ⟨s, s1, s2⟩, ⟨w, w1, w2⟩, a5, a6, a7, a8, ⟨J, a9⟩, b1, b2, b3⟩ := hR
  unfold vQ_next at k
  refine vin 3 [_, _, _] ml_63 rfl rfl ?_
  refine r_iload c63_0 rfl ?_
  refine r_is1 c63_1 vr_87 rfl (k_isName x1 x2 (fun e1 e2 => ?_) (fun e1 => ?_))
  · dsimp only [vpush]
    rw [if_pos ⟨e1, e2⟩] at k
    refine r_ifne c63_4 (by omega) (by omega) (fun c_4 => ?_) (fun q => by exfalso; omega)
    refine r_iload c63_9 rfl ?_
    refine r_is1 c63_10 vr_88 rfl (k_isDay y1 y2 (fun g1 g2 => ?_) (fun g1 => ?_))
    · dsimp only [vpush]
      rw [if_pos ⟨g1, g2⟩] at k
      refine r_ifne c63_13 (by omega) (by omega) (fun c_13 => ?_) (fun q => by exfalso; omega)
      have hx := a5 x.toNat (by omega)
      obtain ⟨c, rfl⟩ := Int.eq_ofNat_of_zero_le g1
      refine r_aload c63_19 rfl (r_get c63_20 a1 rfl (r_iload c63_23 rfl (r_aald c63_24 p1 (by omega) (by omega) (by omega) (p2 _ (by omega)) (r_get c63_25 hx.1 rfl (r_iload c63_28 rfl (r_ci c63_29 (r_ci c63_32 ?_)))))))
      refine r_iv3 c63_33 vr_12 hx.2.2.2.2.1 rfl (k_pick (hi := 719) hx.2.2.2.2 (by omega) (by omega) (by omega) (by omega) ?_)
      dsimp only [vpush]
      refine r_iret (st := []) c63_36 ?_
      exact k
    · dsimp only [vpush]
      rw [if_neg (by omega)] at k
      refine r_ifne c63_13 (by omega) (by omega) (fun q => by exfalso; omega) (fun c_13 => ?_)
      refine r_ci c63_16 ?_
      refine r_iret (st := []) c63_18 ?_
      exact k
  · dsimp only [vpush]
    rw [if_neg (by omega)] at k
    refine r_ifne c63_4 (by omega) (by omega) (fun q => by exfalso; omega) (fun c_4 => ?_)
    refine r_ci c63_7 ?_
    refine r_iret (st := []) c63_8 ?_
    exact k
def vQ_ahead (N : vNmS) (x y : Int) : Int := if 0 ≤ x ∧ x < 10 then (if 0 ≤ y ∧ y < 720 then vpk (vDd N x.toNat) 0 y.toNat (-1) else -2) else -1
theorem k_ahead {d b : Nat} {σ : vSg} {x y : Int} {h : vHp} {Q : vQ} (hR : vRD h b σ) (x1 : -2147483648 ≤ x) (x2 : x ≤ 2147483647) (y1 : -2147483648 ≤ y) (y2 : y ≤ 2147483647) (k : Q (some (.int (iI (vQ_ahead σ.1 x y)))) h) : vCall (d + 4) 0 0 64 [.ref b, .int (iI x), .int (iI y)] h Q := by
  obtain ⟨a1, ⟨p, p1, p2⟩, ⟨s, s1, s2⟩, ⟨w, w1, w2⟩, a5, a6, a7, a8, ⟨J, a9⟩, b1, b2, b3⟩ := hR
  unfold vQ_ahead at k
  refine vin 3 [_, _, _] ml_64 rfl rfl ?_
  refine r_iload c64_0 rfl ?_
  refine r_is1 c64_1 vr_87 rfl (k_isName x1 x2 (fun e1 e2 => ?_) (fun e1 => ?_))
  · dsimp only [vpush]
    rw [if_pos ⟨e1, e2⟩] at k
    refine r_ifne c64_4 (by omega) (by omega) (fun c_4 => ?_) (fun q => by exfalso; omega)
    refine r_iload c64_9 rfl ?_
    refine r_is1 c64_10 vr_88 rfl (k_isDay y1 y2 (fun g1 g2 => ?_) (fun g1 => ?_))
    · dsimp only [vpush]
      rw [if_pos ⟨g1, g2⟩] at k
      refine r_ifne c64_13 (by omega) (by omega) (fun c_13 => ?_) (fun q => by exfalso; omega)
      have hx := a5 x.toNat (by omega)
      obtain ⟨c, rfl⟩ := Int.eq_ofNat_of_zero_le g1
      refine r_aload c64_19 rfl (r_get c64_20 a1 rfl (r_iload c64_23 rfl (r_aald c64_24 p1 (by omega) (by omega) (by omega) (p2 _ (by omega)) (r_get c64_25 hx.1 rfl (r_ci c64_28 (r_iload c64_29 rfl (r_ci c64_30 ?_)))))))
      refine r_iv3 c64_31 vr_12 hx.2.2.2.2.1 rfl (k_pick (lo := 0) hx.2.2.2.2 (by omega) (by omega) (by omega) (by omega) ?_)
      dsimp only [vpush]
      refine r_iret (st := []) c64_34 ?_
      exact k
    · dsimp only [vpush]
      rw [if_neg (by omega)] at k
      refine r_ifne c64_13 (by omega) (by omega) (fun q => by exfalso; omega) (fun c_13 => ?_)
      refine r_ci c64_16 ?_
      refine r_iret (st := []) c64_18 ?_
      exact k
  · dsimp only [vpush]
    rw [if_neg (by omega)] at k
    refine r_ifne c64_4 (by omega) (by omega) (fun q => by exfalso; omega) (fun c_4 => ?_)
    refine r_ci c64_7 ?_
    refine r_iret (st := []) c64_8 ?_
    exact k
def vQ_at (N : vNmS) (x y : Int) : Int := if 0 ≤ x ∧ x < 10 then vpk (vDd N x.toNat) 0 719 y else -1
theorem k_at {d b : Nat} {σ : vSg} {x y : Int} {h : vHp} {Q : vQ} (hR : vRD h b σ) (x1 : -2147483648 ≤ x) (x2 : x ≤ 2147483647) (y1 : -2147483648 ≤ y) (y2 : y ≤ 2147483647) (k : Q (some (.int (iI (vQ_at σ.1 x y)))) h) : vCall (d + 4) 0 0 65 [.ref b, .int (iI x), .int (iI y)] h Q := by
  obtain ⟨a1, ⟨p, p1, p2⟩, ⟨s, s1, s2⟩, ⟨w, w1, w2⟩, a5, a6, a7, a8, ⟨J, a9⟩, b1, b2, b3⟩ := hR
  unfold vQ_at at k
  refine vin 3 [_, _, _] ml_65 rfl rfl ?_
  refine r_iload c65_0 rfl ?_
  refine r_is1 c65_1 vr_87 rfl (k_isName x1 x2 (fun e1 e2 => ?_) (fun e1 => ?_))
  · dsimp only [vpush]
    rw [if_pos ⟨e1, e2⟩] at k
    refine r_ifne c65_4 (by omega) (by omega) (fun c_4 => ?_) (fun q => by exfalso; omega)
    have hx := a5 x.toNat (by omega)
    refine r_aload c65_9 rfl (r_get c65_10 a1 rfl (r_iload c65_13 rfl (r_aald c65_14 p1 (by omega) (by omega) (by omega) (p2 _ (by omega)) (r_get c65_15 hx.1 rfl (r_ci c65_18 (r_ci c65_19 (r_iload c65_22 rfl ?_)))))))
    refine r_iv3 c65_23 vr_12 hx.2.2.2.2.1 rfl (k_pick (lo := 0) (hi := 719) hx.2.2.2.2 (by omega) (by omega) y1 y2 ?_)
    dsimp only [vpush]
    refine r_iret (st := []) c65_26 ?_
    exact k
  · dsimp only [vpush]
    rw [if_neg (by omega)] at k
    refine r_ifne c65_4 (by omega) (by omega) (fun q => by exfalso; omega) (fun c_4 => ?_)
    refine r_ci c65_7 ?_
    refine r_iret (st := []) c65_8 ?_
    exact k
/-- the longest run without -/
def vgp (S : vSt1) : Nat → Nat → Int → Int → Int
  | 0, _, l, _ => l
  | n + 1, d, l, r => if S d = true then vgp S n (d + 1) (if l < 0 then 0 else l) 0 else vgp S n (d + 1) (if l < r + 1 then r + 1 else l) (r + 1)
def vQ_gap (N : vNmS) (x : Int) : Int := if 0 ≤ x ∧ x < 10 then vgp (vDd N x.toNat) 720 0 0 0 else -1
theorem k_gap {d b : Nat} {σ : vSg} {x : Int} {h : vHp} {Q : vQ} (hR : vRD h b σ) (x1 : -2147483648 ≤ x) (x2 : x ≤ 2147483647) (k : Q (some (.int (iI (vQ_gap σ.1 x)))) h) : vCall (d + 4) 0 0 67 [.ref b, .int (iI x)] h Q := by
  obtain ⟨a1, ⟨p, p1, p2⟩, ⟨s, s1, s2⟩, ⟨w, w1, w2⟩, a5, a6, a7, a8, ⟨J, a9⟩, b1, b2, b3⟩ := hR
  unfold vQ_gap at k
  refine vin 6 [_, _, _, _, _, _] ml_67 rfl rfl ?_
  refine r_iload c67_0 rfl ?_
  refine r_is1 c67_1 vr_87 rfl (k_isName x1 x2 (fun e1 e2 => ?_) (fun e1 => ?_))
  · dsimp only [vpush]
    rw [if_pos ⟨e1, e2⟩] at k
    refine r_ifne c67_4 (by omega) (by omega) (fun c_4 => ?_) (fun q => by exfalso; omega)
    have hx := a5 x.toNat (by omega)
    have hy : vDy h (vpa b x.toNat + 7) (vDd σ.1 x.toNat) := hx.2.2.2.2
    have loop : ∀ u i : Nat, i + u = 720 → ∀ l r : Int, 0 ≤ l → l ≤ i → 0 ≤ r → r ≤ i → vgp (vDd σ.1 x.toNat) u i l r = vgp (vDd σ.1 x.toNat) 720 0 0 0 → vW (vCall (d + 3)) 67 Q 27 [.ref b, .int (iI x), .ref (vpa b x.toNat + 7), .int (iI l), .int (iI r), .int (iI (i : Int))] [] h 0 0 := by
      intro u
      induction u with
      | zero =>
        intro i hi l r l1 l2 r1 r2 he
        refine r_iload c67_27 rfl (r_ci c67_29 ?_)
        refine r_icge c67_32 (by omega) (by omega) (by omega) (by omega) (fun c_32 => ?_) (fun q => by exfalso; omega)
        refine r_iload c67_67 rfl ?_
        refine r_iret (st := []) c67_68 ?_
        rw [← he] at k
        exact k
      | succ u ih =>
        intro i hi l r l1 l2 r1 r2 he
        rw [show vgp (vDd σ.1 x.toNat) (u + 1) i l r = (if vDd σ.1 x.toNat i = true then vgp (vDd σ.1 x.toNat) u (i + 1) (if l < 0 then 0 else l) 0 else vgp (vDd σ.1 x.toNat) u (i + 1) (if l < r + 1 then r + 1 else l) (r + 1)) from rfl] at he
        refine r_iload c67_27 rfl (r_ci c67_29 ?_)
        refine r_icge c67_32 (by omega) (by omega) (by omega) (by omega) (fun q => by exfalso; omega) (fun c_32 => ?_)
        refine r_aload c67_35 rfl (r_iload c67_36 rfl ?_)
        refine r_iv1 c67_38 vr_1 hy.1 rfl (k_holdsN hy (by omega) (fun q => ?_) (fun q => ?_))
        · dsimp only [vpush]
          rw [if_pos q] at he
          refine r_ifeq c67_41 (by omega) (by omega) (fun q => by exfalso; omega) (fun c_41 => ?_)
          refine r_ci c67_44 (r_goto c67_45 (r_istore c67_52 rfl (r_iload c67_54 rfl (r_iload c67_55 rfl (r_mmax c67_57 (by omega) (by omega) (by omega) (by omega) (Nat.le_of_ble_eq_true rfl) (r_istore c67_60 rfl (r_iinc c67_61 rfl rfl (r_goto c67_64 ?_))))))))
          try dsimp only [vst]
          rw [vsu]
          exact ih (i + 1) (by omega) _ _ (by split <;> omega) (by split <;> omega) (by omega) (by omega) he
        · dsimp only [vpush]
          rw [if_neg (by rw [q]; decide)] at he
          refine r_ifeq c67_41 (by omega) (by omega) (fun c_41 => ?_) (fun q => by exfalso; omega)
          refine r_iload c67_48 rfl (r_ci c67_50 (r_iadd c67_51 (r_istore c67_52 rfl (r_iload c67_54 rfl (r_iload c67_55 rfl (r_mmax c67_57 (by omega) (by omega) (by omega) (by omega) (Nat.le_of_ble_eq_true rfl) (r_istore c67_60 rfl (r_iinc c67_61 rfl rfl (r_goto c67_64 ?_)))))))))
          try dsimp only [vst]
          rw [vsu]
          exact ih (i + 1) (by omega) _ _ (by split <;> omega) (by split <;> omega) (by omega) (by omega) he
    refine r_aload c67_9 rfl (r_get c67_10 a1 rfl (r_iload c67_13 rfl (r_aald c67_14 p1 (by omega) (by omega) (by omega) (p2 _ (by omega)) (r_get c67_15 hx.1 rfl (r_astore c67_18 rfl (r_ci c67_19 (r_istore c67_20 rfl (r_ci c67_21 (r_istore c67_22 rfl (r_ci c67_24 (r_istore c67_25 rfl ?_)))))))))))
    try dsimp only [vst]
    exact loop 720 0 rfl 0 0 (by omega) (by omega) (by omega) (by omega) rfl
  · dsimp only [vpush]
    rw [if_neg (by omega)] at k
    refine r_ifne c67_4 (by omega) (by omega) (fun q => by exfalso; omega) (fun c_4 => ?_)
    refine r_ci c67_7 ?_
    refine r_iret (st := []) c67_8 ?_
    exact k
/-- comes again after so many -/
def vcab (S : vSt1) (p : Nat) : Nat → Bool
  | 0 => true
  | u + 1 => vcab S p u && (decide (720 ≤ u + p) || (S u == S (u + p)))
theorem vcab_iff {S : vSt1} {p : Nat} : ∀ u, vcab S p u = true ↔ vca S p u
  | 0 => ⟨fun _ n hn => absurd hn (by omega), fun _ => rfl⟩
  | u + 1 => by
    show (vcab S p u && (decide (720 ≤ u + p) || (S u == S (u + p)))) = true ↔ _
    rw [Bool.and_eq_true, vcab_iff u, Bool.or_eq_true, decide_eq_true_eq, beq_iff_eq]
    constructor
    · intro ⟨h1, h2⟩ n hn hp
      by_cases e : n = u
      · subst e
        rcases h2 with h2 | h2
        · omega
        · exact h2
      · exact h1 n (by omega) hp
    · intro h1
      refine ⟨fun n hn hp => h1 n (by omega) hp, ?_⟩
      by_cases e : 720 ≤ u + p
      · exact Or.inl e
      · exact Or.inr (h1 u (by omega) (by omega))
def vpe (S : vSt1) : Nat → Nat → Int
  | 0, _ => -5
  | n + 1, p => if vcab S p 720 = true then (p : Int) else vpe S n (p + 1)
def vQ_period (N : vNmS) (x : Int) : Int := if 0 ≤ x ∧ x < 10 then vpe (vDd N x.toNat) 360 1 else -1
theorem k_period {d b : Nat} {σ : vSg} {x : Int} {h : vHp} {Q : vQ} (hR : vRD h b σ) (x1 : -2147483648 ≤ x) (x2 : x ≤ 2147483647) (k : Q (some (.int (iI (vQ_period σ.1 x)))) h) : vCall (d + 4) 0 0 68 [.ref b, .int (iI x)] h Q := by
  obtain ⟨a1, ⟨p, p1, p2⟩, ⟨s, s1, s2⟩, ⟨w, w1, w2⟩, a5, a6, a7, a8, ⟨J, a9⟩, b1, b2, b3⟩ := hR
  unfold vQ_period at k
  refine vin 3 [_, _, _] ml_68 rfl rfl ?_
  refine r_iload c68_0 rfl ?_
  refine r_is1 c68_1 vr_87 rfl (k_isName x1 x2 (fun e1 e2 => ?_) (fun e1 => ?_))
  · dsimp only [vpush]
    rw [if_pos ⟨e1, e2⟩] at k
    refine r_ifne c68_4 (by omega) (by omega) (fun c_4 => ?_) (fun q => by exfalso; omega)
    have hx := a5 x.toNat (by omega)
    have hy : vDy h (vpa b x.toNat + 7) (vDd σ.1 x.toNat) := hx.2.2.2.2
    have loop : ∀ u i : Nat, i + u = 361 → vpe (vDd σ.1 x.toNat) u i = vpe (vDd σ.1 x.toNat) 360 1 → vW (vCall (d + 3)) 68 Q 11 [.ref b, .int (iI x), .int (iI (i : Int))] [] h 0 0 := by
      intro u
      induction u with
      | zero =>
        intro i hi he
        refine r_iload c68_11 rfl (r_ci c68_12 ?_)
        refine r_icgt c68_15 (by omega) (by omega) (by omega) (by omega) (fun c_15 => ?_) (fun q => by exfalso; omega)
        refine r_ci c68_42 ?_
        refine r_iret (st := []) c68_44 ?_
        rw [← he] at k
        exact k
      | succ u ih =>
        intro i hi he
        rw [show vpe (vDd σ.1 x.toNat) (u + 1) i = (if vcab (vDd σ.1 x.toNat) i 720 = true then (i : Int) else vpe (vDd σ.1 x.toNat) u (i + 1)) from rfl] at he
        refine r_iload c68_11 rfl (r_ci c68_12 ?_)
        refine r_icgt c68_15 (by omega) (by omega) (by omega) (by omega) (fun q => by exfalso; omega) (fun c_15 => ?_)
        refine r_aload c68_18 rfl (r_get c68_19 a1 rfl (r_iload c68_22 rfl (r_aald c68_23 p1 (by omega) (by omega) (by omega) (p2 _ (by omega)) (r_get c68_24 hx.1 rfl (r_iload c68_27 rfl ?_)))))
        refine r_iv1 c68_28 vr_19 hy.1 rfl (k_comesAgain hy (by omega) (fun q => ?_) (fun q => ?_))
        · dsimp only [vpush]
          rw [if_pos ((vcab_iff 720).2 q)] at he
          refine r_ifeq c68_31 (by omega) (by omega) (fun q => by exfalso; omega) (fun c_31 => ?_)
          refine r_iload c68_34 rfl ?_
          refine r_iret (st := []) c68_35 ?_
          rw [← he] at k
          exact k
        · dsimp only [vpush]
          rw [if_neg (fun g => q ((vcab_iff 720).1 g))] at he
          refine r_ifeq c68_31 (by omega) (by omega) (fun c_31 => ?_) (fun q => by exfalso; omega)
          refine r_iinc c68_36 rfl rfl (r_goto c68_39 ?_)
          try dsimp only [vst]
          rw [vsu]
          exact ih (i + 1) (by omega) he
    refine r_ci c68_9 (r_istore c68_10 rfl ?_)
    try dsimp only [vst]
    exact loop 360 1 rfl rfl
  · dsimp only [vpush]
    rw [if_neg (by omega)] at k
    refine r_ifne c68_4 (by omega) (by omega) (fun q => by exfalso; omega) (fun c_4 => ?_)
    refine r_ci c68_7 ?_
    refine r_iret (st := []) c68_8 ?_
    exact k
def vQ_clash (N : vNmS) (x y z : Int) : Int := if (0 ≤ x ∧ x < 10) ∧ 0 ≤ y ∧ y < 10 then (if 0 ≤ z ∧ z < 720 then vfw (fun e => vDd N x.toNat e && vDd N y.toNat e) (720 - z.toNat) z.toNat 0 else -2) else -1
theorem k_clash {d b : Nat} {σ : vSg} {x y z : Int} {h : vHp} {Q : vQ} (hR : vRD h b σ) (x1 : -2147483648 ≤ x) (x2 : x ≤ 2147483647) (y1 : -2147483648 ≤ y) (y2 : y ≤ 2147483647) (z1 : -2147483648 ≤ z) (z2 : z ≤ 2147483647) (k : Q (some (.int (iI (vQ_clash σ.1 x y z)))) h) : vCall (d + 4) 0 0 69 [.ref b, .int (iI x), .int (iI y), .int (iI z)] h Q := by
  obtain ⟨a1, ⟨p, p1, p2⟩, ⟨s, s1, s2⟩, ⟨w, w1, w2⟩, a5, a6, a7, a8, ⟨J, a9⟩, b1, b2, b3⟩ := hR
  unfold vQ_clash at k
  have no : ¬ ((0 ≤ x ∧ x < 10) ∧ 0 ≤ y ∧ y < 10) → ∀ v4 v5 v6 : Value, vW (vCall (d + 3)) 69 Q 14 [.ref b, .int (iI x), .int (iI y), .int (iI z), v4, v5, v6] [] h 0 0 := fun q v4 v5 v6 => by
    rw [if_neg q] at k
    refine r_ci c69_14 ?_
    refine r_iret (st := []) c69_15 ?_
    exact k
  refine vin 7 [_, _, _, _, _, _, _] ml_69 rfl rfl ?_
  refine r_iload c69_0 rfl ?_
  refine r_is1 c69_1 vr_87 rfl (k_isName x1 x2 (fun e1 e2 => ?_) (fun e1 => ?_))
  · dsimp only [vpush]
    refine r_ifeq c69_4 (by omega) (by omega) (fun q => by exfalso; omega) (fun c_4 => ?_)
    refine r_iload c69_7 rfl ?_
    refine r_is1 c69_8 vr_87 rfl (k_isName y1 y2 (fun f1 f2 => ?_) (fun f1 => ?_))
    · dsimp only [vpush]
      rw [if_pos ⟨⟨e1, e2⟩, f1, f2⟩] at k
      refine r_ifne c69_11 (by omega) (by omega) (fun c_11 => ?_) (fun q => by exfalso; omega)
      refine r_iload c69_16 rfl ?_
      refine r_is1 c69_17 vr_88 rfl (k_isDay z1 z2 (fun g1 g2 => ?_) (fun g1 => ?_))
      · dsimp only [vpush]
        rw [if_pos ⟨g1, g2⟩] at k
        refine r_ifne c69_20 (by omega) (by omega) (fun c_20 => ?_) (fun q => by exfalso; omega)
        obtain ⟨c, rfl⟩ := Int.eq_ofNat_of_zero_le g1
        rw [Int.toNat_natCast] at k
        have hx := a5 x.toNat (by omega)
        have hy := a5 y.toNat (by omega)
        have hx2 : vDy h (vpa b x.toNat + 7) (vDd σ.1 x.toNat) := hx.2.2.2.2
        have hy2 : vDy h (vpa b y.toNat + 7) (vDd σ.1 y.toNat) := hy.2.2.2.2
        have loop : ∀ u i : Nat, i + u = 720 → vfw (fun e => vDd σ.1 x.toNat e && vDd σ.1 y.toNat e) u i 0 = vfw (fun e => vDd σ.1 x.toNat e && vDd σ.1 y.toNat e) (720 - c) c 0 → vW (vCall (d + 3)) 69 Q 51 [.ref b, .int (iI x), .int (iI y), .int (iI (c : Int)), .ref (vpa b x.toNat + 7), .ref (vpa b y.toNat + 7), .int (iI (i : Int))] [] h 0 0 := by
          intro u
          induction u with
          | zero =>
            intro i hi he
            refine r_iload c69_51 rfl (r_ci c69_53 ?_)
            refine r_icge c69_56 (by omega) (by omega) (by omega) (by omega) (fun c_56 => ?_) (fun q => by exfalso; omega)
            refine r_ci c69_88 ?_
            refine r_iret (st := []) c69_90 ?_
            rw [← he] at k
            exact k
          | succ u ih =>
            intro i hi he
            rw [show vfw (fun e => vDd σ.1 x.toNat e && vDd σ.1 y.toNat e) (u + 1) i 0 = (if (vDd σ.1 x.toNat i && vDd σ.1 y.toNat i) = true then (i : Int) else vfw (fun e => vDd σ.1 x.toNat e && vDd σ.1 y.toNat e) u (i + 1) 0) from rfl] at he
            have on : (vDd σ.1 x.toNat i && vDd σ.1 y.toNat i) = false → vW (vCall (d + 3)) 69 Q 82 [.ref b, .int (iI x), .int (iI y), .int (iI (c : Int)), .ref (vpa b x.toNat + 7), .ref (vpa b y.toNat + 7), .int (iI (i : Int))] [] h 0 0 := fun q => by
              rw [if_neg (by rw [q]; decide)] at he
              refine r_iinc c69_82 rfl rfl (r_goto c69_85 ?_)
              try dsimp only [vst]
              rw [vsu]
              exact ih (i + 1) (by omega) he
            refine r_iload c69_51 rfl (r_ci c69_53 ?_)
            refine r_icge c69_56 (by omega) (by omega) (by omega) (by omega) (fun q => by exfalso; omega) (fun c_56 => ?_)
            refine r_aload c69_59 rfl (r_iload c69_61 rfl ?_)
            refine r_iv1 c69_63 vr_1 hx2.1 rfl (k_holdsN hx2 (by omega) (fun q => ?_) (fun q => ?_))
            · dsimp only [vpush]
              refine r_ifeq c69_66 (by omega) (by omega) (fun q => by exfalso; omega) (fun c_66 => ?_)
              refine r_aload c69_69 rfl (r_iload c69_71 rfl ?_)
              refine r_iv1 c69_73 vr_1 hy2.1 rfl (k_holdsN hy2 (by omega) (fun q2 => ?_) (fun q2 => ?_))
              · dsimp only [vpush]
                rw [if_pos (by rw [q, q2]; rfl)] at he
                refine r_ifeq c69_76 (by omega) (by omega) (fun q => by exfalso; omega) (fun c_76 => ?_)
                refine r_iload c69_79 rfl ?_
                refine r_iret (st := []) c69_81 ?_
                rw [← he] at k
                exact k
              · dsimp only [vpush]
                refine r_ifeq c69_76 (by omega) (by omega) (fun c_76 => ?_) (fun q => by exfalso; omega)
                exact on (by rw [q2, Bool.and_false])
            · dsimp only [vpush]
              refine r_ifeq c69_66 (by omega) (by omega) (fun c_66 => ?_) (fun q => by exfalso; omega)
              exact on (by rw [q, Bool.false_and])
        refine r_aload c69_26 rfl (r_get c69_27 a1 rfl (r_iload c69_30 rfl (r_aald c69_31 p1 (by omega) (by omega) (by omega) (p2 _ (by omega)) (r_get c69_32 hx.1 rfl (r_astore c69_35 rfl (r_aload c69_37 rfl (r_get c69_38 a1 rfl (r_iload c69_41 rfl (r_aald c69_42 p1 (by omega) (by omega) (by omega) (p2 _ (by omega)) (r_get c69_43 hy.1 rfl (r_astore c69_46 rfl (r_iload c69_48 rfl (r_istore c69_49 rfl ?_)))))))))))))
        try dsimp only [vst]
        exact loop (720 - c) c (by omega) rfl
      · dsimp only [vpush]
        rw [if_neg (by omega)] at k
        refine r_ifne c69_20 (by omega) (by omega) (fun q => by exfalso; omega) (fun c_20 => ?_)
        refine r_ci c69_23 ?_
        refine r_iret (st := []) c69_25 ?_
        exact k
    · dsimp only [vpush]
      refine r_ifne c69_11 (by omega) (by omega) (fun q => by exfalso; omega) (fun c_11 => ?_)
      exact no (by omega) _ _ _
  · dsimp only [vpush]
    refine r_ifeq c69_4 (by omega) (by omega) (fun c_4 => ?_) (fun q => by exfalso; omega)
    exact no (by omega) _ _ _

