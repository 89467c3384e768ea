theorem ml_70 : vml 70 = 6 := by decide +kernel
theorem ml_75 : vml 75 = 7 := by decide +kernel
theorem ml_76 : vml 76 = 7 := by decide +kernel
theorem ml_97 : vml 97 = 3 := by decide +kernel
theorem ml_98 : vml 98 = 3 := by decide +kernel
theorem ml_99 : vml 99 = 3 := by decide +kernel
theorem vr_10 : vrc 10 = some (0, 0) := by decide +kernel
theorem vr_11 : vrc 11 = some (0, 2) := by decide +kernel
theorem c70_0 : vlk 70 0 = some (4, 1, 0, 0, 1) := by decide +kernel
theorem c70_1 : vlk 70 1 = some (59, 87, 0, 0, 4) := by decide +kernel
theorem c70_4 : vlk 70 4 = some (70, 14, 0, 0, 7) := by decide +kernel
theorem c70_7 : vlk 70 7 = some (4, 2, 0, 0, 8) := by decide +kernel
theorem c70_8 : vlk 70 8 = some (59, 87, 0, 0, 11) := by decide +kernel
theorem c70_11 : vlk 70 11 = some (71, 16, 0, 0, 14) := by decide +kernel
theorem c70_14 : vlk 70 14 = some (1, 0, 0, (-1), 15) := by decide +kernel
theorem c70_15 : vlk 70 15 = some (63, 0, 0, 0, 16) := by decide +kernel
theorem c70_16 : vlk 70 16 = some (6, 0, 0, 0, 17) := by decide +kernel
theorem c70_17 : vlk 70 17 = some (42, 5, 0, 0, 20) := by decide +kernel
theorem c70_20 : vlk 70 20 = some (4, 1, 0, 0, 21) := by decide +kernel
theorem c70_21 : vlk 70 21 = some (48, 0, 0, 0, 22) := by decide +kernel
theorem c70_22 : vlk 70 22 = some (42, 2, 4, 0, 25) := by decide +kernel
theorem c70_25 : vlk 70 25 = some (9, 3, 0, 0, 26) := by decide +kernel
theorem c70_26 : vlk 70 26 = some (6, 0, 0, 0, 27) := by decide +kernel
theorem c70_27 : vlk 70 27 = some (42, 5, 0, 0, 30) := by decide +kernel
theorem c70_30 : vlk 70 30 = some (4, 2, 0, 0, 31) := by decide +kernel
theorem c70_31 : vlk 70 31 = some (48, 0, 0, 0, 32) := by decide +kernel
theorem c70_32 : vlk 70 32 = some (42, 2, 4, 0, 35) := by decide +kernel
theorem c70_35 : vlk 70 35 = some (9, 4, 0, 0, 37) := by decide +kernel
theorem c70_37 : vlk 70 37 = some (1, 0, 0, 0, 38) := by decide +kernel
theorem c70_38 : vlk 70 38 = some (7, 5, 0, 0, 40) := by decide +kernel
theorem c70_40 : vlk 70 40 = some (4, 5, 0, 0, 42) := by decide +kernel
theorem c70_42 : vlk 70 42 = some (1, 0, 0, 720, 45) := by decide +kernel
theorem c70_45 : vlk 70 45 = some (79, 73, 0, 0, 48) := by decide +kernel
theorem c70_48 : vlk 70 48 = some (6, 3, 0, 0, 49) := by decide +kernel
theorem c70_49 : vlk 70 49 = some (4, 5, 0, 0, 51) := by decide +kernel
theorem c70_51 : vlk 70 51 = some (58, 1, 0, 0, 54) := by decide +kernel
theorem c70_54 : vlk 70 54 = some (6, 4, 0, 0, 56) := by decide +kernel
theorem c70_56 : vlk 70 56 = some (4, 5, 0, 0, 58) := by decide +kernel
theorem c70_58 : vlk 70 58 = some (58, 1, 0, 0, 61) := by decide +kernel
theorem c70_61 : vlk 70 61 = some (76, 67, 0, 0, 64) := by decide +kernel
theorem c70_64 : vlk 70 64 = some (4, 5, 0, 0, 66) := by decide +kernel
theorem c70_66 : vlk 70 66 = some (63, 0, 0, 0, 67) := by decide +kernel
theorem c70_67 : vlk 70 67 = some (10, 5, 0, 1, 70) := by decide +kernel
theorem c70_70 : vlk 70 70 = some (37, 40, 0, 0, 73) := by decide +kernel
theorem c70_73 : vlk 70 73 = some (1, 0, 0, (-5), 75) := by decide +kernel
theorem c70_75 : vlk 70 75 = some (63, 0, 0, 0, 76) := by decide +kernel
theorem c75_0 : vlk 75 0 = some (4, 1, 0, 0, 1) := by decide +kernel
theorem c75_1 : vlk 75 1 = some (59, 87, 0, 0, 4) := by decide +kernel
theorem c75_4 : vlk 75 4 = some (70, 14, 0, 0, 7) := by decide +kernel
theorem c75_7 : vlk 75 7 = some (4, 2, 0, 0, 8) := by decide +kernel
theorem c75_8 : vlk 75 8 = some (59, 91, 0, 0, 11) := by decide +kernel
theorem c75_11 : vlk 75 11 = some (71, 16, 0, 0, 14) := by decide +kernel
theorem c75_14 : vlk 75 14 = some (1, 0, 0, (-1), 15) := by decide +kernel
theorem c75_15 : vlk 75 15 = some (63, 0, 0, 0, 16) := by decide +kernel
theorem c75_16 : vlk 75 16 = some (44, 0, 0, 0, 19) := by decide +kernel
theorem c75_19 : vlk 75 19 = some (4, 2, 0, 0, 20) := by decide +kernel
theorem c75_20 : vlk 75 20 = some (45, 0, 0, 0, 21) := by decide +kernel
theorem c75_21 : vlk 75 21 = some (7, 4, 0, 0, 23) := by decide +kernel
theorem c75_23 : vlk 75 23 = some (4, 3, 0, 0, 24) := by decide +kernel
theorem c75_24 : vlk 75 24 = some (32, 0, 0, 0, 25) := by decide +kernel
theorem c75_25 : vlk 75 25 = some (4, 4, 0, 0, 27) := by decide +kernel
theorem c75_27 : vlk 75 27 = some (32, 0, 0, 0, 28) := by decide +kernel
theorem c75_28 : vlk 75 28 = some (24, 0, 0, 0, 29) := by decide +kernel
theorem c75_29 : vlk 75 29 = some (8, 5, 0, 0, 31) := by decide +kernel
theorem c75_31 : vlk 75 31 = some (5, 5, 0, 0, 33) := by decide +kernel
theorem c75_33 : vlk 75 33 = some (2, 0, 0, 0, 34) := by decide +kernel
theorem c75_34 : vlk 75 34 = some (31, 0, 0, 0, 35) := by decide +kernel
theorem c75_35 : vlk 75 35 = some (72, 47, 0, 0, 38) := by decide +kernel
theorem c75_38 : vlk 75 38 = some (5, 5, 0, 0, 40) := by decide +kernel
theorem c75_40 : vlk 75 40 = some (2, 0, 0, 720, 43) := by decide +kernel
theorem c75_43 : vlk 75 43 = some (31, 0, 0, 0, 44) := by decide +kernel
theorem c75_44 : vlk 75 44 = some (72, 49, 0, 0, 47) := by decide +kernel
theorem c75_47 : vlk 75 47 = some (1, 0, 0, (-1), 48) := by decide +kernel
theorem c75_48 : vlk 75 48 = some (63, 0, 0, 0, 49) := by decide +kernel
theorem c75_49 : vlk 75 49 = some (6, 0, 0, 0, 50) := by decide +kernel
theorem c75_50 : vlk 75 50 = some (42, 5, 0, 0, 53) := by decide +kernel
theorem c75_53 : vlk 75 53 = some (4, 1, 0, 0, 54) := by decide +kernel
theorem c75_54 : vlk 75 54 = some (48, 0, 0, 0, 55) := by decide +kernel
theorem c75_55 : vlk 75 55 = some (42, 2, 4, 0, 58) := by decide +kernel
theorem c75_58 : vlk 75 58 = some (5, 5, 0, 0, 60) := by decide +kernel
theorem c75_60 : vlk 75 60 = some (33, 0, 0, 0, 61) := by decide +kernel
theorem c75_61 : vlk 75 61 = some (5, 5, 0, 0, 63) := by decide +kernel
theorem c75_63 : vlk 75 63 = some (33, 0, 0, 0, 64) := by decide +kernel
theorem c75_64 : vlk 75 64 = some (4, 4, 0, 0, 66) := by decide +kernel
theorem c75_66 : vlk 75 66 = some (59, 93, 0, 0, 69) := by decide +kernel
theorem c75_69 : vlk 75 69 = some (58, 11, 0, 0, 72) := by decide +kernel
theorem c75_72 : vlk 75 72 = some (63, 0, 0, 0, 73) := by decide +kernel
theorem c76_0 : vlk 76 0 = some (4, 1, 0, 0, 1) := by decide +kernel
theorem c76_1 : vlk 76 1 = some (59, 87, 0, 0, 4) := by decide +kernel
theorem c76_4 : vlk 76 4 = some (70, 14, 0, 0, 7) := by decide +kernel
theorem c76_7 : vlk 76 7 = some (4, 2, 0, 0, 8) := by decide +kernel
theorem c76_8 : vlk 76 8 = some (59, 91, 0, 0, 11) := by decide +kernel
theorem c76_11 : vlk 76 11 = some (71, 16, 0, 0, 14) := by decide +kernel
theorem c76_14 : vlk 76 14 = some (1, 0, 0, (-1), 15) := by decide +kernel
theorem c76_15 : vlk 76 15 = some (63, 0, 0, 0, 16) := by decide +kernel
theorem c76_16 : vlk 76 16 = some (4, 4, 0, 0, 18) := by decide +kernel
theorem c76_18 : vlk 76 18 = some (59, 88, 0, 0, 21) := by decide +kernel
theorem c76_21 : vlk 76 21 = some (71, 27, 0, 0, 24) := by decide +kernel
theorem c76_24 : vlk 76 24 = some (1, 0, 0, (-2), 26) := by decide +kernel
theorem c76_26 : vlk 76 26 = some (63, 0, 0, 0, 27) := by decide +kernel
theorem c76_27 : vlk 76 27 = some (44, 0, 0, 0, 30) := by decide +kernel
theorem c76_30 : vlk 76 30 = some (4, 2, 0, 0, 31) := by decide +kernel
theorem c76_31 : vlk 76 31 = some (45, 0, 0, 0, 32) := by decide +kernel
theorem c76_32 : vlk 76 32 = some (7, 5, 0, 0, 34) := by decide +kernel
theorem c76_34 : vlk 76 34 = some (4, 5, 0, 0, 36) := by decide +kernel
theorem c76_36 : vlk 76 36 = some (1, 0, 0, 1, 37) := by decide +kernel
theorem c76_37 : vlk 76 37 = some (79, 45, 0, 0, 40) := by decide +kernel
theorem c76_45 : vlk 76 45 = some (4, 4, 0, 0, 47) := by decide +kernel
theorem c76_47 : vlk 76 47 = some (4, 5, 0, 0, 49) := by decide +kernel
theorem c76_49 : vlk 76 49 = some (14, 0, 0, 0, 50) := by decide +kernel
theorem c76_50 : vlk 76 50 = some (4, 5, 0, 0, 52) := by decide +kernel
theorem c76_52 : vlk 76 52 = some (13, 0, 0, 0, 53) := by decide +kernel
theorem c76_53 : vlk 76 53 = some (7, 6, 0, 0, 55) := by decide +kernel
theorem c76_55 : vlk 76 55 = some (6, 0, 0, 0, 56) := by decide +kernel
theorem c76_56 : vlk 76 56 = some (42, 5, 0, 0, 59) := by decide +kernel
theorem c76_59 : vlk 76 59 = some (4, 1, 0, 0, 60) := by decide +kernel
theorem c76_60 : vlk 76 60 = some (48, 0, 0, 0, 61) := by decide +kernel
theorem c76_61 : vlk 76 61 = some (42, 2, 4, 0, 64) := by decide +kernel
theorem c76_64 : vlk 76 64 = some (4, 6, 0, 0, 66) := by decide +kernel
theorem c76_66 : vlk 76 66 = some (4, 6, 0, 0, 68) := by decide +kernel
theorem c76_68 : vlk 76 68 = some (4, 5, 0, 0, 70) := by decide +kernel
theorem c76_70 : vlk 76 70 = some (59, 93, 0, 0, 73) := by decide +kernel
theorem c76_73 : vlk 76 73 = some (4, 3, 0, 0, 74) := by decide +kernel
theorem c76_74 : vlk 76 74 = some (58, 12, 0, 0, 77) := by decide +kernel
theorem c76_77 : vlk 76 77 = some (63, 0, 0, 0, 78) := by decide +kernel
theorem c97_0 : vlk 97 0 = some (1, 0, 0, 0, 1) := by decide +kernel
theorem c97_1 : vlk 97 1 = some (7, 1, 0, 0, 2) := by decide +kernel
theorem c97_2 : vlk 97 2 = some (1, 0, 0, 0, 3) := by decide +kernel
theorem c97_3 : vlk 97 3 = some (7, 2, 0, 0, 4) := by decide +kernel
theorem c97_4 : vlk 97 4 = some (4, 2, 0, 0, 5) := by decide +kernel
theorem c97_5 : vlk 97 5 = some (1, 0, 0, 10, 7) := by decide +kernel
theorem c97_7 : vlk 97 7 = some (79, 31, 0, 0, 10) := by decide +kernel
theorem c97_10 : vlk 97 10 = some (6, 0, 0, 0, 11) := by decide +kernel
theorem c97_11 : vlk 97 11 = some (42, 5, 0, 0, 14) := by decide +kernel
theorem c97_14 : vlk 97 14 = some (4, 2, 0, 0, 15) := by decide +kernel
theorem c97_15 : vlk 97 15 = some (48, 0, 0, 0, 16) := by decide +kernel
theorem c97_16 : vlk 97 16 = some (42, 2, 0, 0, 19) := by decide +kernel
theorem c97_22 : vlk 97 22 = some (10, 1, 0, 1, 25) := by decide +kernel
theorem c97_25 : vlk 97 25 = some (10, 2, 0, 1, 28) := by decide +kernel
theorem c97_28 : vlk 97 28 = some (37, 4, 0, 0, 31) := by decide +kernel
theorem c97_31 : vlk 97 31 = some (4, 1, 0, 0, 32) := by decide +kernel
theorem c97_32 : vlk 97 32 = some (63, 0, 0, 0, 33) := by decide +kernel
theorem c98_0 : vlk 98 0 = some (1, 0, 0, 0, 1) := by decide +kernel
theorem c98_1 : vlk 98 1 = some (7, 1, 0, 0, 2) := by decide +kernel
theorem c98_2 : vlk 98 2 = some (1, 0, 0, 0, 3) := by decide +kernel
theorem c98_3 : vlk 98 3 = some (7, 2, 0, 0, 4) := by decide +kernel
theorem c98_4 : vlk 98 4 = some (4, 2, 0, 0, 5) := by decide +kernel
theorem c98_5 : vlk 98 5 = some (1, 0, 0, 10, 7) := by decide +kernel
theorem c98_7 : vlk 98 7 = some (79, 31, 0, 0, 10) := by decide +kernel
theorem c98_10 : vlk 98 10 = some (4, 1, 0, 0, 11) := by decide +kernel
theorem c98_11 : vlk 98 11 = some (6, 0, 0, 0, 12) := by decide +kernel
theorem c98_12 : vlk 98 12 = some (42, 5, 0, 0, 15) := by decide +kernel
theorem c98_15 : vlk 98 15 = some (4, 2, 0, 0, 16) := by decide +kernel
theorem c98_16 : vlk 98 16 = some (48, 0, 0, 0, 17) := by decide +kernel
theorem c98_17 : vlk 98 17 = some (42, 2, 2, 0, 20) := by decide +kernel
theorem c98_20 : vlk 98 20 = some (58, 10, 0, 0, 23) := by decide +kernel
theorem c98_23 : vlk 98 23 = some (11, 0, 0, 0, 24) := by decide +kernel
theorem c98_24 : vlk 98 24 = some (7, 1, 0, 0, 25) := by decide +kernel
theorem c98_25 : vlk 98 25 = some (10, 2, 0, 1, 28) := by decide +kernel
theorem c98_28 : vlk 98 28 = some (37, 4, 0, 0, 31) := by decide +kernel
theorem c98_31 : vlk 98 31 = some (4, 1, 0, 0, 32) := by decide +kernel
theorem c98_32 : vlk 98 32 = some (63, 0, 0, 0, 33) := by decide +kernel
theorem c99_0 : vlk 99 0 = some (1, 0, 0, 0, 1) := by decide +kernel
theorem c99_1 : vlk 99 1 = some (7, 1, 0, 0, 2) := by decide +kernel
theorem c99_2 : vlk 99 2 = some (1, 0, 0, 0, 3) := by decide +kernel
theorem c99_3 : vlk 99 3 = some (7, 2, 0, 0, 4) := by decide +kernel
theorem c99_4 : vlk 99 4 = some (4, 2, 0, 0, 5) := by decide +kernel
theorem c99_5 : vlk 99 5 = some (1, 0, 0, 10, 7) := by decide +kernel
theorem c99_7 : vlk 99 7 = some (79, 31, 0, 0, 10) := by decide +kernel
theorem c99_10 : vlk 99 10 = some (4, 1, 0, 0, 11) := by decide +kernel
theorem c99_11 : vlk 99 11 = some (6, 0, 0, 0, 12) := by decide +kernel
theorem c99_12 : vlk 99 12 = some (42, 5, 0, 0, 15) := by decide +kernel
theorem c99_15 : vlk 99 15 = some (4, 2, 0, 0, 16) := by decide +kernel
theorem c99_16 : vlk 99 16 = some (48, 0, 0, 0, 17) := by decide +kernel
theorem c99_17 : vlk 99 17 = some (42, 2, 3, 0, 20) := by decide +kernel
theorem c99_20 : vlk 99 20 = some (58, 10, 0, 0, 23) := by decide +kernel
theorem c99_23 : vlk 99 23 = some (11, 0, 0, 0, 24) := by decide +kernel
theorem c99_24 : vlk 99 24 = some (7, 1, 0, 0, 25) := by decide +kernel
theorem c99_25 : vlk 99 25 = some (10, 2, 0, 1, 28) := by decide +kernel
theorem c99_28 : vlk 99 28 = some (37, 4, 0, 0, 31) := by decide +kernel
theorem c99_31 : vlk 99 31 = some (4, 1, 0, 0, 32) := by decide +kernel
theorem c99_32 : vlk 99 32 = some (63, 0, 0, 0, 33) := by decide +kernel
/-! the object's questions: unlike, parts, nth, sums over names, count, what is remembered -/
def vQ_unlike (N : vNmS) (x y : Int) : Int := if (0 ≤ x ∧ x < 10) ∧ 0 ≤ y ∧ y < 10 then vfw (fun e => vDd N x.toNat e ^^ vDd N y.toNat e) 720 0 0 else -1
theorem k_unlike {d b : Nat} {σ : vSg} {x y : Int} {h : vHp} {Q : vQ} (hR : vRD h b σ) (x1 : -2147483648 ≤ x) (x2 : x ≤ 2147483647) (y1 : -2147483648 ≤ y) (y2 : y ≤ 2147483647) (k : Q (some (.int (iI (vQ_unlike σ.1 x y)))) h) : vCall (d + 4) 0 0 70 [.ref b, .int (iI x), .int (iI y)] h Q := by
  obtain ⟨a1, ⟨p, p1, p2⟩, ⟨s, s1, s2⟩, ⟨w, w1, w2⟩, a5, a6, a7, a8, ⟨J, a9⟩, b1, b2, b3⟩ := hR
  unfold vQ_unlike at k
  have no : ¬ ((0 ≤ x ∧ x < 10) ∧ 0 ≤ y ∧ y < 10) → ∀ v4 v5 v6 : Value, vW (vCall (d + 3)) 70 Q 14 [.ref b, .int (iI x), .int (iI y), v4, v5, v6] [] h 0 0 := fun q v4 v5 v6 => by
    rw [if_neg q] at k
    refine r_ci c70_14 ?_
    refine r_iret (st := []) c70_15 ?_
    exact k
  refine vin 6 [_, _, _, _, _, _] ml_70 rfl rfl ?_
  refine r_iload c70_0 rfl ?_
  refine r_is1 c70_1 vr_87 rfl (k_isName x1 x2 (fun e1 e2 => ?_) (fun e1 => ?_))
  · dsimp only [vpush]
    refine r_ifeq c70_4 (by omega) (by omega) (fun q => by exfalso; omega) (fun c_4 => ?_)
    refine r_iload c70_7 rfl ?_
    refine r_is1 c70_8 vr_87 rfl (k_isName y1 y2 (fun f1 f2 => ?_) (fun f1 => ?_))
    · dsimp only [vpush]
      rw [if_pos ⟨⟨e1, e2⟩, f1, f2⟩] at k
      refine r_ifne c70_11 (by omega) (by omega) (fun c_11 => ?_) (fun q => by exfalso; omega)
      have hx := a5 x.toNat (by omega)
      have hy := a5 y.toNat (by omega)
      have hx2 : vDy h (vpa b x.toNat + 7) (vDd σ.1 x.toNat) := hx.2.2.2.2
      have hy2 : vDy h (vpa b y.toNat + 7) (vDd σ.1 y.toNat) := hy.2.2.2.2
      have loop : ∀ u i : Nat, i + u = 720 → vfw (fun e => vDd σ.1 x.toNat e ^^ vDd σ.1 y.toNat e) u i 0 = vfw (fun e => vDd σ.1 x.toNat e ^^ vDd σ.1 y.toNat e) 720 0 0 → vW (vCall (d + 3)) 70 Q 40 [.ref b, .int (iI x), .int (iI y), .ref (vpa b x.toNat + 7), .ref (vpa b y.toNat + 7), .int (iI (i : Int))] [] h 0 0 := by
        intro u
        induction u with
        | zero =>
          intro i hi he
          refine r_iload c70_40 rfl (r_ci c70_42 ?_)
          refine r_icge c70_45 (by omega) (by omega) (by omega) (by omega) (fun c_45 => ?_) (fun q => by exfalso; omega)
          refine r_ci c70_73 ?_
          refine r_iret (st := []) c70_75 ?_
          rw [← he] at k
          exact k
        | succ u ih =>
          intro i hi he
          rw [show vfw (fun e => vDd σ.1 x.toNat e ^^ vDd σ.1 y.toNat e) (u + 1) i 0 = (if (vDd σ.1 x.toNat i ^^ vDd σ.1 y.toNat i) = true then (i : Int) else vfw (fun e => vDd σ.1 x.toNat e ^^ vDd σ.1 y.toNat e) u (i + 1) 0) from rfl] at he
          have on : (vDd σ.1 x.toNat i ^^ vDd σ.1 y.toNat i) = false → vW (vCall (d + 3)) 70 Q 67 [.ref b, .int (iI x), .int (iI y), .ref (vpa b x.toNat + 7), .ref (vpa b y.toNat + 7), .int (iI (i : Int))] [] h 0 0 := fun q => by
            rw [if_neg (by rw [q]; decide)] at he
            refine r_iinc c70_67 rfl rfl (r_goto c70_70 ?_)
            try dsimp only [vst]
            rw [vsu]
            exact ih (i + 1) (by omega) he
          have off : (vDd σ.1 x.toNat i ^^ vDd σ.1 y.toNat i) = true → vW (vCall (d + 3)) 70 Q 64 [.ref b, .int (iI x), .int (iI y), .ref (vpa b x.toNat + 7), .ref (vpa b y.toNat + 7), .int (iI (i : Int))] [] h 0 0 := fun q => by
            rw [if_pos q] at he
            refine r_iload c70_64 rfl ?_
            refine r_iret (st := []) c70_66 ?_
            rw [← he] at k
            exact k
          refine r_iload c70_40 rfl (r_ci c70_42 ?_)
          refine r_icge c70_45 (by omega) (by omega) (by omega) (by omega) (fun q => by exfalso; omega) (fun c_45 => ?_)
          refine r_aload c70_48 rfl (r_iload c70_49 rfl ?_)
          refine r_iv1 c70_51 vr_1 hx2.1 rfl (k_holdsN hx2 (by omega) (fun q => ?_) (fun q => ?_))
          · dsimp only [vpush]
            refine r_aload c70_54 rfl (r_iload c70_56 rfl ?_)
            refine r_iv1 c70_58 vr_1 hy2.1 rfl (k_holdsN hy2 (by omega) (fun q2 => ?_) (fun q2 => ?_))
            · dsimp only [vpush]
              refine r_iceq c70_61 (by omega) (by omega) (by omega) (by omega) (fun c_61 => ?_) (fun q => by exfalso; omega)
              exact on (by rw [q, q2]; rfl)
            · dsimp only [vpush]
              refine r_iceq c70_61 (by omega) (by omega) (by omega) (by omega) (fun q => by exfalso; omega) (fun c_61 => ?_)
              exact off (by rw [q, q2]; rfl)
          · dsimp only [vpush]
            refine r_aload c70_54 rfl (r_iload c70_56 rfl ?_)
            refine r_iv1 c70_58 vr_1 hy2.1 rfl (k_holdsN hy2 (by omega) (fun q2 => ?_) (fun q2 => ?_))
            · dsimp only [vpush]
              refine r_iceq c70_61 (by omega) (by omega) (by omega) (by omega) (fun q => by exfalso; omega) (fun c_61 => ?_)
              exact off (by rw [q, q2]; rfl)
            · dsimp only [vpush]
              refine r_iceq c70_61 (by omega) (by omega) (by omega) (by omega) (fun c_61 => ?_) (fun q => by exfalso; omega)
              exact on (by rw [q, q2]; rfl)
      refine r_aload c70_16 rfl (r_get c70_17 a1 rfl (r_iload c70_20 rfl (r_aald c70_21 p1 (by omega) (by omega) (by omega) (p2 _ (by omega)) (r_get c70_22 hx.1 rfl (r_astore c70_25 rfl (r_aload c70_26 rfl (r_get c70_27 a1 rfl (r_iload c70_30 rfl (r_aald c70_31 p1 (by omega) (by omega) (by omega) (p2 _ (by omega)) (r_get c70_32 hy.1 rfl (r_astore c70_35 rfl (r_ci c70_37 (r_istore c70_38 rfl ?_)))))))))))))
      try dsimp only [vst]
      exact loop 720 0 rfl rfl
    · dsimp only [vpush]
      refine r_ifne c70_11 (by omega) (by omega) (fun q => by exfalso; omega) (fun c_11 => ?_)
      exact no (by omega) _ _ _
  · dsimp only [vpush]
    refine r_ifeq c70_4 (by omega) (by omega) (fun c_4 => ?_) (fun q => by exfalso; omega)
    exact no (by omega) _ _ _
/-- the last day of the block of L days from f on -/
def vlb (f L : Nat) : Nat := (if 720 < f + L then 720 else f + L) - 1
theorem vlb_c (f L : Nat) (h : 0 < L) : (if 720 < (f : Int) + (L : Int) then (720 : Int) else (f : Int) + (L : Int)) - 1 = ((vlb f L : Nat) : Int) := by
  unfold vlb
  split <;> split <;> omega
def vQ_parts (N : vNmS) (x y z : Int) : Int := if (0 ≤ x ∧ x < 10) ∧ 0 ≤ y ∧ y < 3 then (if 0 ≤ z * (vbL y : Int) ∧ z * (vbL y : Int) < 720 then ((vcn (vDd N x.toNat) (z * (vbL y : Int)).toNat (vlb (z * (vbL y : Int)).toNat (vbL y) + 1 - (z * (vbL y : Int)).toNat) : Nat) : Int) else -1) else -1
theorem vbL_rg (y : Int) : 7 ≤ vbL y ∧ vbL y ≤ 360 := by unfold vbL; split; omega; split <;> omega
theorem vmul_rg {z : Int} {y : Int} (z1 : -2147483648 ≤ z) (z2 : z ≤ 2147483647) : -9223372036854775808 ≤ z * (vbL y : Int) ∧ z * (vbL y : Int) ≤ 9223372036854775807 := by
  unfold vbL
  split
  · omega
  · split <;> omega
theorem k_parts {d b : Nat} {σ : vSg} {x y z : Int} {h : vHp} {Q : vQ} (hR : vRD h b σ) (x1 : -2147483648 ≤ x) (x2 : x ≤ 2147483647) (y1 : -2147483648 ≤ y) (y2 : y ≤ 2147483647) (z1 : -2147483648 ≤ z) (z2 : z ≤ 2147483647) (k : Q (some (.int (iI (vQ_parts σ.1 x y z)))) h) : vCall (d + 5) 0 0 75 [.ref b, .int (iI x), .int (iI y), .int (iI z)] h Q := by
  obtain ⟨a1, ⟨p, p1, p2⟩, ⟨s, s1, s2⟩, ⟨w, w1, w2⟩, a5, a6, a7, a8, ⟨J, a9⟩, b1, b2, b3⟩ := hR
  unfold vQ_parts at k
  have no : ¬ ((0 ≤ x ∧ x < 10) ∧ 0 ≤ y ∧ y < 3) → ∀ v4 v5 v6 : Value, vW (vCall (d + 4)) 75 Q 14 [.ref b, .int (iI x), .int (iI y), .int (iI z), v4, v5, v6] [] h 0 0 := fun q v4 v5 v6 => by
    rw [if_neg q] at k
    refine r_ci c75_14 ?_
    refine r_iret (st := []) c75_15 ?_
    exact k
  refine vin 7 [_, _, _, _, _, _, _] ml_75 rfl rfl ?_
  refine r_iload c75_0 rfl ?_
  refine r_is1 c75_1 vr_87 rfl (k_isName x1 x2 (fun e1 e2 => ?_) (fun e1 => ?_))
  · dsimp only [vpush]
    refine r_ifeq c75_4 (by omega) (by omega) (fun q => by exfalso; omega) (fun c_4 => ?_)
    refine r_iload c75_7 rfl ?_
    refine r_is1 c75_8 vr_91 rfl (k_isBlock b2 y1 y2 (fun f1 f2 => ?_) (fun f1 => ?_))
    · dsimp only [vpush]
      rw [if_pos ⟨⟨e1, e2⟩, f1, f2⟩] at k
      refine r_ifne c75_11 (by omega) (by omega) (fun c_11 => ?_) (fun q => by exfalso; omega)
      have hx := a5 x.toNat (by omega)
      have hx2 : vDy h (vpa b x.toNat + 7) (vDd σ.1 x.toNat) := hx.2.2.2.2
      obtain ⟨⟨fb, fb1, fb2, fb3, fb4⟩, -⟩ := b2
      have eL : fb y.toNat = ((vbL y : Nat) : Int) := by
        have : y = 0 ∨ y = 1 ∨ y = 2 := by omega
        rcases this with e | e | e <;> rw [e] <;> simp [vbL, fb2, fb3, fb4]
      have rL := vbL_rg y
      have rz := vmul_rg (y := y) z1 z2
      refine r_gets c75_16 (r_iload c75_19 rfl (r_iald c75_20 fb1 (by omega) (by omega) ?_))
      rw [eL]
      refine r_istore c75_21 rfl (r_iload c75_23 rfl (r_i2l c75_24 (by omega) (by omega) (r_iload c75_25 rfl (r_i2l c75_27 (by omega) (by omega) (r_lmul c75_28 (r_lstore c75_29 rfl rfl (r_lload c75_31 rfl (r_cl c75_33 ?_))))))))
      try dsimp only [vst]
      generalize z * ((vbL y : Nat) : Int) = f at *
      have no2 : ¬ (0 ≤ f ∧ f < 720) → vW (vCall (d + 4)) 75 Q 47 [.ref b, .int (iI x), .int (iI y), .int (iI z), .int (iI ((vbL y : Nat) : Int)), .long (lZ f), vHole] [] h 0 0 := fun q => by
        rw [if_neg q] at k
        refine r_ci c75_47 ?_
        refine r_iret (st := []) c75_48 ?_
        exact k
      refine r_lclt c75_34 c75_35 (by omega) (by omega) (by omega) (by omega) (fun c_34 => ?_) (fun c_34 => ?_)
      · exact no2 (by omega)
      · refine r_lload c75_38 rfl (r_cl c75_40 ?_)
        refine r_lclt c75_43 c75_44 (by omega) (by omega) (by omega) (by omega) (fun c_43 => ?_) (fun c_43 => ?_)
        · rw [if_pos ⟨c_34, c_43⟩] at k
          obtain ⟨m, rfl⟩ := Int.eq_ofNat_of_zero_le c_34
          rw [Int.toNat_natCast] at k
          refine r_aload c75_49 rfl (r_get c75_50 a1 rfl (r_iload c75_53 rfl (r_aald c75_54 p1 (by omega) (by omega) (by omega) (p2 _ (by omega)) (r_get c75_55 hx.1 rfl (r_lload c75_58 rfl (r_l2i c75_60 (r_lload c75_61 rfl (r_l2i c75_63 (r_iload c75_64 rfl ?_)))))))))
          refine r_is2 c75_66 vr_93 rfl (k_lastOfBlock (by omega) (by omega) (by omega) (by omega) ?_)
          dsimp only [vpush]
          rw [vlb_c _ _ (by omega)]
          have hlb : m ≤ vlb m (vbL y) + 1 ∧ vlb m (vbL y) < 720 := by unfold vlb; split <;> omega
          refine r_iv2 c75_69 vr_11 hx2.1 rfl (k_heldWithin hx2 hlb.1 hlb.2 ?_)
          dsimp only [vpush]
          refine r_iret (st := []) c75_72 ?_
          exact k
        · exact no2 (by omega)
    · dsimp only [vpush]
      refine r_ifne c75_11 (by omega) (by omega) (fun q => by exfalso; omega) (fun c_11 => ?_)
      exact no (by omega) _ _ _
  · dsimp only [vpush]
    refine r_ifeq c75_4 (by omega) (by omega) (fun c_4 => ?_) (fun q => by exfalso; omega)
    exact no (by omega) _ _ _
def vQ_nth (N : vNmS) (x y z v : Int) : Int := if (0 ≤ x ∧ x < 10) ∧ 0 ≤ y ∧ y < 3 then (if 0 ≤ v ∧ v < 720 then vpk (vDd N x.toNat) (v.toNat / vbL y * vbL y) (vlb (v.toNat / vbL y * vbL y) (vbL y)) z else -2) else -1
theorem k_nth {d b : Nat} {σ : vSg} {x y z v : Int} {h : vHp} {Q : vQ} (hR : vRD h b σ) (x1 : -2147483648 ≤ x) (x2 : x ≤ 2147483647) (y1 : -2147483648 ≤ y) (y2 : y ≤ 2147483647) (z1 : -2147483648 ≤ z) (z2 : z ≤ 2147483647) (v1 : -2147483648 ≤ v) (v2 : v ≤ 2147483647) (k : Q (some (.int (iI (vQ_nth σ.1 x y z v)))) h) : vCall (d + 5) 0 0 76 [.ref b, .int (iI x), .int (iI y), .int (iI z), .int (iI v)] h Q := by
  obtain ⟨a1, ⟨p, p1, p2⟩, ⟨s, s1, s2⟩, ⟨w, w1, w2⟩, a5, a6, a7, a8, ⟨J, a9⟩, b1, b2, b3⟩ := hR
  unfold vQ_nth at k
  have no : ¬ ((0 ≤ x ∧ x < 10) ∧ 0 ≤ y ∧ y < 3) → ∀ v5 v6 : Value, vW (vCall (d + 4)) 76 Q 14 [.ref b, .int (iI x), .int (iI y), .int (iI z), .int (iI v), v5, v6] [] h 0 0 := fun q v5 v6 => by
    rw [if_neg q] at k
    refine r_ci c76_14 ?_
    refine r_iret (st := []) c76_15 ?_
    exact k
  refine vin 7 [_, _, _, _, _, _, _] ml_76 rfl rfl ?_
  refine r_iload c76_0 rfl ?_
  refine r_is1 c76_1 vr_87 rfl (k_isName x1 x2 (fun e1 e2 => ?_) (fun e1 => ?_))
  · dsimp only [vpush]
    refine r_ifeq c76_4 (by omega) (by omega) (fun q => by exfalso; omega) (fun c_4 => ?_)
    refine r_iload c76_7 rfl ?_
    refine r_is1 c76_8 vr_91 rfl (k_isBlock b2 y1 y2 (fun f1 f2 => ?_) (fun f1 => ?_))
    · dsimp only [vpush]
      rw [if_pos ⟨⟨e1, e2⟩, f1, f2⟩] at k
      refine r_ifne c76_11 (by omega) (by omega) (fun c_11 => ?_) (fun q => by exfalso; omega)
      refine r_iload c76_16 rfl ?_
      refine r_is1 c76_18 vr_88 rfl (k_isDay v1 v2 (fun g1 g2 => ?_) (fun g1 => ?_))
      · dsimp only [vpush]
        rw [if_pos ⟨g1, g2⟩] at k
        refine r_ifne c76_21 (by omega) (by omega) (fun c_21 => ?_) (fun q => by exfalso; omega)
        have hx := a5 x.toNat (by omega)
        have hx2 : vDy h (vpa b x.toNat + 7) (vDd σ.1 x.toNat) := hx.2.2.2.2
        obtain ⟨⟨fb, fb1, fb2, fb3, fb4⟩, -⟩ := b2
        have eL : fb y.toNat = ((vbL y : Nat) : Int) := by
          have : y = 0 ∨ y = 1 ∨ y = 2 := by omega
          rcases this with e | e | e <;> rw [e] <;> simp [vbL, fb2, fb3, fb4]
        have rL := vbL_rg y
        obtain ⟨m, rfl⟩ := Int.eq_ofNat_of_zero_le g1
        rw [Int.toNat_natCast] at k
        refine r_gets c76_27 (r_iload c76_30 rfl (r_iald c76_31 fb1 (by omega) (by omega) ?_))
        rw [eL]
        refine r_istore c76_32 rfl (r_iload c76_34 rfl (r_ci c76_36 ?_))
        try dsimp only [vst]
        refine r_icge c76_37 (by omega) (by omega) (by omega) (by omega) (fun c_37 => ?_) (fun q => by exfalso; omega)
        refine r_iload c76_45 rfl (r_iload c76_47 rfl (r_idiv c76_49 (by omega) (by omega) (by omega) (by omega) (r_iload c76_50 rfl (r_imul c76_52 ?_))))
        have ef : (m : Int) / ((vbL y : Nat) : Int) * ((vbL y : Nat) : Int) = ((m / vbL y * vbL y : Nat) : Int) := by
          rw [Int.natCast_mul, Int.natCast_ediv]
        rw [ef]
        have hle : m / vbL y * vbL y ≤ m := Nat.div_mul_le_self m (vbL y)
        generalize m / vbL y * vbL y = f at *
        refine r_istore c76_53 rfl (r_aload c76_55 rfl (r_get c76_56 a1 rfl (r_iload c76_59 rfl (r_aald c76_60 p1 (by omega) (by omega) (by omega) (p2 _ (by omega)) (r_get c76_61 hx.1 rfl (r_iload c76_64 rfl (r_iload c76_66 rfl (r_iload c76_68 rfl ?_))))))))
        try dsimp only [vst]
        refine r_is2 c76_70 vr_93 rfl (k_lastOfBlock (by omega) (by omega) (by omega) (by omega) ?_)
        dsimp only [vpush]
        rw [vlb_c _ _ (by omega)]
        have hlb : f ≤ vlb f (vbL y) + 1 ∧ vlb f (vbL y) < 720 := by unfold vlb; split <;> omega
        refine r_iload c76_73 rfl ?_
        refine r_iv3 c76_74 vr_12 hx2.1 rfl (k_pick hx2 hlb.1 hlb.2 z1 z2 ?_)
        dsimp only [vpush]
        refine r_iret (st := []) c76_77 ?_
        exact k
      · dsimp only [vpush]
        rw [if_neg (by omega)] at k
        refine r_ifne c76_21 (by omega) (by omega) (fun q => by exfalso; omega) (fun c_21 => ?_)
        refine r_ci c76_24 ?_
        refine r_iret (st := []) c76_26 ?_
        exact k
    · dsimp only [vpush]
      refine r_ifne c76_11 (by omega) (by omega) (fun q => by exfalso; omega) (fun c_11 => ?_)
      exact no (by omega) _ _
  · dsimp only [vpush]
    refine r_ifeq c76_4 (by omega) (by omega) (fun c_4 => ?_) (fun q => by exfalso; omega)
    exact no (by omega) _ _
/-- sums -/
def vsm (f : Nat → Int) : Nat → Int
  | 0 => 0
  | n + 1 => vsm f n + f n
def vQ_ruled (N : vNmS) : Int := vsm (fun i => vBi (N.1 i)) 10
def vQ_outs (N : vNmS) : Int := vsm (fun i => ((vcn (N.2.2.1 i) 0 720 : Nat) : Int)) 10
def vQ_extras (N : vNmS) : Int := vsm (fun i => ((vcn (N.2.2.2 i) 0 720 : Nat) : Int)) 10
theorem k_ruledNames {d b : Nat} {σ : vSg} {h : vHp} {Q : vQ} (hR : vRD h b σ) (k : Q (some (.int (iI (vQ_ruled σ.1)))) h) : vCall (d + 1) 0 0 97 [.ref b] h Q := by
  obtain ⟨a1, ⟨p, p1, p2⟩, ⟨s, s1, s2⟩, ⟨w, w1, w2⟩, a5, a6, a7, a8, ⟨J, a9⟩, b1, b2, b3⟩ := hR
  have loop : ∀ u i : Nat, i + u = 10 → vW (vCall d) 97 Q 4 [.ref b, .int (iI (vsm (fun i => vBi (σ.1.1 i)) i)), .int (iI (i : Int))] [] h 0 0 := by
    intro u
    induction u with
    | zero =>
      intro i hi
      refine r_iload c97_4 rfl (r_ci c97_5 ?_)
      refine r_icge c97_7 (by omega) (by omega) (by omega) (by omega) (fun c_7 => ?_) (fun q => by exfalso; omega)
      refine r_iload c97_31 rfl ?_
      refine r_iret (st := []) c97_32 ?_
      obtain rfl : i = 10 := by omega
      exact k
    | succ u ih =>
      intro i hi
      have hx := a5 i (by omega)
      refine r_iload c97_4 rfl (r_ci c97_5 ?_)
      refine r_icge c97_7 (by omega) (by omega) (by omega) (by omega) (fun q => by exfalso; omega) (fun c_7 => ?_)
      refine r_aload c97_10 rfl (r_get c97_11 a1 rfl (r_iload c97_14 rfl (r_aald c97_15 p1 (by omega) (by omega) (by omega) (by rw [Int.toNat_natCast]; exact p2 _ (by omega)) (r_get c97_16 hx.1 rfl ?_))))
      have e : vsm (fun i => vBi (σ.1.1 i)) (i + 1) = vsm (fun i => vBi (σ.1.1 i)) i + vBi (σ.1.1 i) := rfl
      cases hc : σ.1.1 i
      · refine r_ifeq (by decide +kernel : vlk 97 19 = some (70, 25, 0, 0, 22)) (by decide) (by decide) (fun _ => ?_) (fun q => absurd rfl q)
        rw [hc, show vBi false = 0 by rfl, Int.add_zero] at e
        refine r_iinc c97_25 rfl rfl (r_goto c97_28 ?_)
        try dsimp only [vst]
        rw [vsu, ← e]
        exact ih (i + 1) (by omega)
      · refine r_ifeq (by decide +kernel : vlk 97 19 = some (70, 25, 0, 0, 22)) (by decide) (by decide) (fun q => by cases q) (fun _ => ?_)
        rw [hc, show vBi true = 1 by rfl] at e
        refine r_iinc c97_22 rfl rfl (r_iinc c97_25 rfl rfl (r_goto c97_28 ?_))
        try dsimp only [vst]
        rw [vsu, ← e]
        exact ih (i + 1) (by omega)
  refine vin 3 [_, _, _] ml_97 rfl rfl ?_
  refine r_ci c97_0 (r_istore c97_1 rfl (r_ci c97_2 (r_istore c97_3 rfl ?_)))
  try dsimp only [vst]
  exact loop 10 0 rfl
theorem k_daysOutOfAll {d b : Nat} {σ : vSg} {h : vHp} {Q : vQ} (hR : vRD h b σ) (k : Q (some (.int (iI (vQ_outs σ.1)))) h) : vCall (d + 4) 0 0 98 [.ref b] h Q := by
  obtain ⟨a1, ⟨p, p1, p2⟩, ⟨s, s1, s2⟩, ⟨w, w1, w2⟩, a5, a6, a7, a8, ⟨J, a9⟩, b1, b2, b3⟩ := hR
  have loop : ∀ u i : Nat, i + u = 10 → vW (vCall (d + 3)) 98 Q 4 [.ref b, .int (iI (vsm (fun i => ((vcn (σ.1.2.2.1 i) 0 720 : Nat) : Int)) i)), .int (iI (i : Int))] [] h 0 0 := by
    intro u
    induction u with
    | zero =>
      intro i hi
      refine r_iload c98_4 rfl (r_ci c98_5 ?_)
      refine r_icge c98_7 (by omega) (by omega) (by omega) (by omega) (fun c_7 => ?_) (fun q => by exfalso; omega)
      refine r_iload c98_31 rfl ?_
      refine r_iret (st := []) c98_32 ?_
      obtain rfl : i = 10 := by omega
      exact k
    | succ u ih =>
      intro i hi
      have hx := a5 i (by omega)
      refine r_iload c98_4 rfl (r_ci c98_5 ?_)
      refine r_icge c98_7 (by omega) (by omega) (by omega) (by omega) (fun q => by exfalso; omega) (fun c_7 => ?_)
      refine r_iload c98_10 rfl (r_aload c98_11 rfl (r_get c98_12 a1 rfl (r_iload c98_15 rfl (r_aald c98_16 p1 (by omega) (by omega) (by omega) (by rw [Int.toNat_natCast]; exact p2 _ (by omega)) (r_get c98_17 hx.1 rfl ?_)))))
      refine r_iv0 c98_20 vr_10 (hx.2.2.1).1 rfl (k_size (hx.2.2.1) ?_)
      dsimp only [vpush]
      refine r_iadd c98_23 (r_istore c98_24 rfl (r_iinc c98_25 rfl rfl (r_goto c98_28 ?_)))
      try dsimp only [vst]
      rw [vsu]
      exact ih (i + 1) (by omega)
  refine vin 3 [_, _, _] ml_98 rfl rfl ?_
  refine r_ci c98_0 (r_istore c98_1 rfl (r_ci c98_2 (r_istore c98_3 rfl ?_)))
  try dsimp only [vst]
  exact loop 10 0 rfl
theorem k_extraDaysOfAll {d b : Nat} {σ : vSg} {h : vHp} {Q : vQ} (hR : vRD h b σ) (k : Q (some (.int (iI (vQ_extras σ.1)))) h) : vCall (d + 4) 0 0 99 [.ref b] h Q := by
  obtain ⟨a1, ⟨p, p1, p2⟩, ⟨s, s1, s2⟩, ⟨w, w1, w2⟩, a5, a6, a7, a8, ⟨J, a9⟩, b1, b2, b3⟩ := hR
  have loop : ∀ u i : Nat, i + u = 10 → vW (vCall (d + 3)) 99 Q 4 [.ref b, .int (iI (vsm (fun i => ((vcn (σ.1.2.2.2 i) 0 720 : Nat) : Int)) i)), .int (iI (i : Int))] [] h 0 0 := by
    intro u
    induction u with
    | zero =>
      intro i hi
      refine r_iload c99_4 rfl (r_ci c99_5 ?_)
      refine r_icge c99_7 (by omega) (by omega) (by omega) (by omega) (fun c_7 => ?_) (fun q => by exfalso; omega)
      refine r_iload c99_31 rfl ?_
      refine r_iret (st := []) c99_32 ?_
      obtain rfl : i = 10 := by omega
      exact k
    | succ u ih =>
      intro i hi
      have hx := a5 i (by omega)
      refine r_iload c99_4 rfl (r_ci c99_5 ?_)
      refine r_icge c99_7 (by omega) (by omega) (by omega) (by omega) (fun q => by exfalso; omega) (fun c_7 => ?_)
      refine r_iload c99_10 rfl (r_aload c99_11 rfl (r_get c99_12 a1 rfl (r_iload c99_15 rfl (r_aald c99_16 p1 (by omega) (by omega) (by omega) (by rw [Int.toNat_natCast]; exact p2 _ (by omega)) (r_get c99_17 hx.1 rfl ?_)))))
      refine r_iv0 c99_20 vr_10 (hx.2.2.2.1).1 rfl (k_size (hx.2.2.2.1) ?_)
      dsimp only [vpush]
      refine r_iadd c99_23 (r_istore c99_24 rfl (r_iinc c99_25 rfl rfl (r_goto c99_28 ?_)))
      try dsimp only [vst]
      rw [vsu]
      exact ih (i + 1) (by omega)
  refine vin 3 [_, _, _] ml_99 rfl rfl ?_
  refine r_ci c99_0 (r_istore c99_1 rfl (r_ci c99_2 (r_istore c99_3 rfl ?_)))
  try dsimp only [vst]
  exact loop 10 0 rfl

