theorem ml_87 : vml 87 = 1 := by decide +kernel
theorem ml_88 : vml 88 = 1 := by decide +kernel
theorem ml_89 : vml 89 = 2 := by decide +kernel
theorem ml_90 : vml 90 = 1 := by decide +kernel
theorem ml_92 : vml 92 = 1 := by decide +kernel
theorem ml_93 : vml 93 = 2 := by decide +kernel
theorem vr_88 : vrc 88 = some (5, 1) := by decide +kernel
theorem c87_0 : vlk 87 0 = some (4, 0, 0, 0, 1) := by decide +kernel
theorem c87_1 : vlk 87 1 = some (72, 14, 0, 0, 4) := by decide +kernel
theorem c87_4 : vlk 87 4 = some (4, 0, 0, 0, 5) := by decide +kernel
theorem c87_5 : vlk 87 5 = some (1, 0, 0, 10, 7) := by decide +kernel
theorem c87_7 : vlk 87 7 = some (79, 14, 0, 0, 10) := by decide +kernel
theorem c87_10 : vlk 87 10 = some (1, 0, 0, 1, 11) := by decide +kernel
theorem c87_11 : vlk 87 11 = some (37, 15, 0, 0, 14) := by decide +kernel
theorem c87_14 : vlk 87 14 = some (1, 0, 0, 0, 15) := by decide +kernel
theorem c87_15 : vlk 87 15 = some (63, 1, 0, 0, 16) := by decide +kernel
theorem c88_0 : vlk 88 0 = some (4, 0, 0, 0, 1) := by decide +kernel
theorem c88_1 : vlk 88 1 = some (72, 15, 0, 0, 4) := by decide +kernel
theorem c88_4 : vlk 88 4 = some (4, 0, 0, 0, 5) := by decide +kernel
theorem c88_5 : vlk 88 5 = some (1, 0, 0, 720, 8) := by decide +kernel
theorem c88_8 : vlk 88 8 = some (79, 15, 0, 0, 11) := by decide +kernel
theorem c88_11 : vlk 88 11 = some (1, 0, 0, 1, 12) := by decide +kernel
theorem c88_12 : vlk 88 12 = some (37, 16, 0, 0, 15) := by decide +kernel
theorem c88_15 : vlk 88 15 = some (1, 0, 0, 0, 16) := by decide +kernel
theorem c88_16 : vlk 88 16 = some (63, 1, 0, 0, 17) := by decide +kernel
theorem c89_0 : vlk 89 0 = some (4, 0, 0, 0, 1) := by decide +kernel
theorem c89_1 : vlk 89 1 = some (59, 88, 0, 0, 4) := by decide +kernel
theorem c89_4 : vlk 89 4 = some (70, 23, 0, 0, 7) := by decide +kernel
theorem c89_7 : vlk 89 7 = some (4, 1, 0, 0, 8) := by decide +kernel
theorem c89_8 : vlk 89 8 = some (59, 88, 0, 0, 11) := by decide +kernel
theorem c89_11 : vlk 89 11 = some (70, 23, 0, 0, 14) := by decide +kernel
theorem c89_14 : vlk 89 14 = some (4, 0, 0, 0, 15) := by decide +kernel
theorem c89_15 : vlk 89 15 = some (4, 1, 0, 0, 16) := by decide +kernel
theorem c89_16 : vlk 89 16 = some (80, 23, 0, 0, 19) := by decide +kernel
theorem c89_19 : vlk 89 19 = some (1, 0, 0, 1, 20) := by decide +kernel
theorem c89_20 : vlk 89 20 = some (37, 24, 0, 0, 23) := by decide +kernel
theorem c89_23 : vlk 89 23 = some (1, 0, 0, 0, 24) := by decide +kernel
theorem c89_24 : vlk 89 24 = some (63, 1, 0, 0, 25) := by decide +kernel
theorem c90_0 : vlk 90 0 = some (4, 0, 0, 0, 1) := by decide +kernel
theorem c90_1 : vlk 90 1 = some (72, 15, 0, 0, 4) := by decide +kernel
theorem c90_4 : vlk 90 4 = some (4, 0, 0, 0, 5) := by decide +kernel
theorem c90_5 : vlk 90 5 = some (1, 0, 0, 1024, 8) := by decide +kernel
theorem c90_8 : vlk 90 8 = some (79, 15, 0, 0, 11) := by decide +kernel
theorem c90_11 : vlk 90 11 = some (1, 0, 0, 1, 12) := by decide +kernel
theorem c90_12 : vlk 90 12 = some (37, 16, 0, 0, 15) := by decide +kernel
theorem c90_15 : vlk 90 15 = some (1, 0, 0, 0, 16) := by decide +kernel
theorem c90_16 : vlk 90 16 = some (63, 1, 0, 0, 17) := by decide +kernel
theorem c92_0 : vlk 92 0 = some (4, 0, 0, 0, 1) := by decide +kernel
theorem c92_1 : vlk 92 1 = some (72, 13, 0, 0, 4) := by decide +kernel
theorem c92_4 : vlk 92 4 = some (4, 0, 0, 0, 5) := by decide +kernel
theorem c92_5 : vlk 92 5 = some (1, 0, 0, 4, 6) := by decide +kernel
theorem c92_6 : vlk 92 6 = some (79, 13, 0, 0, 9) := by decide +kernel
theorem c92_9 : vlk 92 9 = some (1, 0, 0, 1, 10) := by decide +kernel
theorem c92_10 : vlk 92 10 = some (37, 14, 0, 0, 13) := by decide +kernel
theorem c92_13 : vlk 92 13 = some (1, 0, 0, 0, 14) := by decide +kernel
theorem c92_14 : vlk 92 14 = some (63, 1, 0, 0, 15) := by decide +kernel
theorem c93_0 : vlk 93 0 = some (4, 0, 0, 0, 1) := by decide +kernel
theorem c93_1 : vlk 93 1 = some (4, 1, 0, 0, 2) := by decide +kernel
theorem c93_2 : vlk 93 2 = some (11, 0, 0, 0, 3) := by decide +kernel
theorem c93_3 : vlk 93 3 = some (1, 0, 0, 720, 6) := by decide +kernel
theorem c93_6 : vlk 93 6 = some (85, 0, 0, 0, 9) := by decide +kernel
theorem c93_9 : vlk 93 9 = some (1, 0, 0, 1, 10) := by decide +kernel
theorem c93_10 : vlk 93 10 = some (12, 0, 0, 0, 11) := by decide +kernel
theorem c93_11 : vlk 93 11 = some (63, 0, 0, 0, 12) := by decide +kernel
/-! the tests of names, days, sets, lists -/
theorem k_isDay {d : Nat} {z : Int} {h : vHp} {Q : vQ} (h1 : -2147483648 ≤ z) (h2 : z ≤ 2147483647) (kT : 0 ≤ z → z < 720 → Q (some (.int (iI 1))) h) (kF : (z < 0 ∨ 720 ≤ z) → Q (some (.int (iI 0))) h) : vCall (d + 1) 0 0 88 [.int (iI z)] h Q := by
  refine vin 1 [_] ml_88 rfl rfl ?_
  refine r_iload c88_0 rfl ?_
  refine r_iflt c88_1 (by omega) (by omega) (fun c_1 => ?_) (fun c_1 => ?_)
  · refine r_ci c88_15 ?_
    refine r_zret (st := []) c88_16 (by omega) ?_
    exact kF (Or.inl c_1)
  · refine r_iload c88_4 rfl (r_ci c88_5 ?_)
    refine r_icge c88_8 (by omega) (by omega) (by omega) (by omega) (fun c_8 => ?_) (fun c_8 => ?_)
    · refine r_ci c88_15 ?_
      refine r_zret (st := []) c88_16 (by omega) ?_
      exact kF (Or.inr c_8)
    · refine r_ci c88_11 (r_goto c88_12 ?_)
      refine r_zret (st := []) c88_16 (by omega) ?_
      exact kT c_1 c_8
theorem k_isName {d : Nat} {z : Int} {h : vHp} {Q : vQ} (h1 : -2147483648 ≤ z) (h2 : z ≤ 2147483647) (kT : 0 ≤ z → z < 10 → Q (some (.int (iI 1))) h) (kF : (z < 0 ∨ 10 ≤ z) → Q (some (.int (iI 0))) h) : vCall (d + 1) 0 0 87 [.int (iI z)] h Q := by
  refine vin 1 [_] ml_87 rfl rfl ?_
  refine r_iload c87_0 rfl ?_
  refine r_iflt c87_1 (by omega) (by omega) (fun c_1 => ?_) (fun c_1 => ?_)
  · refine r_ci c87_14 ?_
    refine r_zret (st := []) c87_15 (by omega) ?_
    exact kF (Or.inl c_1)
  · refine r_iload c87_4 rfl (r_ci c87_5 ?_)
    refine r_icge c87_7 (by omega) (by omega) (by omega) (by omega) (fun c_7 => ?_) (fun c_7 => ?_)
    · refine r_ci c87_14 ?_
      refine r_zret (st := []) c87_15 (by omega) ?_
      exact kF (Or.inr c_7)
    · refine r_ci c87_10 (r_goto c87_11 ?_)
      refine r_zret (st := []) c87_15 (by omega) ?_
      exact kT c_1 c_7
theorem k_isSet {d : Nat} {z : Int} {h : vHp} {Q : vQ} (h1 : -2147483648 ≤ z) (h2 : z ≤ 2147483647) (kT : 0 ≤ z → z < 1024 → Q (some (.int (iI 1))) h) (kF : (z < 0 ∨ 1024 ≤ z) → Q (some (.int (iI 0))) h) : vCall (d + 1) 0 0 90 [.int (iI z)] h Q := by
  refine vin 1 [_] ml_90 rfl rfl ?_
  refine r_iload c90_0 rfl ?_
  refine r_iflt c90_1 (by omega) (by omega) (fun c_1 => ?_) (fun c_1 => ?_)
  · refine r_ci c90_15 ?_
    refine r_zret (st := []) c90_16 (by omega) ?_
    exact kF (Or.inl c_1)
  · refine r_iload c90_4 rfl (r_ci c90_5 ?_)
    refine r_icge c90_8 (by omega) (by omega) (by omega) (by omega) (fun c_8 => ?_) (fun c_8 => ?_)
    · refine r_ci c90_15 ?_
      refine r_zret (st := []) c90_16 (by omega) ?_
      exact kF (Or.inr c_8)
    · refine r_ci c90_11 (r_goto c90_12 ?_)
      refine r_zret (st := []) c90_16 (by omega) ?_
      exact kT c_1 c_8
theorem k_isList {d : Nat} {z : Int} {h : vHp} {Q : vQ} (h1 : -2147483648 ≤ z) (h2 : z ≤ 2147483647) (kT : 0 ≤ z → z < 4 → Q (some (.int (iI 1))) h) (kF : (z < 0 ∨ 4 ≤ z) → Q (some (.int (iI 0))) h) : vCall (d + 1) 0 0 92 [.int (iI z)] h Q := by
  refine vin 1 [_] ml_92 rfl rfl ?_
  refine r_iload c92_0 rfl ?_
  refine r_iflt c92_1 (by omega) (by omega) (fun c_1 => ?_) (fun c_1 => ?_)
  · refine r_ci c92_13 ?_
    refine r_zret (st := []) c92_14 (by omega) ?_
    exact kF (Or.inl c_1)
  · refine r_iload c92_4 rfl (r_ci c92_5 ?_)
    refine r_icge c92_6 (by omega) (by omega) (by omega) (by omega) (fun c_6 => ?_) (fun c_6 => ?_)
    · refine r_ci c92_13 ?_
      refine r_zret (st := []) c92_14 (by omega) ?_
      exact kF (Or.inr c_6)
    · refine r_ci c92_9 (r_goto c92_10 ?_)
      refine r_zret (st := []) c92_14 (by omega) ?_
      exact kT c_1 c_6
theorem k_isSpan {d : Nat} {x y : Int} {h : vHp} {Q : vQ} (h1 : -2147483648 ≤ x) (h2 : x ≤ 2147483647) (h3 : -2147483648 ≤ y) (h4 : y ≤ 2147483647) (kT : 0 ≤ x → x ≤ y → y < 720 → Q (some (.int (iI 1))) h) (kF : ¬ (0 ≤ x ∧ x ≤ y ∧ y < 720) → Q (some (.int (iI 0))) h) : vCall (d + 2) 0 0 89 [.int (iI x), .int (iI y)] h Q := by
  refine vin 2 [_, _] ml_89 rfl rfl ?_
  have no : ¬ (0 ≤ x ∧ x ≤ y ∧ y < 720) → vW (vCall (d + 1)) 89 Q 23 [.int (iI x), .int (iI y)] [] h 0 0 := fun q => by
    refine r_ci c89_23 ?_
    refine r_zret (st := []) c89_24 (by omega) ?_
    exact kF q
  refine r_iload c89_0 rfl ?_
  refine r_is1 c89_1 vr_88 rfl (k_isDay h1 h2 (fun a1 a2 => ?_) (fun a1 => ?_))
  · refine r_ifeq c89_4 (by omega) (by omega) (fun q => by exfalso; omega) (fun c_4 => ?_)
    refine r_iload c89_7 rfl ?_
    refine r_is1 c89_8 vr_88 rfl (k_isDay h3 h4 (fun b1 b2 => ?_) (fun b1 => ?_))
    · refine r_ifeq c89_11 (by omega) (by omega) (fun q => by exfalso; omega) (fun c_11 => ?_)
      refine r_iload c89_14 rfl (r_iload c89_15 rfl ?_)
      refine r_icgt c89_16 (by omega) (by omega) (by omega) (by omega) (fun c_16 => ?_) (fun c_16 => ?_)
      · exact no (by omega)
      · refine r_ci c89_19 (r_goto c89_20 ?_)
        refine r_zret (st := []) c89_24 (by omega) ?_
        exact kT a1 c_16 b2
    · refine r_ifeq c89_11 (by omega) (by omega) (fun c_11 => ?_) (fun q => by exfalso; omega)
      exact no (by omega)
  · refine r_ifeq c89_4 (by omega) (by omega) (fun c_4 => ?_) (fun q => by exfalso; omega)
    exact no (by omega)
theorem k_lastOfBlock {d : Nat} {x y : Int} {h : vHp} {Q : vQ} (h1 : 0 ≤ x) (h2 : x ≤ 100000) (h3 : 0 ≤ y) (h4 : y ≤ 100000) (k : Q (some (.int (iI ((if 720 < x + y then 720 else x + y) - 1)))) h) : vCall (d + 1) 0 0 93 [.int (iI x), .int (iI y)] h Q := by
  refine vin 2 [_, _] ml_93 rfl rfl ?_
  refine r_iload c93_0 rfl (r_iload c93_1 rfl (r_iadd c93_2 (r_ci c93_3 (r_mmin c93_6 (by omega) (by omega) (by omega) (by omega) (Nat.le_of_ble_eq_true rfl) (r_ci c93_9 (r_isub c93_10 ?_))))))
  refine r_iret (st := []) c93_11 ?_
  exact k

