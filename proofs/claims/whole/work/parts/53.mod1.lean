theorem ml_102 : vml 102 = 6 := by decide +kernel
theorem ml_103 : vml 103 = 1 := by decide +kernel
theorem ml_104 : vml 104 = 1 := by decide +kernel
theorem vr_102 : vrc 102 = some (6, 3) := by decide +kernel
theorem c102_0 : vlk 102 0 = some (5, 0, 0, 0, 1) := by decide +kernel
theorem c102_1 : vlk 102 1 = some (5, 2, 0, 0, 2) := by decide +kernel
theorem c102_2 : vlk 102 2 = some (31, 0, 0, 0, 3) := by decide +kernel
theorem c102_3 : vlk 102 3 = some (72, 17, 0, 0, 6) := by decide +kernel
theorem c102_6 : vlk 102 6 = some (5, 0, 0, 0, 7) := by decide +kernel
theorem c102_7 : vlk 102 7 = some (5, 4, 0, 0, 9) := by decide +kernel
theorem c102_9 : vlk 102 9 = some (31, 0, 0, 0, 10) := by decide +kernel
theorem c102_10 : vlk 102 10 = some (74, 17, 0, 0, 13) := by decide +kernel
theorem c102_13 : vlk 102 13 = some (1, 0, 0, 1, 14) := by decide +kernel
theorem c102_14 : vlk 102 14 = some (37, 18, 0, 0, 17) := by decide +kernel
theorem c102_17 : vlk 102 17 = some (1, 0, 0, 0, 18) := by decide +kernel
theorem c102_18 : vlk 102 18 = some (63, 1, 0, 0, 19) := by decide +kernel
theorem c103_0 : vlk 103 0 = some (4, 0, 0, 0, 1) := by decide +kernel
theorem c103_1 : vlk 103 1 = some (32, 0, 0, 0, 2) := by decide +kernel
theorem c103_2 : vlk 103 2 = some (2, 0, 0, 0, 3) := by decide +kernel
theorem c103_3 : vlk 103 3 = some (2, 0, 0, 9, 6) := by decide +kernel
theorem c103_6 : vlk 103 6 = some (59, 102, 0, 0, 9) := by decide +kernel
theorem c103_9 : vlk 103 9 = some (63, 1, 0, 0, 10) := by decide +kernel
theorem c104_0 : vlk 104 0 = some (4, 0, 0, 0, 1) := by decide +kernel
theorem c104_1 : vlk 104 1 = some (32, 0, 0, 0, 2) := by decide +kernel
theorem c104_2 : vlk 104 2 = some (2, 0, 0, 0, 3) := by decide +kernel
theorem c104_3 : vlk 104 3 = some (2, 0, 0, 719, 6) := by decide +kernel
theorem c104_6 : vlk 104 6 = some (59, 102, 0, 0, 9) := by decide +kernel
theorem c104_9 : vlk 104 9 = some (63, 1, 0, 0, 10) := by decide +kernel
/-! the reference: tests -/
abbrev vLr (x : Int) : Prop := -9223372036854775808 ≤ x ∧ x ≤ 9223372036854775807
theorem k_isIn {d : Nat} {x y z : Int} {h : vHp} {Q : vQ} (hx : vLr x) (hy : vLr y) (hz : vLr z) (kT : y ≤ x → x ≤ z → Q (some (.int (iI 1))) h) (kF : ¬ (y ≤ x ∧ x ≤ z) → Q (some (.int (iI 0))) h) : vCall (d + 1) 0 0 102 [.long (lZ x), .long (lZ y), .long (lZ z)] h Q := by
  have no : ¬ (y ≤ x ∧ x ≤ z) → vW (vCall d) 102 Q 17 [.long (lZ x), vHole, .long (lZ y), vHole, .long (lZ z), vHole] [] h 0 0 := fun q => by
    refine r_ci c102_17 ?_
    refine r_zret (st := []) c102_18 (by omega) ?_
    exact kF q
  refine vin 6 [_, _, _, _, _, _] ml_102 rfl rfl ?_
  refine r_lload c102_0 rfl (r_lload c102_1 rfl ?_)
  refine r_lclt c102_2 c102_3 (by omega) (by omega) (by omega) (by omega) (fun c_2 => ?_) (fun c_2 => ?_)
  · exact no (by omega)
  · refine r_lload c102_6 rfl (r_lload c102_7 rfl ?_)
    refine r_lcgt c102_9 c102_10 (by omega) (by omega) (by omega) (by omega) (fun c_9 => ?_) (fun c_9 => ?_)
    · exact no (by omega)
    · refine r_ci c102_13 (r_goto c102_14 ?_)
      refine r_zret (st := []) c102_18 (by omega) ?_
      exact kT (by omega) (by omega)
theorem k_mName {d : Nat} {x : Int} {h : vHp} {Q : vQ} (h1 : -2147483648 ≤ x) (h2 : x ≤ 2147483647) (kT : 0 ≤ x → x < 10 → Q (some (.int (iI 1))) h) (kF : ¬ (0 ≤ x ∧ x < 10) → Q (some (.int (iI 0))) h) : vCall (d + 2) 0 0 103 [.int (iI x)] h Q := by
  refine vin 1 [_] ml_103 rfl rfl ?_
  refine r_iload c103_0 rfl (r_i2l c103_1 (by omega) (by omega) (r_cl c103_2 (r_cl c103_3 ?_)))
  refine r_is3 c103_6 vr_102 rfl (k_isIn (by constructor <;> omega) (by constructor <;> omega) (by constructor <;> omega) (fun e1 e2 => ?_) (fun e => ?_))
  · dsimp only [vpush]
    refine r_zret (st := []) c103_9 (by omega) ?_
    exact kT e1 (by omega)
  · dsimp only [vpush]
    refine r_zret (st := []) c103_9 (by omega) ?_
    exact kF (by omega)
theorem k_mDay {d : Nat} {x : Int} {h : vHp} {Q : vQ} (h1 : -2147483648 ≤ x) (h2 : x ≤ 2147483647) (kT : 0 ≤ x → x < 720 → Q (some (.int (iI 1))) h) (kF : ¬ (0 ≤ x ∧ x < 720) → Q (some (.int (iI 0))) h) : vCall (d + 2) 0 0 104 [.int (iI x)] h Q := by
  refine vin 1 [_] ml_104 rfl rfl ?_
  refine r_iload c104_0 rfl (r_i2l c104_1 (by omega) (by omega) (r_cl c104_2 (r_cl c104_3 ?_)))
  refine r_is3 c104_6 vr_102 rfl (k_isIn (by constructor <;> omega) (by constructor <;> omega) (by constructor <;> omega) (fun e1 e2 => ?_) (fun e => ?_))
  · dsimp only [vpush]
    refine r_zret (st := []) c104_9 (by omega) ?_
    exact kT e1 (by omega)
  · dsimp only [vpush]
    refine r_zret (st := []) c104_9 (by omega) ?_
    exact kF (by omega)

