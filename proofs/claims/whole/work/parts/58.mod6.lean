theorem ml_146 : vml 146 = 1 := by decide +kernel
theorem ml_154 : vml 154 = 1 := by decide +kernel
theorem ml_159 : vml 159 = 1 := by decide +kernel
theorem c146_0 : vlk 146 0 = some (4, 0, 0, 0, 1) := by decide +kernel
theorem c146_1 : vlk 146 1 = some (32, 0, 0, 0, 2) := by decide +kernel
theorem c146_2 : vlk 146 2 = some (2, 0, 0, 0, 3) := by decide +kernel
theorem c146_3 : vlk 146 3 = some (2, 0, 0, 1023, 6) := by decide +kernel
theorem c146_6 : vlk 146 6 = some (59, 102, 0, 0, 9) := by decide +kernel
theorem c146_9 : vlk 146 9 = some (63, 1, 0, 0, 10) := by decide +kernel
theorem c154_0 : vlk 154 0 = some (4, 0, 0, 0, 1) := by decide +kernel
theorem c154_1 : vlk 154 1 = some (32, 0, 0, 0, 2) := by decide +kernel
theorem c154_2 : vlk 154 2 = some (2, 0, 0, 0, 3) := by decide +kernel
theorem c154_3 : vlk 154 3 = some (2, 0, 0, 2, 6) := by decide +kernel
theorem c154_6 : vlk 154 6 = some (59, 102, 0, 0, 9) := by decide +kernel
theorem c154_9 : vlk 154 9 = some (63, 1, 0, 0, 10) := by decide +kernel
theorem c159_0 : vlk 159 0 = some (4, 0, 0, 0, 1) := by decide +kernel
theorem c159_1 : vlk 159 1 = some (32, 0, 0, 0, 2) := by decide +kernel
theorem c159_2 : vlk 159 2 = some (2, 0, 0, 0, 3) := by decide +kernel
theorem c159_3 : vlk 159 3 = some (2, 0, 0, 3, 6) := by decide +kernel
theorem c159_6 : vlk 159 6 = some (59, 102, 0, 0, 9) := by decide +kernel
theorem c159_9 : vlk 159 9 = some (63, 1, 0, 0, 10) := by decide +kernel
/-! the reference: sets, blocks, lists -/
theorem k_mSet {d : Nat} {x : Int} {h : vHp} {Q : vQ} (h1 : -2147483648 ≤ x) (h2 : x ≤ 2147483647) (kT : 0 ≤ x → x < 1024 → Q (some (.int (iI 1))) h) (kF : ¬ (0 ≤ x ∧ x < 1024) → Q (some (.int (iI 0))) h) : vCall (d + 2) 0 0 146 [.int (iI x)] h Q := by
  refine vin 1 [_] ml_146 rfl rfl ?_
  refine r_iload c146_0 rfl (r_i2l c146_1 (by omega) (by omega) (r_cl c146_2 (r_cl c146_3 ?_)))
  refine r_is3 c146_6 vr_102 rfl (k_isIn (by constructor <;> omega) (by constructor <;> omega) (by constructor <;> omega) (fun e1 e2 => ?_) (fun e => ?_))
  · dsimp only [vpush]
    refine r_zret (st := []) c146_9 (by omega) ?_
    exact kT e1 (by omega)
  · dsimp only [vpush]
    refine r_zret (st := []) c146_9 (by omega) ?_
    exact kF (by omega)
theorem k_mBlock {d : Nat} {x : Int} {h : vHp} {Q : vQ} (h1 : -2147483648 ≤ x) (h2 : x ≤ 2147483647) (kT : 0 ≤ x → x < 3 → Q (some (.int (iI 1))) h) (kF : ¬ (0 ≤ x ∧ x < 3) → Q (some (.int (iI 0))) h) : vCall (d + 2) 0 0 154 [.int (iI x)] h Q := by
  refine vin 1 [_] ml_154 rfl rfl ?_
  refine r_iload c154_0 rfl (r_i2l c154_1 (by omega) (by omega) (r_cl c154_2 (r_cl c154_3 ?_)))
  refine r_is3 c154_6 vr_102 rfl (k_isIn (by constructor <;> omega) (by constructor <;> omega) (by constructor <;> omega) (fun e1 e2 => ?_) (fun e => ?_))
  · dsimp only [vpush]
    refine r_zret (st := []) c154_9 (by omega) ?_
    exact kT e1 (by omega)
  · dsimp only [vpush]
    refine r_zret (st := []) c154_9 (by omega) ?_
    exact kF (by omega)
theorem k_mList {d : Nat} {x : Int} {h : vHp} {Q : vQ} (h1 : -2147483648 ≤ x) (h2 : x ≤ 2147483647) (kT : 0 ≤ x → x < 4 → Q (some (.int (iI 1))) h) (kF : ¬ (0 ≤ x ∧ x < 4) → Q (some (.int (iI 0))) h) : vCall (d + 2) 0 0 159 [.int (iI x)] h Q := by
  refine vin 1 [_] ml_159 rfl rfl ?_
  refine r_iload c159_0 rfl (r_i2l c159_1 (by omega) (by omega) (r_cl c159_2 (r_cl c159_3 ?_)))
  refine r_is3 c159_6 vr_102 rfl (k_isIn (by constructor <;> omega) (by constructor <;> omega) (by constructor <;> omega) (fun e1 e2 => ?_) (fun e => ?_))
  · dsimp only [vpush]
    refine r_zret (st := []) c159_9 (by omega) ?_
    exact kT e1 (by omega)
  · dsimp only [vpush]
    refine r_zret (st := []) c159_9 (by omega) ?_
    exact kF (by omega)

