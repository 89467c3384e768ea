theorem ml_107 : vml 107 = 4 := by decide +kernel
theorem c107_0 : vlk 107 0 = some (1, 0, 0, 0, 1) := by decide +kernel
theorem c107_1 : vlk 107 1 = some (7, 2, 0, 0, 2) := by decide +kernel
theorem c107_2 : vlk 107 2 = some (1, 0, 0, 0, 3) := by decide +kernel
theorem c107_3 : vlk 107 3 = some (7, 3, 0, 0, 4) := by decide +kernel
theorem c107_4 : vlk 107 4 = some (4, 3, 0, 0, 5) := by decide +kernel
theorem c107_5 : vlk 107 5 = some (1, 0, 0, 720, 8) := by decide +kernel
theorem c107_8 : vlk 107 8 = some (79, 37, 0, 0, 11) := by decide +kernel
theorem c107_11 : vlk 107 11 = some (4, 2, 0, 0, 12) := by decide +kernel
theorem c107_12 : vlk 107 12 = some (6, 0, 0, 0, 13) := by decide +kernel
theorem c107_13 : vlk 107 13 = some (1, 0, 0, 720, 16) := by decide +kernel
theorem c107_16 : vlk 107 16 = some (4, 1, 0, 0, 17) := by decide +kernel
theorem c107_17 : vlk 107 17 = some (13, 0, 0, 0, 18) := by decide +kernel
theorem c107_18 : vlk 107 18 = some (4, 3, 0, 0, 19) := by decide +kernel
theorem c107_19 : vlk 107 19 = some (11, 0, 0, 0, 20) := by decide +kernel
theorem c107_20 : vlk 107 20 = some (47, 0, 0, 0, 21) := by decide +kernel
theorem c107_24 : vlk 107 24 = some (1, 0, 0, 1, 25) := by decide +kernel
theorem c107_25 : vlk 107 25 = some (37, 29, 0, 0, 28) := by decide +kernel
theorem c107_28 : vlk 107 28 = some (1, 0, 0, 0, 29) := by decide +kernel
theorem c107_29 : vlk 107 29 = some (11, 0, 0, 0, 30) := by decide +kernel
theorem c107_30 : vlk 107 30 = some (7, 2, 0, 0, 31) := by decide +kernel
theorem c107_31 : vlk 107 31 = some (10, 3, 0, 1, 34) := by decide +kernel
theorem c107_34 : vlk 107 34 = some (37, 4, 0, 0, 37) := by decide +kernel
theorem c107_37 : vlk 107 37 = some (4, 2, 0, 0, 38) := by decide +kernel
theorem c107_38 : vlk 107 38 = some (63, 0, 0, 0, 39) := by decide +kernel
/-! the reference: how many marks of a name -/
theorem k_many {d a i : Nat} {S : Nat → vSt1} {h : vHp} {Q : vQ} (hB : vBr h a 7200 (vfl2 S)) (hi : i < 10) (k : Q (some (.int (iI (vcn (S i) 0 720 : Nat)))) h) : vCall (d + 1) 0 0 107 [.ref a, .int (iI (i : Int))] h Q := by
  obtain ⟨f, f1, f2⟩ := hB
  have loop : ∀ u j : Nat, j + u = 720 → vW (vCall d) 107 Q 4 [.ref a, .int (iI (i : Int)), .int (iI (vcn (S i) 0 j : Nat)), .int (iI (j : Int))] [] h 0 0 := by
    intro u
    induction u with
    | zero =>
      intro j hj
      refine r_iload c107_4 rfl (r_ci c107_5 ?_)
      refine r_icge c107_8 (by omega) (by omega) (by omega) (by omega) (fun c_8 => ?_) (fun q => by exfalso; omega)
      refine r_iload c107_37 rfl ?_
      refine r_iret (st := []) c107_38 ?_
      obtain rfl : j = 720 := by omega
      exact k
    | succ u ih =>
      intro j hj
      have e : vcn (S i) 0 (j + 1) = vcn (S i) 0 j + (if S i (0 + j) = true then 1 else 0) := rfl
      rw [Nat.zero_add] at e
      have ef : f (720 * i + j) = vBi (S i j) := by rw [f2 _ (by omega), vfl2_at (by omega)]
      refine r_iload c107_4 rfl (r_ci c107_5 ?_)
      refine r_icge c107_8 (by omega) (by omega) (by omega) (by omega) (fun q => by exfalso; omega) (fun c_8 => ?_)
      refine r_iload c107_11 rfl (r_aload c107_12 rfl (r_ci c107_13 (r_iload c107_16 rfl (r_imul c107_17 (r_iload c107_18 rfl (r_iadd c107_19 ?_))))))
      rw [show (720 : Int) * (i : Int) + (j : Int) = ((720 * i + j : Nat) : Int) by omega]
      refine r_bald c107_20 f1 (by omega) (by omega) ?_
      rw [Int.toNat_natCast, ef]
      refine vife (by decide +kernel : vlk 107 21 = some (70, 28, 0, 0, 24)) (fun b => ?_) (fun b => ?_)
      · rw [if_neg (by rw [b]; decide)] at e
        refine r_ci c107_28 (r_iadd c107_29 (r_istore c107_30 rfl (r_iinc c107_31 rfl rfl (r_goto c107_34 ?_))))
        try dsimp only [vst]
        rw [vsu, Int.add_zero, show vcn (S i) 0 j = vcn (S i) 0 (j + 1) by omega]
        exact ih (j + 1) (by omega)
      · rw [if_pos b] at e
        refine r_ci c107_24 (r_goto c107_25 (r_iadd c107_29 (r_istore c107_30 rfl (r_iinc c107_31 rfl rfl (r_goto c107_34 ?_)))))
        try dsimp only [vst]
        rw [vsu, vsu, ← e]
        exact ih (j + 1) (by omega)
  refine vin 4 [_, _, _, _] ml_107 rfl rfl ?_
  refine r_ci c107_0 (r_istore c107_1 rfl (r_ci c107_2 (r_istore c107_3 rfl ?_)))
  try dsimp only [vst]
  exact loop 720 0 rfl

