theorem ml_139 : vml 139 = 6 := by decide +kernel
theorem c139_0 : vlk 139 0 = some (1, 0, 0, 0, 1) := by decide +kernel
theorem c139_1 : vlk 139 1 = some (7, 4, 0, 0, 3) := by decide +kernel
theorem c139_3 : vlk 139 3 = some (4, 2, 0, 0, 4) := by decide +kernel
theorem c139_4 : vlk 139 4 = some (7, 5, 0, 0, 6) := by decide +kernel
theorem c139_6 : vlk 139 6 = some (4, 5, 0, 0, 8) := by decide +kernel
theorem c139_8 : vlk 139 8 = some (4, 3, 0, 0, 9) := by decide +kernel
theorem c139_9 : vlk 139 9 = some (80, 38, 0, 0, 12) := by decide +kernel
theorem c139_12 : vlk 139 12 = some (4, 4, 0, 0, 14) := by decide +kernel
theorem c139_14 : vlk 139 14 = some (6, 0, 0, 0, 15) := by decide +kernel
theorem c139_15 : vlk 139 15 = some (4, 1, 0, 0, 16) := by decide +kernel
theorem c139_16 : vlk 139 16 = some (4, 5, 0, 0, 18) := by decide +kernel
theorem c139_18 : vlk 139 18 = some (58, 106, 0, 0, 21) := by decide +kernel
theorem c139_24 : vlk 139 24 = some (1, 0, 0, 1, 25) := by decide +kernel
theorem c139_25 : vlk 139 25 = some (37, 29, 0, 0, 28) := by decide +kernel
theorem c139_28 : vlk 139 28 = some (1, 0, 0, 0, 29) := by decide +kernel
theorem c139_29 : vlk 139 29 = some (11, 0, 0, 0, 30) := by decide +kernel
theorem c139_30 : vlk 139 30 = some (7, 4, 0, 0, 32) := by decide +kernel
theorem c139_32 : vlk 139 32 = some (10, 5, 0, 1, 35) := by decide +kernel
theorem c139_35 : vlk 139 35 = some (37, 6, 0, 0, 38) := by decide +kernel
theorem c139_38 : vlk 139 38 = some (4, 4, 0, 0, 40) := by decide +kernel
theorem c139_40 : vlk 139 40 = some (63, 0, 0, 0, 41) := by decide +kernel
/-! the reference: how many within a span -/
theorem k_counted {d c i x y : Nat} {N : vNmS} {h : vHp} {Q : vQ} (hM : vMn h c N) (hi : i < 10) (hx : x ≤ y + 1) (hy : y < 720) (k : Q (some (.int (iI (vcn (vDd N i) x (y + 1 - x) : Nat)))) h) : vCall (d + 2) 0 0 139 [.ref c, .int (iI (i : Int)), .int (iI (x : Int)), .int (iI (y : Int))] h Q := by
  have hM0 := hM
  obtain ⟨fs, ar, ao, ax, ho, -⟩ := hM
  have loop : ∀ u j : Nat, x + j + u = y + 1 → vW (vCall (d + 1)) 139 Q 6 [.ref c, .int (iI (i : Int)), .int (iI (x : Int)), .int (iI (y : Int)), .int (iI (vcn (vDd N i) x j : Nat)), .int (iI ((x + j : Nat) : Int))] [] h 0 0 := by
    intro u
    induction u with
    | zero =>
      intro j hj
      refine r_iload c139_6 rfl (r_iload c139_8 rfl ?_)
      refine r_icgt c139_9 (by omega) (by omega) (by omega) (by omega) (fun c_9 => ?_) (fun q => by exfalso; omega)
      refine r_iload c139_38 rfl ?_
      refine r_iret (st := []) c139_40 ?_
      rw [show y + 1 - x = j by omega] at k
      exact k
    | succ u ih =>
      intro j hj
      have e : vcn (vDd N i) x (j + 1) = vcn (vDd N i) x j + (if vDd N i (x + j) = true then 1 else 0) := rfl
      refine r_iload c139_6 rfl (r_iload c139_8 rfl ?_)
      refine r_icgt c139_9 (by omega) (by omega) (by omega) (by omega) (fun q => by exfalso; omega) (fun c_9 => ?_)
      refine r_iload c139_12 rfl (r_aload c139_14 rfl (r_iload c139_15 rfl (r_iload c139_16 rfl ?_)))
      refine r_iv2 c139_18 vr_106 ho rfl (k_mOf hM0 hi (by omega) ?_)
      dsimp only [vpush]
      refine vife (by decide +kernel : vlk 139 21 = some (70, 28, 0, 0, 24)) (fun b => ?_) (fun b => ?_)
      · rw [if_neg (by rw [b]; decide)] at e
        refine r_ci c139_28 (r_iadd c139_29 (r_istore c139_30 rfl (r_iinc c139_32 rfl rfl (r_goto c139_35 ?_))))
        try dsimp only [vst]
        rw [vsu, Int.add_zero, show vcn (vDd N i) x j = vcn (vDd N i) x (j + 1) by omega]
        exact ih (j + 1) (by omega)
      · rw [if_pos b] at e
        refine r_ci c139_24 (r_goto c139_25 (r_iadd c139_29 (r_istore c139_30 rfl (r_iinc c139_32 rfl rfl (r_goto c139_35 ?_)))))
        try dsimp only [vst]
        rw [vsu, vsu, ← e]
        exact ih (j + 1) (by omega)
  refine vin 6 [_, _, _, _, _, _] ml_139 rfl rfl ?_
  refine r_ci c139_0 (r_istore c139_1 rfl (r_iload c139_3 rfl (r_istore c139_4 rfl ?_)))
  try dsimp only [vst]
  exact loop (y + 1 - x) 0 (by omega)

