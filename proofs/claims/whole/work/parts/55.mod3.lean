theorem ml_134 : vml 134 = 4 := by decide +kernel
theorem vr_106 : vrc 106 = some (6, 2) := by decide +kernel
theorem c134_0 : vlk 134 0 = some (4, 2, 0, 0, 1) := by decide +kernel
theorem c134_1 : vlk 134 1 = some (7, 3, 0, 0, 2) := by decide +kernel
theorem c134_2 : vlk 134 2 = some (4, 3, 0, 0, 3) := by decide +kernel
theorem c134_3 : vlk 134 3 = some (1, 0, 0, 720, 6) := by decide +kernel
theorem c134_6 : vlk 134 6 = some (79, 26, 0, 0, 9) := by decide +kernel
theorem c134_9 : vlk 134 9 = some (6, 0, 0, 0, 10) := by decide +kernel
theorem c134_10 : vlk 134 10 = some (4, 1, 0, 0, 11) := by decide +kernel
theorem c134_11 : vlk 134 11 = some (4, 3, 0, 0, 12) := by decide +kernel
theorem c134_12 : vlk 134 12 = some (58, 106, 0, 0, 15) := by decide +kernel
theorem c134_18 : vlk 134 18 = some (4, 3, 0, 0, 19) := by decide +kernel
theorem c134_19 : vlk 134 19 = some (63, 0, 0, 0, 20) := by decide +kernel
theorem c134_20 : vlk 134 20 = some (10, 3, 0, 1, 23) := by decide +kernel
theorem c134_23 : vlk 134 23 = some (37, 2, 0, 0, 26) := by decide +kernel
theorem c134_26 : vlk 134 26 = some (1, 0, 0, (-5), 28) := by decide +kernel
theorem c134_28 : vlk 134 28 = some (63, 0, 0, 0, 29) := by decide +kernel
/-! the reference: the first day from one on, how many -/
def vMn (h : vHp) (c : Nat) (N : vNmS) : Prop := ∃ fs ar ao ax, hg h c = some (.inr (6, fs)) ∧ vgt fs 1 = some (.ref ar) ∧ vgt fs 2 = some (.ref ao) ∧ vgt fs 3 = some (.ref ax) ∧ vBr h ar 7200 (vfl2 N.2.1) ∧ vBr h ao 7200 (vfl2 N.2.2.1) ∧ vBr h ax 7200 (vfl2 N.2.2.2)
theorem k_mOf {d c i e : Nat} {N : vNmS} {h : vHp} {Q : vQ} (hM : vMn h c N) (hi : i < 10) (he : e < 720) (k : Q (some (.int (iI (vBi (vDd N i e))))) h) : vCall (d + 1) 0 0 106 [.ref c, .int (iI (i : Int)), .int (iI (e : Int))] h Q := by
  obtain ⟨fs, ar, ao, ax, ho, f1, f2, f3, hR, hO, hX⟩ := hM
  exact k_isOf ho f1 f2 f3 hR hO hX hi he k
theorem k_nextOf {d c i e : Nat} {N : vNmS} {h : vHp} {Q : vQ} (hM : vMn h c N) (hi : i < 10) (he : e ≤ 720) (k : Q (some (.int (iI (vfw (vDd N i) (720 - e) e 0)))) h) : vCall (d + 2) 0 0 134 [.ref c, .int (iI (i : Int)), .int (iI (e : Int))] h Q := by
  have hM0 := hM
  obtain ⟨fs, ar, ao, ax, ho, -⟩ := hM
  have loop : ∀ u j : Nat, j + u = 720 → vfw (vDd N i) u j 0 = vfw (vDd N i) (720 - e) e 0 → vW (vCall (d + 1)) 134 Q 2 [.ref c, .int (iI (i : Int)), .int (iI (e : Int)), .int (iI (j : Int))] [] h 0 0 := by
    intro u
    induction u with
    | zero =>
      intro j hj hv
      refine r_iload c134_2 rfl (r_ci c134_3 ?_)
      refine r_icge c134_6 (by omega) (by omega) (by omega) (by omega) (fun c_6 => ?_) (fun q => by exfalso; omega)
      refine r_ci c134_26 ?_
      refine r_iret (st := []) c134_28 ?_
      rw [← hv] at k
      exact k
    | succ u ih =>
      intro j hj hv
      rw [show vfw (vDd N i) (u + 1) j 0 = (if vDd N i j = true then (j : Int) else vfw (vDd N i) u (j + 1) 0) from rfl] at hv
      refine r_iload c134_2 rfl (r_ci c134_3 ?_)
      refine r_icge c134_6 (by omega) (by omega) (by omega) (by omega) (fun q => by exfalso; omega) (fun c_6 => ?_)
      refine r_aload c134_9 rfl (r_iload c134_10 rfl (r_iload c134_11 rfl ?_))
      refine r_iv2 c134_12 vr_106 ho rfl (k_mOf hM0 hi (by omega) ?_)
      dsimp only [vpush]
      refine vife (by decide +kernel : vlk 134 15 = some (70, 20, 0, 0, 18)) (fun b => ?_) (fun b => ?_)
      · rw [if_neg (by rw [b]; decide)] at hv
        refine r_iinc c134_20 rfl rfl (r_goto c134_23 ?_)
        try dsimp only [vst]
        rw [vsu]
        exact ih (j + 1) (by omega) hv
      · rw [if_pos b] at hv
        refine r_iload c134_18 rfl ?_
        refine r_iret (st := []) c134_19 ?_
        rw [← hv] at k
        exact k
  refine vin 4 [_, _, _, _] ml_134 rfl rfl ?_
  refine r_iload c134_0 rfl (r_istore c134_1 rfl ?_)
  try dsimp only [vst]
  exact loop (720 - e) e (by omega) rfl

