theorem ml_106 : vml 106 = 4 := by decide +kernel
theorem c106_0 : vlk 106 0 = some (1, 0, 0, 720, 3) := by decide +kernel
theorem c106_3 : vlk 106 3 = some (4, 1, 0, 0, 4) := by decide +kernel
theorem c106_4 : vlk 106 4 = some (13, 0, 0, 0, 5) := by decide +kernel
theorem c106_5 : vlk 106 5 = some (4, 2, 0, 0, 6) := by decide +kernel
theorem c106_6 : vlk 106 6 = some (11, 0, 0, 0, 7) := by decide +kernel
theorem c106_7 : vlk 106 7 = some (7, 3, 0, 0, 8) := by decide +kernel
theorem c106_8 : vlk 106 8 = some (6, 0, 0, 0, 9) := by decide +kernel
theorem c106_9 : vlk 106 9 = some (42, 6, 1, 0, 12) := by decide +kernel
theorem c106_12 : vlk 106 12 = some (4, 3, 0, 0, 13) := by decide +kernel
theorem c106_13 : vlk 106 13 = some (47, 0, 0, 0, 14) := by decide +kernel
theorem c106_17 : vlk 106 17 = some (6, 0, 0, 0, 18) := by decide +kernel
theorem c106_18 : vlk 106 18 = some (42, 6, 3, 0, 21) := by decide +kernel
theorem c106_21 : vlk 106 21 = some (4, 3, 0, 0, 22) := by decide +kernel
theorem c106_22 : vlk 106 22 = some (47, 0, 0, 0, 23) := by decide +kernel
theorem c106_26 : vlk 106 26 = some (6, 0, 0, 0, 27) := by decide +kernel
theorem c106_27 : vlk 106 27 = some (42, 6, 2, 0, 30) := by decide +kernel
theorem c106_30 : vlk 106 30 = some (4, 3, 0, 0, 31) := by decide +kernel
theorem c106_31 : vlk 106 31 = some (47, 0, 0, 0, 32) := by decide +kernel
theorem c106_35 : vlk 106 35 = some (1, 0, 0, 1, 36) := by decide +kernel
theorem c106_36 : vlk 106 36 = some (37, 40, 0, 0, 39) := by decide +kernel
theorem c106_39 : vlk 106 39 = some (1, 0, 0, 0, 40) := by decide +kernel
theorem c106_40 : vlk 106 40 = some (63, 1, 0, 0, 41) := by decide +kernel
/-! the reference: is it a day of a name -/
def vBr (h : vHp) (a n : Nat) (g : Nat → Bool) : Prop := ∃ f, hg h a = some (.inl (2, n, .inl f)) ∧ ∀ k, k < n → f k = vBi (g k)
def vfl2 (S : Nat → vSt1) (k : Nat) : Bool := S (k / 720) (k % 720)
theorem vfl2_at {S : Nat → vSt1} {i d : Nat} (hd : d < 720) : vfl2 S (720 * i + d) = S i d := by
  unfold vfl2
  rw [show (720 * i + d) / 720 = i by omega, show (720 * i + d) % 720 = d by omega]
theorem k_isOf {d c ar ao ax i e : Nat} {N : vNmS} {fs : List Value} {h : vHp} {Q : vQ} (ho : hg h c = some (.inr (6, fs))) (f1 : vgt fs 1 = some (.ref ar)) (f2 : vgt fs 2 = some (.ref ao)) (f3 : vgt fs 3 = some (.ref ax)) (hR : vBr h ar 7200 (vfl2 N.2.1)) (hO : vBr h ao 7200 (vfl2 N.2.2.1)) (hX : vBr h ax 7200 (vfl2 N.2.2.2)) (hi : i < 10) (he : e < 720) (k : Q (some (.int (iI (vBi (vDd N i e))))) h) : vCall (d + 1) 0 0 106 [.ref c, .int (iI (i : Int)), .int (iI (e : Int))] h Q := by
  obtain ⟨fr, r1, r2⟩ := hR
  obtain ⟨fo, o1, o2⟩ := hO
  obtain ⟨fx, x1, x2⟩ := hX
  have er : fr (720 * i + e) = vBi (N.2.1 i e) := by rw [r2 _ (by omega), vfl2_at he]
  have eo : fo (720 * i + e) = vBi (N.2.2.1 i e) := by rw [o2 _ (by omega), vfl2_at he]
  have ex : fx (720 * i + e) = vBi (N.2.2.2 i e) := by rw [x2 _ (by omega), vfl2_at he]
  have ek : vDd N i e = ((N.2.1 i e || N.2.2.2 i e) && !N.2.2.1 i e) := rfl
  rw [ek] at k
  have from26 : (N.2.1 i e || N.2.2.2 i e) = true → vW (vCall d) 106 Q 26 [.ref c, .int (iI (i : Int)), .int (iI (e : Int)), .int (iI ((720 * i + e : Nat) : Int))] [] h 0 0 := fun q => by
    rw [q, Bool.true_and] at k
    refine r_aload c106_26 rfl ?_
    refine r_get c106_27 ho f2 ?_
    refine r_iload c106_30 rfl (r_bald c106_31 o1 (by omega) (by omega) ?_)
    rw [Int.toNat_natCast, eo]
    refine vifb (by decide +kernel : vlk 106 32 = some (71, 39, 0, 0, 35)) (fun b => ?_) (fun b => ?_)
    · refine r_ci c106_39 ?_
      refine r_zret (st := []) c106_40 (by omega) ?_
      rw [b] at k; exact k
    · refine r_ci c106_35 (r_goto c106_36 ?_)
      refine r_zret (st := []) c106_40 (by omega) ?_
      rw [b] at k; exact k
  refine vin 4 [_, _, _, _] ml_106 rfl rfl ?_
  refine r_ci c106_0 (r_iload c106_3 rfl (r_imul c106_4 (r_iload c106_5 rfl (r_iadd c106_6 (r_istore c106_7 rfl (r_aload c106_8 rfl ?_))))))
  try dsimp only [vst]
  rw [show (720 : Int) * (i : Int) + (e : Int) = ((720 * i + e : Nat) : Int) by omega]
  refine r_get c106_9 ho f1 ?_
  refine r_iload c106_12 rfl (r_bald c106_13 r1 (by omega) (by omega) ?_)
  rw [Int.toNat_natCast, er]
  refine vifb (by decide +kernel : vlk 106 14 = some (71, 26, 0, 0, 17)) (fun b => ?_) (fun b => ?_)
  · exact from26 (by rw [b]; rfl)
  · refine r_aload c106_17 rfl ?_
    refine r_get c106_18 ho f3 ?_
    refine r_iload c106_21 rfl (r_bald c106_22 x1 (by omega) (by omega) ?_)
    rw [Int.toNat_natCast, ex]
    refine vife (by decide +kernel : vlk 106 23 = some (70, 39, 0, 0, 26)) (fun b2 => ?_) (fun b2 => ?_)
    · rw [b, b2] at k
      refine r_ci c106_39 ?_
      refine r_zret (st := []) c106_40 (by omega) ?_
      exact k
    · exact from26 (by rw [b2, Bool.or_true])

