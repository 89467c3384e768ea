theorem ml_44 : vml 44 = 6 := by decide +kernel
theorem vr_37 : vrc 37 = some (3, 1) := by decide +kernel
theorem c44_0 : vlk 44 0 = some (4, 1, 0, 0, 1) := by decide +kernel
theorem c44_1 : vlk 44 1 = some (1, 0, 0, 101, 3) := by decide +kernel
theorem c44_3 : vlk 44 3 = some (77, 10, 0, 0, 6) := by decide +kernel
theorem c44_6 : vlk 44 6 = some (1, 0, 0, 1, 7) := by decide +kernel
theorem c44_7 : vlk 44 7 = some (37, 11, 0, 0, 10) := by decide +kernel
theorem c44_10 : vlk 44 10 = some (1, 0, 0, 0, 11) := by decide +kernel
theorem c44_11 : vlk 44 11 = some (7, 3, 0, 0, 12) := by decide +kernel
theorem c44_12 : vlk 44 12 = some (6, 0, 0, 0, 13) := by decide +kernel
theorem c44_13 : vlk 44 13 = some (4, 3, 0, 0, 14) := by decide +kernel
theorem c44_14 : vlk 44 14 = some (70, 21, 0, 0, 17) := by decide +kernel
theorem c44_17 : vlk 44 17 = some (1, 0, 0, 1, 18) := by decide +kernel
theorem c44_18 : vlk 44 18 = some (37, 22, 0, 0, 21) := by decide +kernel
theorem c44_21 : vlk 44 21 = some (1, 0, 0, 0, 22) := by decide +kernel
theorem c44_22 : vlk 44 22 = some (1, 0, 0, 719, 25) := by decide +kernel
theorem c44_25 : vlk 44 25 = some (58, 49, 0, 0, 28) := by decide +kernel
theorem c44_28 : vlk 44 28 = some (7, 4, 0, 0, 30) := by decide +kernel
theorem c44_30 : vlk 44 30 = some (4, 4, 0, 0, 32) := by decide +kernel
theorem c44_32 : vlk 44 32 = some (1, 0, 0, (-1), 33) := by decide +kernel
theorem c44_33 : vlk 44 33 = some (76, 45, 0, 0, 36) := by decide +kernel
theorem c44_36 : vlk 44 36 = some (6, 0, 0, 0, 37) := by decide +kernel
theorem c44_37 : vlk 44 37 = some (1, 0, 0, 44, 39) := by decide +kernel
theorem c44_39 : vlk 44 39 = some (58, 37, 0, 0, 42) := by decide +kernel
theorem c44_42 : vlk 44 42 = some (71, 47, 0, 0, 45) := by decide +kernel
theorem c44_45 : vlk 44 45 = some (1, 0, 0, 0, 46) := by decide +kernel
theorem c44_46 : vlk 44 46 = some (63, 1, 0, 0, 47) := by decide +kernel
theorem c44_47 : vlk 44 47 = some (6, 0, 0, 0, 48) := by decide +kernel
theorem c44_48 : vlk 44 48 = some (4, 3, 0, 0, 49) := by decide +kernel
theorem c44_49 : vlk 44 49 = some (70, 56, 0, 0, 52) := by decide +kernel
theorem c44_52 : vlk 44 52 = some (1, 0, 0, 0, 53) := by decide +kernel
theorem c44_53 : vlk 44 53 = some (37, 58, 0, 0, 56) := by decide +kernel
theorem c44_56 : vlk 44 56 = some (4, 4, 0, 0, 58) := by decide +kernel
theorem c44_58 : vlk 44 58 = some (1, 0, 0, 719, 61) := by decide +kernel
theorem c44_61 : vlk 44 61 = some (58, 49, 0, 0, 64) := by decide +kernel
theorem c44_64 : vlk 44 64 = some (7, 5, 0, 0, 66) := by decide +kernel
theorem c44_66 : vlk 44 66 = some (4, 5, 0, 0, 68) := by decide +kernel
theorem c44_68 : vlk 44 68 = some (1, 0, 0, (-1), 69) := by decide +kernel
theorem c44_69 : vlk 44 69 = some (77, 74, 0, 0, 72) := by decide +kernel
theorem c44_72 : vlk 44 72 = some (1, 0, 0, 0, 73) := by decide +kernel
theorem c44_73 : vlk 44 73 = some (63, 1, 0, 0, 74) := by decide +kernel
theorem c44_74 : vlk 44 74 = some (6, 2, 0, 0, 75) := by decide +kernel
theorem c44_75 : vlk 44 75 = some (58, 4, 0, 0, 78) := by decide +kernel
theorem c44_78 : vlk 44 78 = some (4, 3, 0, 0, 79) := by decide +kernel
theorem c44_79 : vlk 44 79 = some (70, 93, 0, 0, 82) := by decide +kernel
theorem c44_82 : vlk 44 82 = some (6, 2, 0, 0, 83) := by decide +kernel
theorem c44_83 : vlk 44 83 = some (4, 4, 0, 0, 85) := by decide +kernel
theorem c44_85 : vlk 44 85 = some (4, 5, 0, 0, 87) := by decide +kernel
theorem c44_87 : vlk 44 87 = some (58, 14, 0, 0, 90) := by decide +kernel
theorem c44_90 : vlk 44 90 = some (37, 101, 0, 0, 93) := by decide +kernel
theorem c44_93 : vlk 44 93 = some (6, 2, 0, 0, 94) := by decide +kernel
theorem c44_94 : vlk 44 94 = some (4, 4, 0, 0, 96) := by decide +kernel
theorem c44_96 : vlk 44 96 = some (4, 5, 0, 0, 98) := by decide +kernel
theorem c44_98 : vlk 44 98 = some (58, 13, 0, 0, 101) := by decide +kernel
theorem c44_101 : vlk 44 101 = some (1, 0, 0, 1, 102) := by decide +kernel
theorem c44_102 : vlk 44 102 = some (63, 1, 0, 0, 103) := by decide +kernel
/-! Reader: pairs, brackets and what has one, on the machine -/
theorem k_pair {r n pl pr : Nat} {t : Nat → Int} {pa : Nat → Nat} {D : Nat → vSt1} {d j : Nat} {c : Int} {h : vHp} {Q : vQ} (hP : vPx h r n t pr pa D pl) (hj : j < 18) (hpl : pl ≤ n) (hc : c = 101 ∨ c = 114) (kN : (vpp n t c pl).2 = none → ∀ h', vPx h' r n t pr pa D (vpp n t c pl).1 → vFr (fun q => q = r ∨ q = r + 5 + 2 * j + 1) h h' → Q (some (.int (iI 0))) h') (kS : ∀ S, (vpp n t c pl).2 = some S → ∀ h', vPx h' r n t pr pa D (vpp n t c pl).1 → vDy h' (r + 5 + 2 * j) S → vFr (fun q => q = r ∨ q = r + 5 + 2 * j + 1) h h' → Q (some (.int (iI 1))) h') : vCall (d + 4) 0 0 44 [.ref r, .int (iI c), .ref (r + 5 + 2 * j)] h Q := by
  have hn := hP.2.2.2.2.2.2.1.1
  have part2 : ∀ (a : Nat) (p1 : Nat) (h1 : vHp) (x5 : Value), a ≤ 719 → (c = 101 → 1 ≤ a) → vpp n t c pl = vpp2 n t c (a : Int) p1 → p1 ≤ n → vPx h1 r n t pr pa D p1 → vFr (fun q => q = r) h h1 → vW (vCall (d + 3)) 44 Q 47 [.ref r, .int (iI c), .ref (r + 5 + 2 * j), .int (iI (if c = 101 then (1 : Int) else 0)), .int (iI (a : Int)), x5] [] h1 0 0 := by
    intro a p1 h1 x5 ha ha1 he hp1 hP1 f1
    have ho1 := hP1.1
    unfold vRo at ho1
    have rg := vnm_rg (n := n) (t := t) (lo := (if c = 101 then (0 : Int) else (a : Int))) (hi := 719) (p := p1) hp1
    have go2 : ∀ x : Int, x = (if c = 101 then (0 : Int) else (a : Int)) → vW (vCall (d + 3)) 44 Q 58 [.ref r, .int (iI c), .ref (r + 5 + 2 * j), .int (iI (if c = 101 then (1 : Int) else 0)), .int (iI (a : Int)), x5] [.int (iI x), .ref r] h1 0 0 := by
      intro x hx
      have hxr : 0 ≤ x ∧ x ≤ 719 := by rw [hx]; split <;> omega
      rw [he] at kN kS
      unfold vpp2 at kN kS
      rw [← hx] at rg kN kS
      refine r_ci c44_58 ?_
      refine r_iv2 c44_61 vr_49 ho1 rfl (k_number hP1.1 hP1.2.1.1 hP1.2.2.2.2.2.2.1 (by omega) hP1.2.2.2.2.2.1 (by omega) (by omega) (by omega) (by omega) (fun h2 ho2 f2 => ?_))
      dsimp only [vpush]
      have hP2 := vPx_pl hP1 ho2 f2
      generalize (vnm n t x 719 p1).2 = z at *
      generalize (vnm n t x 719 p1).1 = p2 at *
      have f12 := vFr_tr f1 f2
      refine r_istore c44_64 rfl (r_iload c44_66 rfl (r_ci c44_68 ?_))
      try dsimp only [vst]
      refine r_icne c44_69 (by omega) (by omega) (by omega) (by omega) (fun c_69 => ?_) (fun c_69 => ?_)
      · rw [if_neg c_69] at kS
        obtain ⟨b, rfl⟩ := Int.eq_ofNat_of_zero_le (show 0 ≤ z by omega)
        obtain ⟨S0, hS0⟩ := hP2.2.2.1 j hj
        refine r_aload c44_74 rfl ?_
        refine r_iv0 c44_75 vr_4 hS0.1 rfl (k_wipe hS0 (by have := hP2.2.2.2.2.2.1; omega) (fun h3 hS3 f3 => ?_))
        dsimp only [vpush]
        have hP3 := vPx_dy hP2 hj hS3 f3
        have f13 := vFr_tr (vFr_up f12 (Y := fun q => q = r ∨ q = r + 5 + 2 * j + 1) (fun q e => Or.inl e)) (vFr_up f3 (fun q e => Or.inr e))
        have hl3 : h3.1.1 ≤ r + 5 + 2 * j := by have := hP3.2.2.2.2.2.1; omega
        have fin : ∀ (h4 : vHp) (S : vSt1), vDy h4 (r + 5 + 2 * j) S → vFr (fun q => q = r + 5 + 2 * j + 1) h3 h4 → (∀ e, e < 720 → S e = vpq c a b e) → vW (vCall (d + 3)) 44 Q 101 [.ref r, .int (iI c), .ref (r + 5 + 2 * j), .int (iI (if c = 101 then (1 : Int) else 0)), .int (iI (a : Int)), .int (iI (b : Int))] [] h4 0 0 := by
          intro h4 S hS4 f4 hee
          refine r_ci c44_101 ?_
          refine r_zret (st := []) c44_102 (by omega) ?_
          exact kS _ rfl h4 (vPx_dy hP3 hj hS4 f4) (vDy_cg hS4 (fun e he2 => by rw [hee e he2, Int.toNat_natCast, Int.toNat_natCast])) (vFr_tr f13 (vFr_up f4 (fun q e => Or.inr e)))
        by_cases ec : c = 101
        · have e1 : (if c = 101 then (1 : Int) else 0) = 1 := if_pos ec
          rw [e1] at fin ⊢
          refine r_iload c44_78 rfl ?_
          refine r_ifeq c44_79 (by omega) (by omega) (fun q => by exfalso; omega) (fun c_79 => ?_)
          refine r_aload c44_82 rfl (r_iload c44_83 rfl (r_iload c44_85 rfl ?_))
          refine r_iv2 c44_87 vr_14 hS3.1 rfl (k_addEach hS3 hl3 (ha1 ec) (by omega) (by omega) (fun h4 hS4 f4 => ?_))
          dsimp only [vpush]
          refine r_goto c44_90 ?_
          refine fin h4 _ hS4 f4 (fun e he => ?_)
          unfold vpq
          rw [if_pos ec, Bool.false_or]
        · have e1 : (if c = 101 then (1 : Int) else 0) = 0 := if_neg ec
          rw [e1] at fin ⊢
          refine r_iload c44_78 rfl ?_
          refine r_ifeq c44_79 (by omega) (by omega) (fun c_79 => ?_) (fun q => by exfalso; omega)
          refine r_aload c44_93 rfl (r_iload c44_94 rfl (r_iload c44_96 rfl ?_))
          refine r_iv2 c44_98 vr_13 hS3.1 rfl (k_addSpan hS3 hl3 (by omega) (by omega) (by omega) (fun h4 hS4 f4 => ?_))
          dsimp only [vpush]
          refine fin h4 _ hS4 f4 (fun e he => ?_)
          unfold vpq
          rw [if_neg ec, Bool.false_or]
          exact decide_eq_decide.mpr (by omega)
      · rw [if_pos c_69] at kN
        refine r_ci c44_72 ?_
        refine r_zret (st := []) c44_73 (by omega) ?_
        exact kN rfl h2 hP2 (vFr_up f12 (fun q e => Or.inl e))
    by_cases ec : c = 101
    · have e1 : (if c = 101 then (1 : Int) else 0) = 1 := if_pos ec
      rw [e1] at go2 ⊢
      refine r_aload c44_47 rfl (r_iload c44_48 rfl ?_)
      refine r_ifeq c44_49 (by omega) (by omega) (fun q => by exfalso; omega) (fun c_49 => ?_)
      refine r_ci c44_52 (r_goto c44_53 ?_)
      exact go2 0 (if_pos ec).symm
    · have e1 : (if c = 101 then (1 : Int) else 0) = 0 := if_neg ec
      rw [e1] at go2 ⊢
      refine r_aload c44_47 rfl (r_iload c44_48 rfl ?_)
      refine r_ifeq c44_49 (by omega) (by omega) (fun c_49 => ?_) (fun q => by exfalso; omega)
      refine r_iload c44_56 rfl ?_
      exact go2 a (if_neg ec).symm
  have ho := hP.1
  unfold vRo at ho
  have part1 : ∀ x4 x5 : Value, vW (vCall (d + 3)) 44 Q 22 [.ref r, .int (iI c), .ref (r + 5 + 2 * j), .int (iI (if c = 101 then (1 : Int) else 0)), x4, x5] [.int (iI (if c = 101 then (1 : Int) else 0)), .ref r] h 0 0 := by
    intro x4 x5
    have rg := vnm_rg (n := n) (t := t) (lo := (if c = 101 then (1 : Int) else 0)) (hi := 719) (p := pl) hpl
    have hq1 : (if c = 101 then (1 : Int) else 0) = 0 ∨ (if c = 101 then (1 : Int) else 0) = 1 := by split <;> simp
    have hq2 : c = 101 → (if c = 101 then (1 : Int) else 0) = 1 := fun e => if_pos e
    unfold vpp at kN kS part2
    generalize (if c = 101 then (1 : Int) else 0) = q0 at *
    refine r_ci c44_22 ?_
    refine r_iv2 c44_25 vr_49 ho rfl (k_number hP.1 hP.2.1.1 hP.2.2.2.2.2.2.1 (by omega) hP.2.2.2.2.2.1 (by omega) (by omega) (by omega) (by omega) (fun h1 ho1 f1 => ?_))
    dsimp only [vpush]
    have hP1 := vPx_pl hP ho1 f1
    generalize (vnm n t q0 719 pl).2 = z at *
    generalize (vnm n t q0 719 pl).1 = p1 at *
    refine r_istore c44_28 rfl (r_iload c44_30 rfl (r_ci c44_32 ?_))
    try dsimp only [vst]
    refine r_iceq c44_33 (by omega) (by omega) (by omega) (by omega) (fun c_33 => ?_) (fun c_33 => ?_)
    · rw [if_pos c_33] at kN
      refine r_ci c44_45 ?_
      refine r_zret (st := []) c44_46 (by omega) ?_
      exact kN rfl h1 hP1 (vFr_up f1 (fun q e => Or.inl e))
    · rw [if_neg c_33] at kN kS part2
      have ho1' := ho1
      unfold vRo at ho1'
      refine r_aload c44_36 rfl (r_ci c44_37 ?_)
      refine r_iv1 c44_39 vr_37 ho1' rfl (k_take hP1.1 hP1.2.1.1 hP1.2.2.2.2.2.2.1 (by omega) hP1.2.2.2.2.2.1 (by omega) (by omega) (fun q h2 ho2 f2 => ?_) (fun q => ?_))
      · dsimp only [vpush]
        refine r_ifne c44_42 (by omega) (by omega) (fun c_42 => ?_) (fun q => by exfalso; omega)
        obtain ⟨a, rfl⟩ := Int.eq_ofNat_of_zero_le (show 0 ≤ z by omega)
        rw [if_pos q] at part2
        have hl := vch_lt (n := n) (t := t) (p := p1) (by omega)
        refine part2 a (p1 + 1) h2 _ (by omega) (fun e => ?_) rfl hl (vPx_pl hP1 ho2 f2) (vFr_tr f1 f2)
        have := hq2 e
        omega
      · dsimp only [vpush]
        refine r_ifne c44_42 (by omega) (by omega) (fun q => by exfalso; omega) (fun c_42 => ?_)
        rw [if_neg q] at kN
        refine r_ci c44_45 ?_
        refine r_zret (st := []) c44_46 (by omega) ?_
        exact kN rfl h1 hP1 (vFr_up f1 (fun q e => Or.inl e))
  refine vin 6 [_, _, _, _, _, _] ml_44 rfl rfl ?_
  refine r_iload c44_0 rfl (r_ci c44_1 ?_)
  by_cases ec : c = 101
  · have e1 : (if c = 101 then (1 : Int) else 0) = 1 := if_pos ec
    rw [e1] at part1
    refine r_icne c44_3 (by omega) (by omega) (by omega) (by omega) (fun q => by exfalso; omega) (fun c_3 => ?_)
    refine r_ci c44_6 (r_goto c44_7 (r_istore c44_11 rfl (r_aload c44_12 rfl (r_iload c44_13 rfl ?_))))
    try dsimp only [vst]
    refine r_ifeq c44_14 (by omega) (by omega) (fun q => by exfalso; omega) (fun c_14 => ?_)
    refine r_ci c44_17 (r_goto c44_18 ?_)
    exact part1 _ _
  · have e1 : (if c = 101 then (1 : Int) else 0) = 0 := if_neg ec
    rw [e1] at part1
    refine r_icne c44_3 (by omega) (by omega) (by omega) (by omega) (fun c_3 => ?_) (fun q => by exfalso; omega)
    refine r_ci c44_10 (r_istore c44_11 rfl (r_aload c44_12 rfl (r_iload c44_13 rfl ?_)))
    try dsimp only [vst]
    refine r_ifeq c44_14 (by omega) (by omega) (fun c_14 => ?_) (fun q => by exfalso; omega)
    refine r_ci c44_21 ?_
    exact part1 _ _

