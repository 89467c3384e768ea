theorem ml_127 : vml 127 = 4 := by decide +kernel
theorem ml_128 : vml 128 = 4 := by decide +kernel
theorem ml_129 : vml 129 = 5 := by decide +kernel
theorem ml_130 : vml 130 = 3 := by decide +kernel
theorem ml_131 : vml 131 = 3 := by decide +kernel
theorem vr_125 : vrc 125 = some (6, 1) := by decide +kernel
theorem vr_129 : vrc 129 = some (6, 3) := by decide +kernel
theorem c127_0 : vlk 127 0 = some (4, 1, 0, 0, 1) := by decide +kernel
theorem c127_1 : vlk 127 1 = some (59, 103, 0, 0, 4) := by decide +kernel
theorem c127_4 : vlk 127 4 = some (71, 9, 0, 0, 7) := by decide +kernel
theorem c127_7 : vlk 127 7 = some (1, 0, 0, (-1), 8) := by decide +kernel
theorem c127_8 : vlk 127 8 = some (63, 0, 0, 0, 9) := by decide +kernel
theorem c127_9 : vlk 127 9 = some (6, 0, 0, 0, 10) := by decide +kernel
theorem c127_10 : vlk 127 10 = some (42, 6, 0, 0, 13) := by decide +kernel
theorem c127_13 : vlk 127 13 = some (4, 1, 0, 0, 14) := by decide +kernel
theorem c127_14 : vlk 127 14 = some (47, 0, 0, 0, 15) := by decide +kernel
theorem c127_18 : vlk 127 18 = some (1, 0, 0, (-3), 20) := by decide +kernel
theorem c127_20 : vlk 127 20 = some (63, 0, 0, 0, 21) := by decide +kernel
theorem c127_21 : vlk 127 21 = some (6, 0, 0, 0, 22) := by decide +kernel
theorem c127_22 : vlk 127 22 = some (42, 6, 1, 0, 25) := by decide +kernel
theorem c127_25 : vlk 127 25 = some (4, 1, 0, 0, 26) := by decide +kernel
theorem c127_26 : vlk 127 26 = some (59, 107, 0, 0, 29) := by decide +kernel
theorem c127_29 : vlk 127 29 = some (7, 2, 0, 0, 30) := by decide +kernel
theorem c127_30 : vlk 127 30 = some (1, 0, 0, 0, 31) := by decide +kernel
theorem c127_31 : vlk 127 31 = some (7, 3, 0, 0, 32) := by decide +kernel
theorem c127_32 : vlk 127 32 = some (4, 3, 0, 0, 33) := by decide +kernel
theorem c127_33 : vlk 127 33 = some (1, 0, 0, 720, 36) := by decide +kernel
theorem c127_36 : vlk 127 36 = some (79, 58, 0, 0, 39) := by decide +kernel
theorem c127_39 : vlk 127 39 = some (6, 0, 0, 0, 40) := by decide +kernel
theorem c127_40 : vlk 127 40 = some (42, 6, 1, 0, 43) := by decide +kernel
theorem c127_43 : vlk 127 43 = some (1, 0, 0, 720, 46) := by decide +kernel
theorem c127_46 : vlk 127 46 = some (4, 1, 0, 0, 47) := by decide +kernel
theorem c127_47 : vlk 127 47 = some (13, 0, 0, 0, 48) := by decide +kernel
theorem c127_48 : vlk 127 48 = some (4, 3, 0, 0, 49) := by decide +kernel
theorem c127_49 : vlk 127 49 = some (11, 0, 0, 0, 50) := by decide +kernel
theorem c127_50 : vlk 127 50 = some (1, 0, 0, 0, 51) := by decide +kernel
theorem c127_51 : vlk 127 51 = some (51, 0, 0, 0, 52) := by decide +kernel
theorem c127_52 : vlk 127 52 = some (10, 3, 0, 1, 55) := by decide +kernel
theorem c127_55 : vlk 127 55 = some (37, 32, 0, 0, 58) := by decide +kernel
theorem c127_58 : vlk 127 58 = some (6, 0, 0, 0, 59) := by decide +kernel
theorem c127_59 : vlk 127 59 = some (42, 6, 0, 0, 62) := by decide +kernel
theorem c127_62 : vlk 127 62 = some (4, 1, 0, 0, 63) := by decide +kernel
theorem c127_63 : vlk 127 63 = some (1, 0, 0, 0, 64) := by decide +kernel
theorem c127_64 : vlk 127 64 = some (51, 0, 0, 0, 65) := by decide +kernel
theorem c127_65 : vlk 127 65 = some (6, 0, 0, 0, 66) := by decide +kernel
theorem c127_66 : vlk 127 66 = some (4, 1, 0, 0, 67) := by decide +kernel
theorem c127_67 : vlk 127 67 = some (58, 125, 0, 0, 70) := by decide +kernel
theorem c127_70 : vlk 127 70 = some (4, 2, 0, 0, 71) := by decide +kernel
theorem c127_71 : vlk 127 71 = some (63, 0, 0, 0, 72) := by decide +kernel
theorem c128_0 : vlk 128 0 = some (4, 1, 0, 0, 1) := by decide +kernel
theorem c128_1 : vlk 128 1 = some (59, 103, 0, 0, 4) := by decide +kernel
theorem c128_4 : vlk 128 4 = some (70, 14, 0, 0, 7) := by decide +kernel
theorem c128_7 : vlk 128 7 = some (4, 2, 0, 0, 8) := by decide +kernel
theorem c128_8 : vlk 128 8 = some (59, 103, 0, 0, 11) := by decide +kernel
theorem c128_11 : vlk 128 11 = some (71, 16, 0, 0, 14) := by decide +kernel
theorem c128_14 : vlk 128 14 = some (1, 0, 0, (-1), 15) := by decide +kernel
theorem c128_15 : vlk 128 15 = some (63, 0, 0, 0, 16) := by decide +kernel
theorem c128_16 : vlk 128 16 = some (6, 0, 0, 0, 17) := by decide +kernel
theorem c128_17 : vlk 128 17 = some (42, 6, 0, 0, 20) := by decide +kernel
theorem c128_20 : vlk 128 20 = some (4, 1, 0, 0, 21) := by decide +kernel
theorem c128_21 : vlk 128 21 = some (47, 0, 0, 0, 22) := by decide +kernel
theorem c128_25 : vlk 128 25 = some (1, 0, 0, (-3), 27) := by decide +kernel
theorem c128_27 : vlk 128 27 = some (63, 0, 0, 0, 28) := by decide +kernel
theorem c128_28 : vlk 128 28 = some (1, 0, 0, 0, 29) := by decide +kernel
theorem c128_29 : vlk 128 29 = some (7, 3, 0, 0, 30) := by decide +kernel
theorem c128_30 : vlk 128 30 = some (4, 3, 0, 0, 31) := by decide +kernel
theorem c128_31 : vlk 128 31 = some (1, 0, 0, 720, 34) := by decide +kernel
theorem c128_34 : vlk 128 34 = some (79, 67, 0, 0, 37) := by decide +kernel
theorem c128_37 : vlk 128 37 = some (6, 0, 0, 0, 38) := by decide +kernel
theorem c128_38 : vlk 128 38 = some (42, 6, 1, 0, 41) := by decide +kernel
theorem c128_41 : vlk 128 41 = some (1, 0, 0, 720, 44) := by decide +kernel
theorem c128_44 : vlk 128 44 = some (4, 2, 0, 0, 45) := by decide +kernel
theorem c128_45 : vlk 128 45 = some (13, 0, 0, 0, 46) := by decide +kernel
theorem c128_46 : vlk 128 46 = some (4, 3, 0, 0, 47) := by decide +kernel
theorem c128_47 : vlk 128 47 = some (11, 0, 0, 0, 48) := by decide +kernel
theorem c128_48 : vlk 128 48 = some (6, 0, 0, 0, 49) := by decide +kernel
theorem c128_49 : vlk 128 49 = some (42, 6, 1, 0, 52) := by decide +kernel
theorem c128_52 : vlk 128 52 = some (1, 0, 0, 720, 55) := by decide +kernel
theorem c128_55 : vlk 128 55 = some (4, 1, 0, 0, 56) := by decide +kernel
theorem c128_56 : vlk 128 56 = some (13, 0, 0, 0, 57) := by decide +kernel
theorem c128_57 : vlk 128 57 = some (4, 3, 0, 0, 58) := by decide +kernel
theorem c128_58 : vlk 128 58 = some (11, 0, 0, 0, 59) := by decide +kernel
theorem c128_59 : vlk 128 59 = some (47, 0, 0, 0, 60) := by decide +kernel
theorem c128_60 : vlk 128 60 = some (51, 0, 0, 0, 61) := by decide +kernel
theorem c128_61 : vlk 128 61 = some (10, 3, 0, 1, 64) := by decide +kernel
theorem c128_64 : vlk 128 64 = some (37, 30, 0, 0, 67) := by decide +kernel
theorem c128_67 : vlk 128 67 = some (6, 0, 0, 0, 68) := by decide +kernel
theorem c128_68 : vlk 128 68 = some (42, 6, 0, 0, 71) := by decide +kernel
theorem c128_71 : vlk 128 71 = some (4, 2, 0, 0, 72) := by decide +kernel
theorem c128_72 : vlk 128 72 = some (1, 0, 0, 1, 73) := by decide +kernel
theorem c128_73 : vlk 128 73 = some (51, 0, 0, 0, 74) := by decide +kernel
theorem c128_74 : vlk 128 74 = some (6, 0, 0, 0, 75) := by decide +kernel
theorem c128_75 : vlk 128 75 = some (4, 2, 0, 0, 76) := by decide +kernel
theorem c128_76 : vlk 128 76 = some (58, 125, 0, 0, 79) := by decide +kernel
theorem c128_79 : vlk 128 79 = some (6, 0, 0, 0, 80) := by decide +kernel
theorem c128_80 : vlk 128 80 = some (42, 6, 1, 0, 83) := by decide +kernel
theorem c128_83 : vlk 128 83 = some (4, 2, 0, 0, 84) := by decide +kernel
theorem c128_84 : vlk 128 84 = some (59, 107, 0, 0, 87) := by decide +kernel
theorem c128_87 : vlk 128 87 = some (63, 0, 0, 0, 88) := by decide +kernel
theorem c129_0 : vlk 129 0 = some (4, 2, 0, 0, 1) := by decide +kernel
theorem c129_1 : vlk 129 1 = some (59, 103, 0, 0, 4) := by decide +kernel
theorem c129_4 : vlk 129 4 = some (71, 9, 0, 0, 7) := by decide +kernel
theorem c129_7 : vlk 129 7 = some (1, 0, 0, (-1), 8) := by decide +kernel
theorem c129_8 : vlk 129 8 = some (63, 0, 0, 0, 9) := by decide +kernel
theorem c129_9 : vlk 129 9 = some (4, 3, 0, 0, 10) := by decide +kernel
theorem c129_10 : vlk 129 10 = some (59, 104, 0, 0, 13) := by decide +kernel
theorem c129_13 : vlk 129 13 = some (71, 19, 0, 0, 16) := by decide +kernel
theorem c129_16 : vlk 129 16 = some (1, 0, 0, (-2), 18) := by decide +kernel
theorem c129_18 : vlk 129 18 = some (63, 0, 0, 0, 19) := by decide +kernel
theorem c129_19 : vlk 129 19 = some (1, 0, 0, 720, 22) := by decide +kernel
theorem c129_22 : vlk 129 22 = some (4, 2, 0, 0, 23) := by decide +kernel
theorem c129_23 : vlk 129 23 = some (13, 0, 0, 0, 24) := by decide +kernel
theorem c129_24 : vlk 129 24 = some (4, 3, 0, 0, 25) := by decide +kernel
theorem c129_25 : vlk 129 25 = some (11, 0, 0, 0, 26) := by decide +kernel
theorem c129_26 : vlk 129 26 = some (7, 4, 0, 0, 28) := by decide +kernel
theorem c129_28 : vlk 129 28 = some (6, 1, 0, 0, 29) := by decide +kernel
theorem c129_29 : vlk 129 29 = some (4, 4, 0, 0, 31) := by decide +kernel
theorem c129_31 : vlk 129 31 = some (47, 0, 0, 0, 32) := by decide +kernel
theorem c129_35 : vlk 129 35 = some (6, 1, 0, 0, 36) := by decide +kernel
theorem c129_36 : vlk 129 36 = some (4, 2, 0, 0, 37) := by decide +kernel
theorem c129_37 : vlk 129 37 = some (59, 107, 0, 0, 40) := by decide +kernel
theorem c129_40 : vlk 129 40 = some (1, 0, 0, 7, 42) := by decide +kernel
theorem c129_42 : vlk 129 42 = some (77, 48, 0, 0, 45) := by decide +kernel
theorem c129_45 : vlk 129 45 = some (1, 0, 0, (-4), 47) := by decide +kernel
theorem c129_47 : vlk 129 47 = some (63, 0, 0, 0, 48) := by decide +kernel
theorem c129_48 : vlk 129 48 = some (6, 1, 0, 0, 49) := by decide +kernel
theorem c129_49 : vlk 129 49 = some (4, 4, 0, 0, 51) := by decide +kernel
theorem c129_51 : vlk 129 51 = some (6, 1, 0, 0, 52) := by decide +kernel
theorem c129_52 : vlk 129 52 = some (4, 4, 0, 0, 54) := by decide +kernel
theorem c129_54 : vlk 129 54 = some (47, 0, 0, 0, 55) := by decide +kernel
theorem c129_58 : vlk 129 58 = some (1, 0, 0, 1, 59) := by decide +kernel
theorem c129_59 : vlk 129 59 = some (37, 63, 0, 0, 62) := by decide +kernel
theorem c129_62 : vlk 129 62 = some (1, 0, 0, 0, 63) := by decide +kernel
theorem c129_63 : vlk 129 63 = some (51, 0, 0, 0, 64) := by decide +kernel
theorem c129_64 : vlk 129 64 = some (6, 0, 0, 0, 65) := by decide +kernel
theorem c129_65 : vlk 129 65 = some (4, 2, 0, 0, 66) := by decide +kernel
theorem c129_66 : vlk 129 66 = some (58, 125, 0, 0, 69) := by decide +kernel
theorem c129_69 : vlk 129 69 = some (6, 1, 0, 0, 70) := by decide +kernel
theorem c129_70 : vlk 129 70 = some (4, 2, 0, 0, 71) := by decide +kernel
theorem c129_71 : vlk 129 71 = some (59, 107, 0, 0, 74) := by decide +kernel
theorem c129_74 : vlk 129 74 = some (63, 0, 0, 0, 75) := by decide +kernel
theorem c130_0 : vlk 130 0 = some (6, 0, 0, 0, 1) := by decide +kernel
theorem c130_1 : vlk 130 1 = some (6, 0, 0, 0, 2) := by decide +kernel
theorem c130_2 : vlk 130 2 = some (42, 6, 2, 0, 5) := by decide +kernel
theorem c130_5 : vlk 130 5 = some (4, 1, 0, 0, 6) := by decide +kernel
theorem c130_6 : vlk 130 6 = some (4, 2, 0, 0, 7) := by decide +kernel
theorem c130_7 : vlk 130 7 = some (58, 129, 0, 0, 10) := by decide +kernel
theorem c130_10 : vlk 130 10 = some (63, 0, 0, 0, 11) := by decide +kernel
theorem c131_0 : vlk 131 0 = some (6, 0, 0, 0, 1) := by decide +kernel
theorem c131_1 : vlk 131 1 = some (6, 0, 0, 0, 2) := by decide +kernel
theorem c131_2 : vlk 131 2 = some (42, 6, 3, 0, 5) := by decide +kernel
theorem c131_5 : vlk 131 5 = some (4, 1, 0, 0, 6) := by decide +kernel
theorem c131_6 : vlk 131 6 = some (4, 2, 0, 0, 7) := by decide +kernel
theorem c131_7 : vlk 131 7 = some (58, 129, 0, 0, 10) := by decide +kernel
theorem c131_10 : vlk 131 10 = some (63, 0, 0, 0, 11) := by decide +kernel
/-! the reference: what changes names -/
theorem vBr_cg {h : vHp} {a n : Nat} {g g' : Nat → Bool} (hB : vBr h a n g) (e : ∀ k, k < n → g k = g' k) : vBr h a n g' := by
  obtain ⟨f, f1, f2⟩ := hB
  exact ⟨f, f1, fun k hk => by rw [f2 k hk, e k hk]⟩
theorem vfl2_up {S : Nat → vSt1} {R : vSt1} {G1 : Nat → Bool} {i : Nat} (hf : vfil (vfl2 S) G1 (720 * i) R 720) (k : Nat) : G1 k = vfl2 (vup S i R) k := by
  unfold vfl2 vup
  by_cases e : k / 720 = i
  · rw [if_pos e]
    have := hf.1 (k % 720) (by omega)
    rw [show 720 * i + k % 720 = k by omega] at this
    exact this
  · rw [if_neg e]
    exact hf.2 k (by omega)
theorem vfl2_id {S : Nat → vSt1} {i : Nat} (k : Nat) : vfl2 S k = vfl2 (vup S i (S i)) k := by
  unfold vfl2 vup
  by_cases e : k / 720 = i
  · rw [if_pos e, e]
  · rw [if_neg e]
theorem vMD_nm {h h1 : vHp} {c : Nat} {σ : vSg} {N : vNmS} (hD : vMD h c σ) (r1 : vBr h1 (c + 1) 10 N.1) (r2 : vBr h1 (c + 2) 7200 (vfl2 N.2.1)) (r3 : vBr h1 (c + 3) 7200 (vfl2 N.2.2.1)) (r4 : vBr h1 (c + 4) 7200 (vfl2 N.2.2.2)) (f : vFr (fun q => c + 1 ≤ q ∧ q < c + 5) h h1) : vMD h1 c (N, σ.2) := by
  obtain ⟨⟨a, w, tp, G, b1, b2, b3, b4, b7, b8⟩, hr, ht, hs, hl⟩ := hD
  exact ⟨⟨a, w, tp, G, (f.2.2 _ (by omega)).trans b1, vBr_fr b2 f (by omega), (f.2.2 _ (by omega)).trans b3, ⟨r2, r3, r4⟩, by rw [f.1]; exact b7, b8⟩, r1, vMt_fr ht f (fun q e1 e2 => by omega), vMs_fr hs f (fun q e1 e2 => by omega), vMl_fr hl f (fun q e1 e2 => by omega)⟩
theorem vMD_rows {h : vHp} {c : Nat} {σ : vSg} (hD : vMD h c σ) : vBr h (c + 1) 10 σ.1.1 ∧ vBr h (c + 2) 7200 (vfl2 σ.1.2.1) ∧ vBr h (c + 3) 7200 (vfl2 σ.1.2.2.1) ∧ vBr h (c + 4) 7200 (vfl2 σ.1.2.2.2) := by
  obtain ⟨⟨a, w, tp, G, hM⟩, hr, -⟩ := hD
  exact ⟨hr, hM.2.2.2.1.1, hM.2.2.2.1.2.1, hM.2.2.2.1.2.2⟩
theorem vZd_f {c : Nat} {h h1 : vHp} (f : vFr (fun q => q = c ∨ (c + 11 ≤ q ∧ q < c + 15)) h h1) : vFr (vZd c) h h1 := vFr_up f (fun q e => by unfold vZd; omega)
theorem vZd_n {c : Nat} {h h1 : vHp} (f : vFr (fun q => c + 1 ≤ q ∧ q < c + 5) h h1) : vFr (vZd c) h h1 := vFr_up f (fun q e => by unfold vZd; omega)
theorem m_drop {d c : Nat} {σ : vSg} {x : Int} {h : vHp} {Q : vQ} (hD : vMD h c σ) (hO : vOk σ) (x1 : -2147483648 ≤ x) (x2 : x ≤ 2147483647) (k : ∀ h', vMD h' c (vS_drop σ x) → vFr (vZd c) h h' → Q (some (.int (iI (vQ_drop σ.1 x)))) h') : vCall (d + 3) 0 0 127 [.ref c, .int (iI x)] h Q := by
  obtain ⟨a, w, tp, ho⟩ := vMD_o hD
  have hlo := vMD_lo hD
  obtain ⟨⟨f1, r1, e1⟩, hr2, hr3, hr4⟩ := vMD_rows hD
  have hr2' := hr2
  obtain ⟨f2, r2, e2⟩ := hr2
  refine vin 4 [_, _, _, _] ml_127 rfl rfl ?_
  refine r_iload c127_0 rfl ?_
  refine r_is1 c127_1 vr_103 rfl (k_mName x1 x2 (fun p1 p2 => ?_) (fun q => ?_))
  · dsimp only [vpush]
    obtain ⟨i, rfl⟩ := Int.eq_ofNat_of_zero_le p1
    refine r_ifne c127_4 (by omega) (by omega) (fun c_4 => ?_) (fun q => by exfalso; omega)
    refine r_aload c127_9 rfl (r_get c127_10 ho rfl (r_iload c127_13 rfl (r_bald c127_14 r1 (by omega) (by omega) ?_)))
    rw [Int.toNat_natCast, e1 i (by omega)]
    refine vifb (by decide +kernel : vlk 127 15 = some (71, 21, 0, 0, 18)) (fun b => ?_) (fun b => ?_)
    · have eQ : vQ_drop σ.1 (i : Int) = ((vcn (σ.1.2.1 i) 0 720 : Nat) : Int) := by unfold vQ_drop; rw [if_pos ⟨p1, p2⟩, Int.toNat_natCast, if_pos b]
      have eS : vS_drop σ (i : Int) = (vNup σ.1 i false (fun _ => false) (σ.1.2.2.1 i) (σ.1.2.2.2 i), σ.2.1, vfg σ.2.2.1 (i : Int), σ.2.2.2) := by unfold vS_drop; rw [Int.toNat_natCast, if_pos ⟨⟨p1, p2⟩, b⟩]
      rw [eQ, eS] at k
      refine r_aload c127_21 rfl (r_get c127_22 ho rfl (r_iload c127_25 rfl ?_))
      refine r_is2 c127_26 vr_107 rfl (k_many (S := σ.1.2.1) hr2' (by omega) ?_)
      dsimp only [vpush]
      have loop : ∀ u j : Nat, j + u = 720 → ∀ (h2 : vHp) (G : Nat → Bool), vBr h2 (c + 2) 7200 G → vfil (vfl2 σ.1.2.1) G (720 * i) (fun _ => false) j → vFr (fun q => q = c + 2) h h2 → vW (vCall (d + 2)) 127 Q 32 [.ref c, .int (iI (i : Int)), .int (iI ((vcn (σ.1.2.1 i) 0 720 : Nat) : Int)), .int (iI (j : Int))] [] h2 0 0 := by
        intro u
        induction u with
        | zero =>
          intro j hj h2 G hB hf fr
          obtain rfl : j = 720 := by omega
          have ho2 := (fr.2.2 c (by omega)).trans ho
          have r12 := (fr.2.2 (c + 1) (by omega)).trans r1
          refine r_iload c127_32 rfl (r_ci c127_33 ?_)
          refine r_icge c127_36 (by omega) (by omega) (by omega) (by omega) (fun c_36 => ?_) (fun q => by exfalso; omega)
          refine r_aload c127_58 rfl (r_get c127_59 ho2 rfl (r_iload c127_62 rfl (r_ci c127_63 ?_)))
          refine r_bast c127_64 r12 (by rw [fr.1]; omega) (by omega) (by omega) (by omega) (fun h3 s3 => ?_)
          rw [Int.toNat_natCast] at s3
          have f23 : vFr (fun q => c + 1 ≤ q ∧ q < c + 5) h h3 := vFr_tr (vFr_up fr (fun q e => by omega)) (vFr_up (vFr_st s3) (fun q e => by omega))
          have hD3 : vMD h3 c (vNup σ.1 i false (fun _ => false) (σ.1.2.2.1 i) (σ.1.2.2.2 i), σ.2) := vMD_nm hD (vBr_st e1 s3 (b := false) rfl) (vBr_cg (vBr_fr hB (vFr_st s3) (by omega)) (fun k _ => vfl2_up hf k)) (vBr_cg (vBr_fr (vBr_fr hr3 fr (by omega)) (vFr_st s3) (by omega)) (fun k _ => vfl2_id k)) (vBr_cg (vBr_fr (vBr_fr hr4 fr (by omega)) (vFr_st s3) (by omega)) (fun k _ => vfl2_id k)) f23
          obtain ⟨a3, w3, tp3, ho3⟩ := vMD_o hD3
          refine r_aload c127_65 rfl (r_iload c127_66 rfl ?_)
          refine r_iv1 c127_67 vr_125 ho3 rfl (m_forgets hD3 hO.2.2.1 (fun s hs => (hO.2.1 s hs).1) x1 x2 (fun h4 hD4 f4 => ?_))
          dsimp only [vpush]
          refine r_iload c127_70 rfl ?_
          refine r_iret (st := []) c127_71 ?_
          exact k h4 hD4 (vFr_tr (vZd_n f23) (vZd_f f4))
        | succ u ih =>
          intro j hj h2 G hB hf fr
          have ho2 := (fr.2.2 c (by omega)).trans ho
          obtain ⟨g, g1, g2⟩ := hB
          refine r_iload c127_32 rfl (r_ci c127_33 ?_)
          refine r_icge c127_36 (by omega) (by omega) (by omega) (by omega) (fun q => by exfalso; omega) (fun c_36 => ?_)
          refine r_aload c127_39 rfl (r_get c127_40 ho2 rfl (r_ci c127_43 (r_iload c127_46 rfl (r_imul c127_47 (r_iload c127_48 rfl (r_iadd c127_49 (r_ci c127_50 ?_)))))))
          refine r_bast c127_51 g1 (by rw [fr.1]; omega) (by omega) (by omega) (by omega) (fun h3 s3 => ?_)
          refine r_iinc c127_52 rfl rfl (r_goto c127_55 ?_)
          try dsimp only [vst]
          rw [vsu]
          rw [show ((720 : Int) * (i : Int) + (j : Int)).toNat = 720 * i + j by omega] at s3
          exact ih (j + 1) (by omega) h3 _ (vBr_st g2 s3 (b := false) rfl) (vfil_su hf rfl) (vFr_tr fr (vFr_st s3))
      refine r_istore c127_29 rfl (r_ci c127_30 (r_istore c127_31 rfl ?_))
      try dsimp only [vst]
      exact loop 720 0 rfl h _ hr2' vfil_0 vFr_rf
    · have eQ : vQ_drop σ.1 (i : Int) = -3 := by unfold vQ_drop; rw [if_pos ⟨p1, p2⟩, Int.toNat_natCast, if_neg (by rw [b]; decide)]
      have eS : vS_drop σ (i : Int) = σ := by unfold vS_drop; rw [Int.toNat_natCast, if_neg (fun z => by rw [b] at z; exact absurd z.2 (by decide))]
      rw [eQ, eS] at k
      refine r_ci c127_18 ?_
      refine r_iret (st := []) c127_20 ?_
      exact k h hD vFr_rf
  · have eQ : vQ_drop σ.1 x = -1 := if_neg q
    have eS : vS_drop σ x = σ := if_neg (fun z => q z.1)
    rw [eQ, eS] at k
    dsimp only [vpush]
    refine r_ifne c127_4 (by omega) (by omega) (fun q => by exfalso; omega) (fun c_4 => ?_)
    refine r_ci c127_7 ?_
    refine r_iret (st := []) c127_8 ?_
    exact k h hD vFr_rf
theorem m_copy {d c : Nat} {σ : vSg} {x y : Int} {h : vHp} {Q : vQ} (hD : vMD h c σ) (hO : vOk σ) (x1 : -2147483648 ≤ x) (x2 : x ≤ 2147483647) (y1 : -2147483648 ≤ y) (y2 : y ≤ 2147483647) (k : ∀ h', vMD h' c (vS_copy σ x y) → vFr (vZd c) h h' → Q (some (.int (iI (vQ_copy σ.1 x y)))) h') : vCall (d + 3) 0 0 128 [.ref c, .int (iI x), .int (iI y)] h Q := by
  obtain ⟨a, w, tp, ho⟩ := vMD_o hD
  have hlo := vMD_lo hD
  obtain ⟨⟨f1, r1, e1⟩, hr2, hr3, hr4⟩ := vMD_rows hD
  have no : ¬ ((0 ≤ x ∧ x < 10) ∧ 0 ≤ y ∧ y < 10) → ∀ x3 : Value, vW (vCall (d + 2)) 128 Q 14 [.ref c, .int (iI x), .int (iI y), x3] [] h 0 0 := fun q x3 => by
    have eQ : vQ_copy σ.1 x y = -1 := if_neg q
    have eS : vS_copy σ x y = σ := if_neg (fun z => q z.1)
    rw [eQ, eS] at k
    refine r_ci c128_14 ?_
    refine r_iret (st := []) c128_15 ?_
    exact k h hD vFr_rf
  refine vin 4 [_, _, _, _] ml_128 rfl rfl ?_
  refine r_iload c128_0 rfl ?_
  refine r_is1 c128_1 vr_103 rfl (k_mName x1 x2 (fun p1 p2 => ?_) (fun q => ?_))
  · dsimp only [vpush]
    refine r_ifeq c128_4 (by omega) (by omega) (fun q => by exfalso; omega) (fun c_4 => ?_)
    refine r_iload c128_7 rfl ?_
    refine r_is1 c128_8 vr_103 rfl (k_mName y1 y2 (fun q1 q2 => ?_) (fun q => ?_))
    · dsimp only [vpush]
      obtain ⟨i, rfl⟩ := Int.eq_ofNat_of_zero_le p1
      obtain ⟨o, rfl⟩ := Int.eq_ofNat_of_zero_le q1
      refine r_ifne c128_11 (by omega) (by omega) (fun c_11 => ?_) (fun q => by exfalso; omega)
      refine r_aload c128_16 rfl (r_get c128_17 ho rfl (r_iload c128_20 rfl (r_bald c128_21 r1 (by omega) (by omega) ?_)))
      rw [Int.toNat_natCast, e1 i (by omega)]
      refine vifb (by decide +kernel : vlk 128 22 = some (71, 28, 0, 0, 25)) (fun b => ?_) (fun b => ?_)
      · have eQ : vQ_copy σ.1 (i : Int) (o : Int) = ((vcn (σ.1.2.1 i) 0 720 : Nat) : Int) := by unfold vQ_copy; rw [if_pos ⟨⟨p1, p2⟩, q1, q2⟩, Int.toNat_natCast, if_pos b]
        have eS : vS_copy σ (i : Int) (o : Int) = (vNup σ.1 o true (σ.1.2.1 i) (σ.1.2.2.1 o) (σ.1.2.2.2 o), σ.2.1, vfg σ.2.2.1 (o : Int), σ.2.2.2) := by unfold vS_copy; rw [Int.toNat_natCast, Int.toNat_natCast, if_pos ⟨⟨⟨p1, p2⟩, q1, q2⟩, b⟩]
        rw [eQ, eS] at k
        have loop : ∀ u j : Nat, j + u = 720 → ∀ (h2 : vHp) (G : Nat → Bool), vBr h2 (c + 2) 7200 G → vfil (vfl2 σ.1.2.1) G (720 * o) (σ.1.2.1 i) j → vFr (fun q => q = c + 2) h h2 → vW (vCall (d + 2)) 128 Q 30 [.ref c, .int (iI (i : Int)), .int (iI (o : Int)), .int (iI (j : Int))] [] h2 0 0 := by
          intro u
          induction u with
          | zero =>
            intro j hj h2 G hB hf fr
            obtain rfl : j = 720 := by omega
            have ho2 := (fr.2.2 c (by omega)).trans ho
            have r12 := (fr.2.2 (c + 1) (by omega)).trans r1
            refine r_iload c128_30 rfl (r_ci c128_31 ?_)
            refine r_icge c128_34 (by omega) (by omega) (by omega) (by omega) (fun c_34 => ?_) (fun q => by exfalso; omega)
            refine r_aload c128_67 rfl (r_get c128_68 ho2 rfl (r_iload c128_71 rfl (r_ci c128_72 ?_)))
            refine r_bast c128_73 r12 (by rw [fr.1]; omega) (by omega) (by omega) (by omega) (fun h3 s3 => ?_)
            rw [Int.toNat_natCast] at s3
            have f23 : vFr (fun q => c + 1 ≤ q ∧ q < c + 5) h h3 := vFr_tr (vFr_up fr (fun q e => by omega)) (vFr_up (vFr_st s3) (fun q e => by omega))
            have hD3 : vMD h3 c (vNup σ.1 o true (σ.1.2.1 i) (σ.1.2.2.1 o) (σ.1.2.2.2 o), σ.2) := vMD_nm hD (vBr_st e1 s3 (b := true) rfl) (vBr_cg (vBr_fr hB (vFr_st s3) (by omega)) (fun k _ => vfl2_up hf k)) (vBr_cg (vBr_fr (vBr_fr hr3 fr (by omega)) (vFr_st s3) (by omega)) (fun k _ => vfl2_id k)) (vBr_cg (vBr_fr (vBr_fr hr4 fr (by omega)) (vFr_st s3) (by omega)) (fun k _ => vfl2_id k)) f23
            obtain ⟨a3, w3, tp3, ho3⟩ := vMD_o hD3
            refine r_aload c128_74 rfl (r_iload c128_75 rfl ?_)
            refine r_iv1 c128_76 vr_125 ho3 rfl (m_forgets hD3 hO.2.2.1 (fun s hs => (hO.2.1 s hs).1) y1 y2 (fun h4 hD4 f4 => ?_))
            dsimp only [vpush]
            obtain ⟨a4, w4, tp4, ho4⟩ := vMD_o hD4
            have hr24 := (vMD_rows hD4).2.1
            refine r_aload c128_79 rfl (r_get c128_80 ho4 rfl (r_iload c128_83 rfl ?_))
            refine r_is2 c128_84 vr_107 rfl (k_many (S := vup σ.1.2.1 o (σ.1.2.1 i)) hr24 (by omega) ?_)
            dsimp only [vpush]
            refine r_iret (st := []) c128_87 ?_
            rw [show vup σ.1.2.1 o (σ.1.2.1 i) o = σ.1.2.1 i by unfold vup; exact if_pos rfl]
            exact k h4 hD4 (vFr_tr (vZd_n f23) (vZd_f f4))
          | succ u ih =>
            intro j hj h2 G hB hf fr
            have ho2 := (fr.2.2 c (by omega)).trans ho
            obtain ⟨g, g1, g2⟩ := hB
            refine r_iload c128_30 rfl (r_ci c128_31 ?_)
            refine r_icge c128_34 (by omega) (by omega) (by omega) (by omega) (fun q => by exfalso; omega) (fun c_34 => ?_)
            refine r_aload c128_37 rfl (r_get c128_38 ho2 rfl (r_ci c128_41 (r_iload c128_44 rfl (r_imul c128_45 (r_iload c128_46 rfl (r_iadd c128_47 (r_aload c128_48 rfl (r_get c128_49 ho2 rfl (r_ci c128_52 (r_iload c128_55 rfl (r_imul c128_56 (r_iload c128_57 rfl (r_iadd c128_58 (r_bald c128_59 g1 (by omega) (by omega) ?_))))))))))))))
            rw [show ((720 : Int) * (i : Int) + (j : Int)).toNat = 720 * i + j by omega, g2 _ (by omega), hf.2 _ (by omega), vfl2_at (by omega)]
            refine r_bast c128_60 g1 (by rw [fr.1]; omega) (by omega) (by omega) (by cases σ.1.2.1 i j <;> decide) (fun h3 s3 => ?_)
            refine r_iinc c128_61 rfl rfl (r_goto c128_64 ?_)
            try dsimp only [vst]
            rw [vsu]
            rw [show ((720 : Int) * (o : Int) + (j : Int)).toNat = 720 * o + j by omega] at s3
            exact ih (j + 1) (by omega) h3 _ (vBr_st g2 s3 rfl) (vfil_su hf rfl) (vFr_tr fr (vFr_st s3))
        refine r_ci c128_28 (r_istore c128_29 rfl ?_)
        try dsimp only [vst]
        exact loop 720 0 rfl h _ hr2 vfil_0 vFr_rf
      · have eQ : vQ_copy σ.1 (i : Int) (o : Int) = -3 := by unfold vQ_copy; rw [if_pos ⟨⟨p1, p2⟩, q1, q2⟩, Int.toNat_natCast, if_neg (by rw [b]; decide)]
        have eS : vS_copy σ (i : Int) (o : Int) = σ := by unfold vS_copy; rw [Int.toNat_natCast, if_neg (fun z => by rw [b] at z; exact absurd z.2 (by decide))]
        rw [eQ, eS] at k
        refine r_ci c128_25 ?_
        refine r_iret (st := []) c128_27 ?_
        exact k h hD vFr_rf
    · dsimp only [vpush]
      refine r_ifne c128_11 (by omega) (by omega) (fun q => by exfalso; omega) (fun c_11 => ?_)
      exact no (fun z => q z.2) _
  · dsimp only [vpush]
    refine r_ifeq c128_4 (by omega) (by omega) (fun c_4 => ?_) (fun q => by exfalso; omega)
    exact no (fun z => q z.1) _
theorem vfl_fil {S : Nat → vSt1} {i y : Nat} (hy : y < 720) (k : Nat) : vup (vfl2 S) (720 * i + y) (!S i y) k = vfl2 (vup S i (vfl (S i) y)) k := by
  unfold vfl2 vup vfl
  by_cases e : k / 720 = i
  · rw [if_pos e]
    by_cases e2 : k % 720 = y
    · rw [if_pos (by omega), if_pos e2, e2]
    · rw [if_neg (by omega), if_neg e2]
      show S (k / 720) (k % 720) = _
      rw [e]
  · rw [if_neg e, if_neg (by omega)]
/-- a mark of a row turns: the row at r -/
theorem m_turns {d c r : Nat} {σ : vSg} {S : Nat → vSt1} {x y : Int} {h : vHp} {Q : vQ} (hD : vMD h c σ) (hO : vOk σ) (hr : vBr h r 7200 (vfl2 S)) (hrc : r = c + 3 ∨ r = c + 4) (x1 : -2147483648 ≤ x) (x2 : x ≤ 2147483647) (y1 : -2147483648 ≤ y) (y2 : y ≤ 2147483647) (h7 : ∀ i, i < 10 → vcn (S i) 0 720 ≤ 7)
    (kN : ¬ (0 ≤ x ∧ x < 10) → Q (some (.int (iI (-1)))) h) (kB : 0 ≤ x ∧ x < 10 → ¬ (0 ≤ y ∧ y < 720) → Q (some (.int (iI (-2)))) h)
    (kF : ∀ i y0 : Nat, x = (i : Int) → y = (y0 : Int) → i < 10 → y0 < 720 → vfull (S i) y0 = true → Q (some (.int (iI (-4)))) h)
    (kS : ∀ i y0 : Nat, x = (i : Int) → y = (y0 : Int) → i < 10 → y0 < 720 → vfull (S i) y0 = false → ∀ h2, vBr h2 r 7200 (vfl2 (vup S i (vfl (S i) y0))) → vFr (fun q => q = r) h h2 → ∃ N : vNmS, vMD h2 c (N, σ.2) ∧ ∀ h3, vMD h3 c (N, σ.2.1, vfg σ.2.2.1 x, σ.2.2.2) → vFr (vZd c) h h3 → Q (some (.int (iI ((vcn (vfl (S i) y0) 0 720 : Nat) : Int)))) h3) : vCall (d + 3) 0 0 129 [.ref c, .ref r, .int (iI x), .int (iI y)] h Q := by
  have hlo := vMD_lo hD
  have hr0 := hr
  obtain ⟨f, r1, r2⟩ := hr
  refine vin 5 [_, _, _, _, _] ml_129 rfl rfl ?_
  refine r_iload c129_0 rfl ?_
  refine r_is1 c129_1 vr_103 rfl (k_mName x1 x2 (fun p1 p2 => ?_) (fun q => ?_))
  · dsimp only [vpush]
    refine r_ifne c129_4 (by omega) (by omega) (fun c_4 => ?_) (fun q => by exfalso; omega)
    refine r_iload c129_9 rfl ?_
    refine r_is1 c129_10 vr_104 rfl (k_mDay y1 y2 (fun q1 q2 => ?_) (fun q => ?_))
    · dsimp only [vpush]
      obtain ⟨i, rfl⟩ := Int.eq_ofNat_of_zero_le p1
      obtain ⟨y0, rfl⟩ := Int.eq_ofNat_of_zero_le q1
      have hi7 := h7 i (by omega)
      have es : f (720 * i + y0) = vBi (S i y0) := by rw [r2 _ (by omega), vfl2_at (by omega)]
      have em : (720 : Int) * (i : Int) + (y0 : Int) = ((720 * i + y0 : Nat) : Int) := by omega
      have flip : vfull (S i) y0 = false → vW (vCall (d + 2)) 129 Q 48 [.ref c, .ref r, .int (iI (i : Int)), .int (iI (y0 : Int)), .int (iI ((720 * i + y0 : Nat) : Int))] [] h 0 0 := by
        intro hfu
        have put : ∀ b : Bool, b = (!S i y0) → vW (vCall (d + 2)) 129 Q 63 [.ref c, .ref r, .int (iI (i : Int)), .int (iI (y0 : Int)), .int (iI ((720 * i + y0 : Nat) : Int))] [.int (iI (vBi b)), .int (iI ((720 * i + y0 : Nat) : Int)), .ref r] h 0 0 := by
          intro b hb
          refine r_bast c129_63 r1 (by omega) (by omega) (by omega) (by cases b <;> decide) (fun h2 s2 => ?_)
          rw [Int.toNat_natCast] at s2
          have hB2 : vBr h2 r 7200 (vfl2 (vup S i (vfl (S i) y0))) := vBr_cg (vBr_st r2 s2 rfl) (fun k _ => by rw [hb]; exact vfl_fil (by omega) k)
          obtain ⟨N, hD2, kk⟩ := kS i y0 rfl rfl (by omega) (by omega) hfu h2 hB2 (vFr_st s2)
          obtain ⟨a3, w3, tp3, ho3⟩ := vMD_o hD2
          refine r_aload c129_64 rfl (r_iload c129_65 rfl ?_)
          refine r_iv1 c129_66 vr_125 ho3 rfl (m_forgets hD2 hO.2.2.1 (fun s hs => (hO.2.1 s hs).1) x1 x2 (fun h4 hD4 f4 => ?_))
          dsimp only [vpush]
          refine r_aload c129_69 rfl (r_iload c129_70 rfl ?_)
          refine r_is2 c129_71 vr_107 rfl (k_many (S := vup S i (vfl (S i) y0)) (vBr_fr hB2 f4 (by omega)) (by omega) ?_)
          dsimp only [vpush]
          refine r_iret (st := []) c129_74 ?_
          rw [show vup S i (vfl (S i) y0) i = vfl (S i) y0 by unfold vup; exact if_pos rfl]
          exact kk h4 hD4 (vFr_tr (vFr_up (vFr_st s2) (fun q e => by unfold vZd; omega)) (vZd_f f4))
        refine r_aload c129_48 rfl (r_iload c129_49 rfl (r_aload c129_51 rfl (r_iload c129_52 rfl (r_bald c129_54 r1 (by omega) (by omega) ?_))))
        rw [Int.toNat_natCast, es]
        refine vifb (by decide +kernel : vlk 129 55 = some (71, 62, 0, 0, 58)) (fun b => ?_) (fun b => ?_)
        · refine r_ci c129_62 ?_
          exact put false (by rw [b]; rfl)
        · refine r_ci c129_58 (r_goto c129_59 ?_)
          exact put true (by rw [b]; rfl)
      refine r_ifne c129_13 (by omega) (by omega) (fun c_13 => ?_) (fun q => by exfalso; omega)
      refine r_ci c129_19 (r_iload c129_22 rfl (r_imul c129_23 (r_iload c129_24 rfl (r_iadd c129_25 ?_))))
      rw [em]
      refine r_istore c129_26 rfl (r_aload c129_28 rfl (r_iload c129_29 rfl (r_bald c129_31 r1 (by omega) (by omega) ?_)))
      try dsimp only [vst]
      rw [Int.toNat_natCast, es]
      refine vifb (by decide +kernel : vlk 129 32 = some (71, 48, 0, 0, 35)) (fun b => ?_) (fun b => ?_)
      · exact flip (by unfold vfull; rw [b]; rfl)
      · refine r_aload c129_35 rfl (r_iload c129_36 rfl ?_)
        refine r_is2 c129_37 vr_107 rfl (k_many (S := S) hr0 (by omega) ?_)
        dsimp only [vpush]
        refine r_ci c129_40 ?_
        refine r_icne c129_42 (by omega) (by omega) (by omega) (by omega) (fun c_42 => ?_) (fun c_42 => ?_)
        · refine flip ?_
          unfold vfull
          rw [decide_eq_false (by omega), Bool.and_false]
        · refine r_ci c129_45 ?_
          refine r_iret (st := []) c129_47 ?_
          refine kF i y0 rfl rfl (by omega) (by omega) ?_
          unfold vfull
          rw [b, decide_eq_true (by omega)]
          rfl
    · dsimp only [vpush]
      refine r_ifne c129_13 (by omega) (by omega) (fun q => by exfalso; omega) (fun c_13 => ?_)
      refine r_ci c129_16 ?_
      refine r_iret (st := []) c129_18 ?_
      exact kB ⟨p1, p2⟩ q
  · dsimp only [vpush]
    refine r_ifne c129_4 (by omega) (by omega) (fun q => by exfalso; omega) (fun c_4 => ?_)
    refine r_ci c129_7 ?_
    refine r_iret (st := []) c129_8 ?_
    exact kN q
theorem m_out {d c : Nat} {σ : vSg} {x y : Int} {h : vHp} {Q : vQ} (hD : vMD h c σ) (hO : vOk σ) (x1 : -2147483648 ≤ x) (x2 : x ≤ 2147483647) (y1 : -2147483648 ≤ y) (y2 : y ≤ 2147483647) (k : ∀ h', vMD h' c (vS_out σ x y) → vFr (vZd c) h h' → Q (some (.int (iI (vQ_out σ.1 x y)))) h') : vCall (d + 4) 0 0 130 [.ref c, .int (iI x), .int (iI y)] h Q := by
  obtain ⟨a, w, tp, ho⟩ := vMD_o hD
  obtain ⟨hr1, hr2, hr3, hr4⟩ := vMD_rows hD
  refine vin 3 [_, _, _] ml_130 rfl rfl ?_
  refine r_aload c130_0 rfl (r_aload c130_1 rfl (r_get c130_2 ho rfl (r_iload c130_5 rfl (r_iload c130_6 rfl ?_))))
  refine r_iv3 c130_7 vr_129 ho rfl (m_turns hD hO hr3 (Or.inl rfl) x1 x2 y1 y2 (fun i hi => (hO.2.2.2.2.2.1 i hi).1) (fun q => ?_) (fun p q => ?_) (fun i y0 hx hy hi hy0 hf => ?_) (fun i y0 hx hy hi hy0 hf h2 hB2 f2 => ?_))
  · dsimp only [vpush]
    refine r_iret (st := []) c130_10 ?_
    have eQ : vQ_out σ.1 x y = -1 := if_neg q
    have eS : vS_out σ x y = σ := if_neg (fun z => q z.1.1)
    rw [eQ, eS] at k
    exact k h hD vFr_rf
  · dsimp only [vpush]
    refine r_iret (st := []) c130_10 ?_
    have eQ : vQ_out σ.1 x y = -2 := (if_pos p).trans (if_neg q)
    have eS : vS_out σ x y = σ := if_neg (fun z => q z.1.2)
    rw [eQ, eS] at k
    exact k h hD vFr_rf
  · dsimp only [vpush]
    refine r_iret (st := []) c130_10 ?_
    subst hx hy
    have eQ : vQ_out σ.1 (i : Int) (y0 : Int) = -4 := by unfold vQ_out vQ_tog; rw [if_pos ⟨by omega, by omega⟩, if_pos ⟨by omega, by omega⟩, Int.toNat_natCast, Int.toNat_natCast, if_pos hf]
    have eS : vS_out σ (i : Int) (y0 : Int) = σ := by unfold vS_out; rw [Int.toNat_natCast, Int.toNat_natCast, if_neg (fun z => by rw [hf] at z; exact absurd z.2 (by decide))]
    rw [eQ, eS] at k
    exact k h hD vFr_rf
  · subst hx hy
    have eQ : vQ_out σ.1 (i : Int) (y0 : Int) = ((vcn (vfl (σ.1.2.2.1 i) y0) 0 720 : Nat) : Int) := by unfold vQ_out vQ_tog; rw [if_pos ⟨by omega, by omega⟩, if_pos ⟨by omega, by omega⟩, Int.toNat_natCast, Int.toNat_natCast, if_neg (by rw [hf]; decide)]
    have eS : vS_out σ (i : Int) (y0 : Int) = (vNup σ.1 i (σ.1.1 i) (σ.1.2.1 i) (vfl (σ.1.2.2.1 i) y0) (σ.1.2.2.2 i), σ.2.1, vfg σ.2.2.1 (i : Int), σ.2.2.2) := by unfold vS_out; rw [Int.toNat_natCast, Int.toNat_natCast, if_pos ⟨⟨⟨by omega, by omega⟩, by omega, by omega⟩, hf⟩]
    rw [eQ, eS] at k
    refine ⟨vNup σ.1 i (σ.1.1 i) (σ.1.2.1 i) (vfl (σ.1.2.2.1 i) y0) (σ.1.2.2.2 i), vMD_nm hD (vBr_cg (vBr_fr hr1 f2 (by omega)) (fun j _ => ?_)) (vBr_cg (vBr_fr hr2 f2 (by omega)) (fun j _ => vfl2_id j)) hB2 (vBr_cg (vBr_fr hr4 f2 (by omega)) (fun j _ => vfl2_id j)) (vFr_up f2 (fun q e => by omega)), fun h3 hD3 f3 => ?_⟩
    · show σ.1.1 j = vup σ.1.1 i (σ.1.1 i) j
      unfold vup
      by_cases e : j = i
      · rw [if_pos e, e]
      · rw [if_neg e]
    · dsimp only [vpush]
      refine r_iret (st := []) c130_10 ?_
      exact k h3 hD3 f3
theorem m_extra {d c : Nat} {σ : vSg} {x y : Int} {h : vHp} {Q : vQ} (hD : vMD h c σ) (hO : vOk σ) (x1 : -2147483648 ≤ x) (x2 : x ≤ 2147483647) (y1 : -2147483648 ≤ y) (y2 : y ≤ 2147483647) (k : ∀ h', vMD h' c (vS_extra σ x y) → vFr (vZd c) h h' → Q (some (.int (iI (vQ_extra σ.1 x y)))) h') : vCall (d + 4) 0 0 131 [.ref c, .int (iI x), .int (iI y)] h Q := by
  obtain ⟨a, w, tp, ho⟩ := vMD_o hD
  obtain ⟨hr1, hr2, hr3, hr4⟩ := vMD_rows hD
  refine vin 3 [_, _, _] ml_131 rfl rfl ?_
  refine r_aload c131_0 rfl (r_aload c131_1 rfl (r_get c131_2 ho rfl (r_iload c131_5 rfl (r_iload c131_6 rfl ?_))))
  refine r_iv3 c131_7 vr_129 ho rfl (m_turns hD hO hr4 (Or.inr rfl) x1 x2 y1 y2 (fun i hi => (hO.2.2.2.2.2.1 i hi).2) (fun q => ?_) (fun p q => ?_) (fun i y0 hx hy hi hy0 hf => ?_) (fun i y0 hx hy hi hy0 hf h2 hB2 f2 => ?_))
  · dsimp only [vpush]
    refine r_iret (st := []) c131_10 ?_
    have eQ : vQ_extra σ.1 x y = -1 := if_neg q
    have eS : vS_extra σ x y = σ := if_neg (fun z => q z.1.1)
    rw [eQ, eS] at k
    exact k h hD vFr_rf
  · dsimp only [vpush]
    refine r_iret (st := []) c131_10 ?_
    have eQ : vQ_extra σ.1 x y = -2 := (if_pos p).trans (if_neg q)
    have eS : vS_extra σ x y = σ := if_neg (fun z => q z.1.2)
    rw [eQ, eS] at k
    exact k h hD vFr_rf
  · dsimp only [vpush]
    refine r_iret (st := []) c131_10 ?_
    subst hx hy
    have eQ : vQ_extra σ.1 (i : Int) (y0 : Int) = -4 := by unfold vQ_extra vQ_tog; rw [if_pos ⟨by omega, by omega⟩, if_pos ⟨by omega, by omega⟩, Int.toNat_natCast, Int.toNat_natCast, if_pos hf]
    have eS : vS_extra σ (i : Int) (y0 : Int) = σ := by unfold vS_extra; rw [Int.toNat_natCast, Int.toNat_natCast, if_neg (fun z => by rw [hf] at z; exact absurd z.2 (by decide))]
    rw [eQ, eS] at k
    exact k h hD vFr_rf
  · subst hx hy
    have eQ : vQ_extra σ.1 (i : Int) (y0 : Int) = ((vcn (vfl (σ.1.2.2.2 i) y0) 0 720 : Nat) : Int) := by unfold vQ_extra vQ_tog; rw [if_pos ⟨by omega, by omega⟩, if_pos ⟨by omega, by omega⟩, Int.toNat_natCast, Int.toNat_natCast, if_neg (by rw [hf]; decide)]
    have eS : vS_extra σ (i : Int) (y0 : Int) = (vNup σ.1 i (σ.1.1 i) (σ.1.2.1 i) (σ.1.2.2.1 i) (vfl (σ.1.2.2.2 i) y0), σ.2.1, vfg σ.2.2.1 (i : Int), σ.2.2.2) := by unfold vS_extra; rw [Int.toNat_natCast, Int.toNat_natCast, if_pos ⟨⟨⟨by omega, by omega⟩, by omega, by omega⟩, hf⟩]
    rw [eQ, eS] at k
    refine ⟨vNup σ.1 i (σ.1.1 i) (σ.1.2.1 i) (σ.1.2.2.1 i) (vfl (σ.1.2.2.2 i) y0), vMD_nm hD (vBr_cg (vBr_fr hr1 f2 (by omega)) (fun j _ => ?_)) (vBr_cg (vBr_fr hr2 f2 (by omega)) (fun j _ => vfl2_id j)) (vBr_cg (vBr_fr hr3 f2 (by omega)) (fun j _ => vfl2_id j)) hB2 (vFr_up f2 (fun q e => by omega)), fun h3 hD3 f3 => ?_⟩
    · show σ.1.1 j = vup σ.1.1 i (σ.1.1 i) j
      unfold vup
      by_cases e : j = i
      · rw [if_pos e, e]
      · rw [if_neg e]
    · dsimp only [vpush]
      refine r_iret (st := []) c131_10 ?_
      exact k h3 hD3 f3

