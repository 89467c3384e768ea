theorem ml_125 : vml 125 = 4 := by decide +kernel
theorem ml_140 : vml 140 = 6 := by decide +kernel
theorem ml_163 : vml 163 = 7 := by decide +kernel
theorem vr_140 : vrc 140 = some (6, 5) := by decide +kernel
theorem c125_0 : vlk 125 0 = some (1, 0, 0, 0, 1) := by decide +kernel
theorem c125_1 : vlk 125 1 = some (7, 2, 0, 0, 2) := by decide +kernel
theorem c125_2 : vlk 125 2 = some (1, 0, 0, 0, 3) := by decide +kernel
theorem c125_3 : vlk 125 3 = some (7, 3, 0, 0, 4) := by decide +kernel
theorem c125_4 : vlk 125 4 = some (4, 3, 0, 0, 5) := by decide +kernel
theorem c125_5 : vlk 125 5 = some (6, 0, 0, 0, 6) := by decide +kernel
theorem c125_6 : vlk 125 6 = some (42, 6, 15, 0, 9) := by decide +kernel
theorem c125_9 : vlk 125 9 = some (79, 60, 0, 0, 12) := by decide +kernel
theorem c125_12 : vlk 125 12 = some (6, 0, 0, 0, 13) := by decide +kernel
theorem c125_13 : vlk 125 13 = some (42, 6, 16, 0, 16) := by decide +kernel
theorem c125_16 : vlk 125 16 = some (4, 3, 0, 0, 17) := by decide +kernel
theorem c125_17 : vlk 125 17 = some (45, 0, 0, 0, 18) := by decide +kernel
theorem c125_18 : vlk 125 18 = some (4, 1, 0, 0, 19) := by decide +kernel
theorem c125_19 : vlk 125 19 = some (76, 54, 0, 0, 22) := by decide +kernel
theorem c125_22 : vlk 125 22 = some (6, 0, 0, 0, 23) := by decide +kernel
theorem c125_23 : vlk 125 23 = some (4, 2, 0, 0, 24) := by decide +kernel
theorem c125_24 : vlk 125 24 = some (6, 0, 0, 0, 25) := by decide +kernel
theorem c125_25 : vlk 125 25 = some (42, 6, 16, 0, 28) := by decide +kernel
theorem c125_28 : vlk 125 28 = some (4, 3, 0, 0, 29) := by decide +kernel
theorem c125_29 : vlk 125 29 = some (45, 0, 0, 0, 30) := by decide +kernel
theorem c125_30 : vlk 125 30 = some (6, 0, 0, 0, 31) := by decide +kernel
theorem c125_31 : vlk 125 31 = some (42, 6, 17, 0, 34) := by decide +kernel
theorem c125_34 : vlk 125 34 = some (4, 3, 0, 0, 35) := by decide +kernel
theorem c125_35 : vlk 125 35 = some (45, 0, 0, 0, 36) := by decide +kernel
theorem c125_36 : vlk 125 36 = some (6, 0, 0, 0, 37) := by decide +kernel
theorem c125_37 : vlk 125 37 = some (42, 6, 18, 0, 40) := by decide +kernel
theorem c125_40 : vlk 125 40 = some (4, 3, 0, 0, 41) := by decide +kernel
theorem c125_41 : vlk 125 41 = some (45, 0, 0, 0, 42) := by decide +kernel
theorem c125_42 : vlk 125 42 = some (6, 0, 0, 0, 43) := by decide +kernel
theorem c125_43 : vlk 125 43 = some (42, 6, 19, 0, 46) := by decide +kernel
theorem c125_46 : vlk 125 46 = some (4, 3, 0, 0, 47) := by decide +kernel
theorem c125_47 : vlk 125 47 = some (45, 0, 0, 0, 48) := by decide +kernel
theorem c125_48 : vlk 125 48 = some (58, 140, 0, 0, 51) := by decide +kernel
theorem c125_51 : vlk 125 51 = some (10, 2, 0, 1, 54) := by decide +kernel
theorem c125_54 : vlk 125 54 = some (10, 3, 0, 1, 57) := by decide +kernel
theorem c125_57 : vlk 125 57 = some (37, 4, 0, 0, 60) := by decide +kernel
theorem c125_60 : vlk 125 60 = some (6, 0, 0, 0, 61) := by decide +kernel
theorem c125_61 : vlk 125 61 = some (4, 2, 0, 0, 62) := by decide +kernel
theorem c125_62 : vlk 125 62 = some (43, 6, 15, 0, 65) := by decide +kernel
theorem c125_65 : vlk 125 65 = some (66, 0, 0, 0, 66) := by decide +kernel
theorem c140_0 : vlk 140 0 = some (6, 0, 0, 0, 1) := by decide +kernel
theorem c140_1 : vlk 140 1 = some (42, 6, 16, 0, 4) := by decide +kernel
theorem c140_4 : vlk 140 4 = some (4, 1, 0, 0, 5) := by decide +kernel
theorem c140_5 : vlk 140 5 = some (4, 2, 0, 0, 6) := by decide +kernel
theorem c140_6 : vlk 140 6 = some (49, 0, 0, 0, 7) := by decide +kernel
theorem c140_7 : vlk 140 7 = some (6, 0, 0, 0, 8) := by decide +kernel
theorem c140_8 : vlk 140 8 = some (42, 6, 17, 0, 11) := by decide +kernel
theorem c140_11 : vlk 140 11 = some (4, 1, 0, 0, 12) := by decide +kernel
theorem c140_12 : vlk 140 12 = some (4, 3, 0, 0, 13) := by decide +kernel
theorem c140_13 : vlk 140 13 = some (49, 0, 0, 0, 14) := by decide +kernel
theorem c140_14 : vlk 140 14 = some (6, 0, 0, 0, 15) := by decide +kernel
theorem c140_15 : vlk 140 15 = some (42, 6, 18, 0, 18) := by decide +kernel
theorem c140_18 : vlk 140 18 = some (4, 1, 0, 0, 19) := by decide +kernel
theorem c140_19 : vlk 140 19 = some (4, 4, 0, 0, 21) := by decide +kernel
theorem c140_21 : vlk 140 21 = some (49, 0, 0, 0, 22) := by decide +kernel
theorem c140_22 : vlk 140 22 = some (6, 0, 0, 0, 23) := by decide +kernel
theorem c140_23 : vlk 140 23 = some (42, 6, 19, 0, 26) := by decide +kernel
theorem c140_26 : vlk 140 26 = some (4, 1, 0, 0, 27) := by decide +kernel
theorem c140_27 : vlk 140 27 = some (4, 5, 0, 0, 29) := by decide +kernel
theorem c140_29 : vlk 140 29 = some (49, 0, 0, 0, 30) := by decide +kernel
theorem c140_30 : vlk 140 30 = some (66, 0, 0, 0, 31) := by decide +kernel
theorem c163_0 : vlk 163 0 = some (4, 1, 0, 0, 1) := by decide +kernel
theorem c163_1 : vlk 163 1 = some (59, 159, 0, 0, 4) := by decide +kernel
theorem c163_4 : vlk 163 4 = some (70, 14, 0, 0, 7) := by decide +kernel
theorem c163_7 : vlk 163 7 = some (4, 3, 0, 0, 8) := by decide +kernel
theorem c163_8 : vlk 163 8 = some (59, 159, 0, 0, 11) := by decide +kernel
theorem c163_11 : vlk 163 11 = some (71, 16, 0, 0, 14) := by decide +kernel
theorem c163_14 : vlk 163 14 = some (1, 0, 0, (-1), 15) := by decide +kernel
theorem c163_15 : vlk 163 15 = some (63, 0, 0, 0, 16) := by decide +kernel
theorem c163_16 : vlk 163 16 = some (6, 0, 0, 0, 17) := by decide +kernel
theorem c163_17 : vlk 163 17 = some (42, 6, 22, 0, 20) := by decide +kernel
theorem c163_20 : vlk 163 20 = some (4, 1, 0, 0, 21) := by decide +kernel
theorem c163_21 : vlk 163 21 = some (45, 0, 0, 0, 22) := by decide +kernel
theorem c163_22 : vlk 163 22 = some (72, 34, 0, 0, 25) := by decide +kernel
theorem c163_25 : vlk 163 25 = some (6, 0, 0, 0, 26) := by decide +kernel
theorem c163_26 : vlk 163 26 = some (42, 6, 22, 0, 29) := by decide +kernel
theorem c163_29 : vlk 163 29 = some (4, 3, 0, 0, 30) := by decide +kernel
theorem c163_30 : vlk 163 30 = some (45, 0, 0, 0, 31) := by decide +kernel
theorem c163_31 : vlk 163 31 = some (73, 37, 0, 0, 34) := by decide +kernel
theorem c163_34 : vlk 163 34 = some (1, 0, 0, (-11), 36) := by decide +kernel
theorem c163_36 : vlk 163 36 = some (63, 0, 0, 0, 37) := by decide +kernel
theorem c163_37 : vlk 163 37 = some (4, 5, 0, 0, 39) := by decide +kernel
theorem c163_39 : vlk 163 39 = some (72, 78, 0, 0, 42) := by decide +kernel
theorem c163_42 : vlk 163 42 = some (4, 2, 0, 0, 43) := by decide +kernel
theorem c163_43 : vlk 163 43 = some (72, 78, 0, 0, 46) := by decide +kernel
theorem c163_46 : vlk 163 46 = some (4, 4, 0, 0, 48) := by decide +kernel
theorem c163_48 : vlk 163 48 = some (72, 78, 0, 0, 51) := by decide +kernel
theorem c163_51 : vlk 163 51 = some (4, 5, 0, 0, 53) := by decide +kernel
theorem c163_53 : vlk 163 53 = some (6, 0, 0, 0, 54) := by decide +kernel
theorem c163_54 : vlk 163 54 = some (42, 6, 22, 0, 57) := by decide +kernel
theorem c163_57 : vlk 163 57 = some (4, 1, 0, 0, 58) := by decide +kernel
theorem c163_58 : vlk 163 58 = some (45, 0, 0, 0, 59) := by decide +kernel
theorem c163_59 : vlk 163 59 = some (4, 2, 0, 0, 60) := by decide +kernel
theorem c163_60 : vlk 163 60 = some (12, 0, 0, 0, 61) := by decide +kernel
theorem c163_61 : vlk 163 61 = some (80, 78, 0, 0, 64) := by decide +kernel
theorem c163_64 : vlk 163 64 = some (4, 5, 0, 0, 66) := by decide +kernel
theorem c163_66 : vlk 163 66 = some (6, 0, 0, 0, 67) := by decide +kernel
theorem c163_67 : vlk 163 67 = some (42, 6, 22, 0, 70) := by decide +kernel
theorem c163_70 : vlk 163 70 = some (4, 3, 0, 0, 71) := by decide +kernel
theorem c163_71 : vlk 163 71 = some (45, 0, 0, 0, 72) := by decide +kernel
theorem c163_72 : vlk 163 72 = some (4, 4, 0, 0, 74) := by decide +kernel
theorem c163_74 : vlk 163 74 = some (12, 0, 0, 0, 75) := by decide +kernel
theorem c163_75 : vlk 163 75 = some (81, 81, 0, 0, 78) := by decide +kernel
theorem c163_78 : vlk 163 78 = some (1, 0, 0, (-13), 80) := by decide +kernel
theorem c163_80 : vlk 163 80 = some (63, 0, 0, 0, 81) := by decide +kernel
theorem c163_81 : vlk 163 81 = some (1, 0, 0, 0, 82) := by decide +kernel
theorem c163_82 : vlk 163 82 = some (7, 6, 0, 0, 84) := by decide +kernel
theorem c163_84 : vlk 163 84 = some (4, 6, 0, 0, 86) := by decide +kernel
theorem c163_86 : vlk 163 86 = some (4, 5, 0, 0, 88) := by decide +kernel
theorem c163_88 : vlk 163 88 = some (79, 118, 0, 0, 91) := by decide +kernel
theorem c163_91 : vlk 163 91 = some (6, 0, 0, 0, 92) := by decide +kernel
theorem c163_92 : vlk 163 92 = some (42, 6, 24, 0, 95) := by decide +kernel
theorem c163_95 : vlk 163 95 = some (4, 6, 0, 0, 97) := by decide +kernel
theorem c163_97 : vlk 163 97 = some (6, 0, 0, 0, 98) := by decide +kernel
theorem c163_98 : vlk 163 98 = some (42, 6, 23, 0, 101) := by decide +kernel
theorem c163_101 : vlk 163 101 = some (1, 0, 0, 30, 103) := by decide +kernel
theorem c163_103 : vlk 163 103 = some (4, 1, 0, 0, 104) := by decide +kernel
theorem c163_104 : vlk 163 104 = some (13, 0, 0, 0, 105) := by decide +kernel
theorem c163_105 : vlk 163 105 = some (4, 2, 0, 0, 106) := by decide +kernel
theorem c163_106 : vlk 163 106 = some (11, 0, 0, 0, 107) := by decide +kernel
theorem c163_107 : vlk 163 107 = some (4, 6, 0, 0, 109) := by decide +kernel
theorem c163_109 : vlk 163 109 = some (11, 0, 0, 0, 110) := by decide +kernel
theorem c163_110 : vlk 163 110 = some (45, 0, 0, 0, 111) := by decide +kernel
theorem c163_111 : vlk 163 111 = some (49, 0, 0, 0, 112) := by decide +kernel
theorem c163_112 : vlk 163 112 = some (10, 6, 0, 1, 115) := by decide +kernel
theorem c163_115 : vlk 163 115 = some (37, 84, 0, 0, 118) := by decide +kernel
theorem c163_118 : vlk 163 118 = some (1, 0, 0, 0, 119) := by decide +kernel
theorem c163_119 : vlk 163 119 = some (7, 6, 0, 0, 121) := by decide +kernel
theorem c163_121 : vlk 163 121 = some (4, 6, 0, 0, 123) := by decide +kernel
theorem c163_123 : vlk 163 123 = some (4, 5, 0, 0, 125) := by decide +kernel
theorem c163_125 : vlk 163 125 = some (79, 156, 0, 0, 128) := by decide +kernel
theorem c163_128 : vlk 163 128 = some (6, 0, 0, 0, 129) := by decide +kernel
theorem c163_129 : vlk 163 129 = some (42, 6, 23, 0, 132) := by decide +kernel
theorem c163_132 : vlk 163 132 = some (1, 0, 0, 30, 134) := by decide +kernel
theorem c163_134 : vlk 163 134 = some (4, 3, 0, 0, 135) := by decide +kernel
theorem c163_135 : vlk 163 135 = some (13, 0, 0, 0, 136) := by decide +kernel
theorem c163_136 : vlk 163 136 = some (4, 4, 0, 0, 138) := by decide +kernel
theorem c163_138 : vlk 163 138 = some (11, 0, 0, 0, 139) := by decide +kernel
theorem c163_139 : vlk 163 139 = some (4, 6, 0, 0, 141) := by decide +kernel
theorem c163_141 : vlk 163 141 = some (11, 0, 0, 0, 142) := by decide +kernel
theorem c163_142 : vlk 163 142 = some (6, 0, 0, 0, 143) := by decide +kernel
theorem c163_143 : vlk 163 143 = some (42, 6, 24, 0, 146) := by decide +kernel
theorem c163_146 : vlk 163 146 = some (4, 6, 0, 0, 148) := by decide +kernel
theorem c163_148 : vlk 163 148 = some (45, 0, 0, 0, 149) := by decide +kernel
theorem c163_149 : vlk 163 149 = some (49, 0, 0, 0, 150) := by decide +kernel
theorem c163_150 : vlk 163 150 = some (10, 6, 0, 1, 153) := by decide +kernel
theorem c163_153 : vlk 163 153 = some (37, 121, 0, 0, 156) := by decide +kernel
theorem c163_156 : vlk 163 156 = some (4, 5, 0, 0, 158) := by decide +kernel
theorem c163_158 : vlk 163 158 = some (63, 0, 0, 0, 159) := by decide +kernel
/-! the reference: moving; what is remembered -/
theorem m_move {d c : Nat} {σ : vSg} {x y z u v : Int} {h : vHp} {Q : vQ} (hD : vMD h c σ) (hO : vOk σ) (x1 : -2147483648 ≤ x) (x2 : x ≤ 2147483647) (y1 : -2147483648 ≤ y) (y2 : y ≤ 2147483647) (z1 : -2147483648 ≤ z) (z2 : z ≤ 2147483647) (u1 : -2147483648 ≤ u) (u2 : u ≤ 2147483647) (v1 : -2147483648 ≤ v) (v2 : v ≤ 2147483647) (k : ∀ h', vMD h' c (vS_move σ x y z u v) → vFr (vZd c) h h' → Q (some (.int (iI (vQ_move σ.2.2.2.2 x y z u v)))) h') : vCall (d + 3) 0 0 163 [.ref c, .int (iI x), .int (iI y), .int (iI z), .int (iI u), .int (iI v)] h Q := by
  obtain ⟨a, w, tp, ho⟩ := vMD_o hD
  have hlo := vMD_lo hD
  have hD0 := hD
  obtain ⟨-, -, -, -, ⟨f, g, m, e1, e2, e3, e4⟩⟩ := hD
  have no : ¬ ((0 ≤ x ∧ x < 4) ∧ 0 ≤ z ∧ z < 4) → ∀ x6 : Value, vW (vCall (d + 2)) 163 Q 14 [.ref c, .int (iI x), .int (iI y), .int (iI z), .int (iI u), .int (iI v), x6] [] h 0 0 := fun q x6 => by
    have eS : vS_move σ x y z u v = σ := if_neg q
    have eQ : vQ_move σ.2.2.2.2 x y z u v = -1 := if_neg q
    rw [eS, eQ] at k
    refine r_ci c163_14 ?_
    refine r_iret (st := []) c163_15 ?_
    exact k h hD0 vFr_rf
  refine vin 7 [_, _, _, _, _, _, _] ml_163 rfl rfl ?_
  refine r_iload c163_0 rfl ?_
  refine r_is1 c163_1 vr_159 rfl (k_mList x1 x2 (fun p1 p2 => ?_) (fun q => ?_))
  · dsimp only [vpush]
    refine r_ifeq c163_4 (by omega) (by omega) (fun q => by exfalso; omega) (fun c_4 => ?_)
    refine r_iload c163_7 rfl ?_
    refine r_is1 c163_8 vr_159 rfl (k_mList z1 z2 (fun r1 r2 => ?_) (fun q => ?_))
    · dsimp only [vpush]
      obtain ⟨i, rfl⟩ := Int.eq_ofNat_of_zero_le p1
      obtain ⟨j, rfl⟩ := Int.eq_ofNat_of_zero_le r1
      have hi4 := e4 i (by omega)
      have hj4 := e4 j (by omega)
      have nothing : vmo2 σ.2.2.2.2 (i : Int) (j : Int) = none → ∀ x6 : Value, vW (vCall (d + 2)) 163 Q 34 [.ref c, .int (iI (i : Int)), .int (iI y), .int (iI (j : Int)), .int (iI u), .int (iI v), x6] [] h 0 0 := fun q x6 => by
        have eS : vS_move σ (i : Int) y (j : Int) u v = σ := by unfold vS_move; rw [if_pos ⟨⟨p1, p2⟩, r1, r2⟩, q]
        have eQ : vQ_move σ.2.2.2.2 (i : Int) y (j : Int) u v = -11 := by unfold vQ_move; rw [if_pos ⟨⟨p1, p2⟩, r1, r2⟩, q]
        rw [eS, eQ] at k
        refine r_ci c163_34 ?_
        refine r_iret (st := []) c163_36 ?_
        exact k h hD0 vFr_rf
      refine r_ifne c163_11 (by omega) (by omega) (fun c_11 => ?_) (fun q => by exfalso; omega)
      refine r_aload c163_16 rfl (r_get c163_17 ho rfl (r_iload c163_20 rfl (r_iald c163_21 e1 (by omega) (by omega) ?_)))
      rw [Int.toNat_natCast]
      cases hl : σ.2.2.2.2 i with
      | none =>
        rw [hl] at hi4
        rw [show f i = -1 from hi4]
        refine r_iflt c163_22 (by omega) (by omega) (fun c_22 => ?_) (fun q => by exfalso; omega)
        exact nothing (by unfold vmo2; rw [Int.toNat_natCast, Int.toNat_natCast, hl]) _
      | some np =>
        obtain ⟨n1, q1⟩ := np
        have hn1 := (hO.2.2.2.2.1 i n1 q1 (by omega) hl).1
        rw [hl] at hi4
        rw [hi4.1]
        refine r_iflt c163_22 (by omega) (by omega) (fun q => by exfalso; omega) (fun c_22 => ?_)
        refine r_aload c163_25 rfl (r_get c163_26 ho rfl (r_iload c163_29 rfl (r_iald c163_30 e1 (by omega) (by omega) ?_)))
        rw [Int.toNat_natCast]
        cases hm : σ.2.2.2.2 j with
        | none =>
          rw [hm] at hj4
          rw [show f j = -1 from hj4]
          refine r_ifge c163_31 (by omega) (by omega) (fun q => by exfalso; omega) (fun c_31 => ?_)
          exact nothing (by unfold vmo2; rw [Int.toNat_natCast, Int.toNat_natCast, hl, hm]) _
        | some nq =>
          obtain ⟨n2, q2⟩ := nq
          have hn2 := (hO.2.2.2.2.1 j n2 q2 (by omega) hm).1
          rw [hm] at hj4
          rw [hj4.1]
          have em : vmo2 σ.2.2.2.2 (i : Int) (j : Int) = some ((n1, q1), (n2, q2)) := by unfold vmo2; rw [Int.toNat_natCast, Int.toNat_natCast, hl, hm]
          have eS : vS_move σ (i : Int) y (j : Int) u v = (if vmc n1 n2 y u v then vLu σ j (some (n2, vcpy q1 q2 y.toNat u.toNat v.toNat)) else σ) := by unfold vS_move; rw [if_pos ⟨⟨p1, p2⟩, r1, r2⟩, em, Int.toNat_natCast]
          have eQ : vQ_move σ.2.2.2.2 (i : Int) y (j : Int) u v = (if vmc n1 n2 y u v then v else -13) := by unfold vQ_move; rw [if_pos ⟨⟨p1, p2⟩, r1, r2⟩, em]
          rw [eS, eQ] at k
          have bey : ¬ vmc n1 n2 y u v → ∀ x6 : Value, vW (vCall (d + 2)) 163 Q 78 [.ref c, .int (iI (i : Int)), .int (iI y), .int (iI (j : Int)), .int (iI u), .int (iI v), x6] [] h 0 0 := fun q x6 => by
            rw [if_neg q, if_neg q] at k
            refine r_ci c163_78 ?_
            refine r_iret (st := []) c163_80 ?_
            exact k h hD0 vFr_rf
          refine r_ifge c163_31 (by omega) (by omega) (fun c_31 => ?_) (fun q => by exfalso; omega)
          refine r_iload c163_37 rfl ?_
          refine r_iflt c163_39 (by omega) (by omega) (fun c_39 => ?_) (fun c_39 => ?_)
          · exact bey (fun q => by omega) _
          · refine r_iload c163_42 rfl ?_
            refine r_iflt c163_43 (by omega) (by omega) (fun c_43 => ?_) (fun c_43 => ?_)
            · exact bey (fun q => by omega) _
            · refine r_iload c163_46 rfl ?_
              refine r_iflt c163_48 (by omega) (by omega) (fun c_48 => ?_) (fun c_48 => ?_)
              · exact bey (fun q => by omega) _
              · refine r_iload c163_51 rfl (r_aload c163_53 rfl (r_get c163_54 ho rfl (r_iload c163_57 rfl (r_iald c163_58 e1 (by omega) (by omega) ?_))))
                rw [Int.toNat_natCast, hi4.1]
                refine r_iload c163_59 rfl (r_isub c163_60 ?_)
                refine r_icgt c163_61 (by omega) (by omega) (by omega) (by omega) (fun c_61 => ?_) (fun c_61 => ?_)
                · exact bey (fun q => by omega) _
                · refine r_iload c163_64 rfl (r_aload c163_66 rfl (r_get c163_67 ho rfl (r_iload c163_70 rfl (r_iald c163_71 e1 (by omega) (by omega) ?_))))
                  rw [Int.toNat_natCast, hj4.1]
                  refine r_iload c163_72 rfl (r_isub c163_74 ?_)
                  refine r_icle c163_75 (by omega) (by omega) (by omega) (by omega) (fun c_75 => ?_) (fun c_75 => ?_)
                  · have hc : vmc n1 n2 y u v := ⟨by omega, by omega, by omega, by omega, by omega⟩
                    rw [if_pos hc, if_pos hc] at k
                    obtain ⟨y0, rfl⟩ := Int.eq_ofNat_of_zero_le c_43
                    obtain ⟨u0, rfl⟩ := Int.eq_ofNat_of_zero_le c_48
                    obtain ⟨v0, rfl⟩ := Int.eq_ofNat_of_zero_le c_39
                    rw [Int.toNat_natCast, Int.toNat_natCast, Int.toNat_natCast] at k
                    have loop2 : ∀ s t : Nat, t + s = v0 → ∀ (h3 : vHp) (g3 m3 : Nat → Int), hg h3 (c + 16) = some (.inl (0, 120, .inl g3)) → hg h3 (c + 17) = some (.inl (0, 30, .inl m3)) → (∀ r, r < v0 → m3 r = g (30 * i + y0 + r)) → vfiI g g3 (30 * j + u0) (fun r => g (30 * i + y0 + r)) t → vFr (fun q => c + 16 ≤ q ∧ q < c + 18) h h3 → vW (vCall (d + 2)) 163 Q 121 [.ref c, .int (iI (i : Int)), .int (iI (y0 : Int)), .int (iI (j : Int)), .int (iI (u0 : Int)), .int (iI (v0 : Int)), .int (iI (t : Int))] [] h3 0 0 := by
                      intro s
                      induction s with
                      | zero =>
                        intro t ht h3 g3 m3 hg3 hm3 hmr hf3 f3
                        obtain rfl : t = v0 := by omega
                        have f4 : vFr (fun q => c + 15 ≤ q ∧ q < c + 18) h h3 := vFr_up f3 (fun q e => by omega)
                        refine r_iload c163_121 rfl (r_iload c163_123 rfl ?_)
                        refine r_icge c163_125 (by omega) (by omega) (by omega) (by omega) (fun c_125 => ?_) (fun q => by exfalso; omega)
                        refine r_iload c163_156 rfl ?_
                        refine r_iret (st := []) c163_158 ?_
                        refine k h3 (vMD_l hD0 ⟨f, g3, m3, (f3.2.2 _ (by omega)).trans e1, hg3, hm3, vLi_up e4 ⟨hj4.1, fun r hr => ?_⟩ (fun r hr => rfl) (fun r hr => hf3.2 r (by omega))⟩ f4) (vZd_l f4)
                        unfold vcpy
                        by_cases q : u0 ≤ r ∧ r < u0 + t
                        · rw [if_pos q]
                          have e0 := hf3.1 (r - u0) (by omega)
                          dsimp only at e0
                          rw [show 30 * j + u0 + (r - u0) = 30 * j + r by omega, show 30 * i + y0 + (r - u0) = 30 * i + (y0 + (r - u0)) by omega, hi4.2 _ (by omega)] at e0
                          exact e0
                        · rw [if_neg q, hf3.2 _ (by omega)]
                          exact hj4.2 r hr
                      | succ s ih =>
                        intro t ht h3 g3 m3 hg3 hm3 hmr hf3 f3
                        have ho3 := (f3.2.2 c (by omega)).trans ho
                        refine r_iload c163_121 rfl (r_iload c163_123 rfl ?_)
                        refine r_icge c163_125 (by omega) (by omega) (by omega) (by omega) (fun q => by exfalso; omega) (fun c_125 => ?_)
                        refine r_aload c163_128 rfl (r_get c163_129 ho3 rfl (r_ci c163_132 (r_iload c163_134 rfl (r_imul c163_135 (r_iload c163_136 rfl (r_iadd c163_138 (r_iload c163_139 rfl (r_iadd c163_141 (r_aload c163_142 rfl (r_get c163_143 ho3 rfl (r_iload c163_146 rfl (r_iald c163_148 hm3 (by omega) (by omega) ?_))))))))))))
                        rw [Int.toNat_natCast, hmr t (by omega)]
                        refine r_iast c163_149 hg3 (by rw [f3.1]; omega) (by omega) (by omega) (fun h5 s5 => ?_)
                        refine r_iinc c163_150 rfl rfl (r_goto c163_153 ?_)
                        try dsimp only [vst]
                        rw [vsu]
                        rw [show ((30 : Int) * (j : Int) + (u0 : Int) + (t : Int)).toNat = 30 * j + u0 + t by omega] at s5
                        exact ih (t + 1) (by omega) h5 _ m3 s5.2.2.1 ((s5.2.2.2 _ (by omega)).trans hm3) hmr (vfiI_su hf3 rfl) (vFr_tr f3 (vFr_up (vFr_st s5) (fun q e => by omega)))
                    have loop1 : ∀ s t : Nat, t + s = v0 → ∀ (h3 : vHp) (m3 : Nat → Int), hg h3 (c + 17) = some (.inl (0, 30, .inl m3)) → (∀ r, r < t → m3 r = g (30 * i + y0 + r)) → vFr (fun q => q = c + 17) h h3 → vW (vCall (d + 2)) 163 Q 84 [.ref c, .int (iI (i : Int)), .int (iI (y0 : Int)), .int (iI (j : Int)), .int (iI (u0 : Int)), .int (iI (v0 : Int)), .int (iI (t : Int))] [] h3 0 0 := by
                      intro s
                      induction s with
                      | zero =>
                        intro t ht h3 m3 hm3 hmr f3
                        refine r_iload c163_84 rfl (r_iload c163_86 rfl ?_)
                        refine r_icge c163_88 (by omega) (by omega) (by omega) (by omega) (fun c_88 => ?_) (fun q => by exfalso; omega)
                        refine r_ci c163_118 (r_istore c163_119 rfl ?_)
                        try dsimp only [vst]
                        exact loop2 v0 0 (by omega) h3 g m3 ((f3.2.2 _ (by omega)).trans e2) hm3 (fun r hr => hmr r (by omega)) vfiI_0 (vFr_up f3 (fun q e => by omega))
                      | succ s ih =>
                        intro t ht h3 m3 hm3 hmr f3
                        have ho3 := (f3.2.2 c (by omega)).trans ho
                        have e23 := (f3.2.2 (c + 16) (by omega)).trans e2
                        refine r_iload c163_84 rfl (r_iload c163_86 rfl ?_)
                        refine r_icge c163_88 (by omega) (by omega) (by omega) (by omega) (fun q => by exfalso; omega) (fun c_88 => ?_)
                        refine r_aload c163_91 rfl (r_get c163_92 ho3 rfl (r_iload c163_95 rfl (r_aload c163_97 rfl (r_get c163_98 ho3 rfl (r_ci c163_101 (r_iload c163_103 rfl (r_imul c163_104 (r_iload c163_105 rfl (r_iadd c163_106 (r_iload c163_107 rfl (r_iadd c163_109 (r_iald c163_110 e23 (by omega) (by omega) ?_))))))))))))
                        rw [show ((30 : Int) * (i : Int) + (y0 : Int) + (t : Int)).toNat = 30 * i + y0 + t by omega]
                        refine r_iast c163_111 hm3 (by rw [f3.1]; omega) (by omega) (by omega) (fun h5 s5 => ?_)
                        refine r_iinc c163_112 rfl rfl (r_goto c163_115 ?_)
                        try dsimp only [vst]
                        rw [vsu]
                        rw [Int.toNat_natCast] at s5
                        refine ih (t + 1) (by omega) h5 _ s5.2.2.1 (fun r hr => ?_) (vFr_tr f3 (vFr_st s5))
                        unfold vup
                        by_cases e : r = t
                        · rw [if_pos e, e]
                        · rw [if_neg e]; exact hmr r (by omega)
                    refine r_ci c163_81 (r_istore c163_82 rfl ?_)
                    try dsimp only [vst]
                    exact loop1 v0 0 (by omega) h m e3 (fun r hr => absurd hr (by omega)) vFr_rf
                  · exact bey (fun q => by omega) _
    · dsimp only [vpush]
      refine r_ifne c163_11 (by omega) (by omega) (fun q => by exfalso; omega) (fun c_11 => ?_)
      exact no (fun z => q z.2) _
  · dsimp only [vpush]
    refine r_ifeq c163_4 (by omega) (by omega) (fun c_4 => ?_) (fun q => by exfalso; omega)
    exact no (fun z => q z.1) _
theorem vup_f {α β : Type} (f : Nat → α) (k : Nat) (s : α) (p : α → β) : vup (fun i => p (f i)) k (p s) = fun i => p (vup f k s i) := by
  funext i
  unfold vup
  split <;> rfl
theorem m_puts {d c k sp n a tp : Nat} {kp w : Bool} {hi mi x y z v : Int} {g : Nat → vSp} {h : vHp} {Q : vQ} (ho : hg h c = some (.inr (6, vMF c kp n a w tp sp hi mi))) (hS : vSr h c g) (hlo : h.1.1 ≤ c) (hk : k < 7) (K : ∀ h', vSr h' c (vup g k (x, y, z, v)) → vFr (fun q => c + 11 ≤ q ∧ q < c + 15) h h' → Q none h') : vCall (d + 1) 0 0 140 [.ref c, .int (iI (k : Int)), .int (iI x), .int (iI y), .int (iI z), .int (iI v)] h Q := by
  obtain ⟨a1, a2, a3, a4⟩ := hS
  refine vin 6 [_, _, _, _, _, _] ml_140 rfl rfl ?_
  refine r_aload c140_0 rfl (r_get c140_1 ho rfl (r_iload c140_4 rfl (r_iload c140_5 rfl ?_)))
  refine r_iast c140_6 a1 (by omega) (by omega) (by omega) (fun h1 s1 => ?_)
  have ho1 := (s1.2.2.2 c (by omega)).trans ho
  have b2 := (s1.2.2.2 (c + 12) (by omega)).trans a2
  refine r_aload c140_7 rfl (r_get c140_8 ho1 rfl (r_iload c140_11 rfl (r_iload c140_12 rfl ?_)))
  refine r_iast c140_13 b2 (by rw [s1.1]; omega) (by omega) (by omega) (fun h2 s2 => ?_)
  have ho2 := (s2.2.2.2 c (by omega)).trans ho1
  have b3 := (s2.2.2.2 (c + 13) (by omega)).trans ((s1.2.2.2 (c + 13) (by omega)).trans a3)
  refine r_aload c140_14 rfl (r_get c140_15 ho2 rfl (r_iload c140_18 rfl (r_iload c140_19 rfl ?_)))
  refine r_iast c140_21 b3 (by rw [s2.1, s1.1]; omega) (by omega) (by omega) (fun h3 s3 => ?_)
  have ho3 := (s3.2.2.2 c (by omega)).trans ho2
  have b4 := (s3.2.2.2 (c + 14) (by omega)).trans ((s2.2.2.2 (c + 14) (by omega)).trans ((s1.2.2.2 (c + 14) (by omega)).trans a4))
  refine r_aload c140_22 rfl (r_get c140_23 ho3 rfl (r_iload c140_26 rfl (r_iload c140_27 rfl ?_)))
  refine r_iast c140_29 b4 (by rw [s3.1, s2.1, s1.1]; omega) (by omega) (by omega) (fun h4 s4 => ?_)
  refine r_vret (st := []) c140_30 ?_
  have d1 := (s4.2.2.2 (c + 11) (by omega)).trans ((s3.2.2.2 (c + 11) (by omega)).trans ((s2.2.2.2 (c + 11) (by omega)).trans s1.2.2.1))
  have d2 := (s4.2.2.2 (c + 12) (by omega)).trans ((s3.2.2.2 (c + 12) (by omega)).trans s2.2.2.1)
  have d3 := (s4.2.2.2 (c + 13) (by omega)).trans s3.2.2.1
  have d4 := s4.2.2.1
  rw [Int.toNat_natCast] at d1 d2 d3 d4
  rw [show x = (fun s : vSp => s.1) (x, y, z, v) from rfl, vup_f g k (x, y, z, v) (fun s => s.1)] at d1
  rw [show y = (fun s : vSp => s.2.1) (x, y, z, v) from rfl, vup_f g k (x, y, z, v) (fun s => s.2.1)] at d2
  rw [show z = (fun s : vSp => s.2.2.1) (x, y, z, v) from rfl, vup_f g k (x, y, z, v) (fun s => s.2.2.1)] at d3
  rw [show v = (fun s : vSp => s.2.2.2) (x, y, z, v) from rfl, vup_f g k (x, y, z, v) (fun s => s.2.2.2)] at d4
  exact K h4 ⟨d1, d2, d3, d4⟩ (vFr_tr (vFr_up (vFr_st s1) (fun q e => by omega)) (vFr_tr (vFr_up (vFr_st s2) (fun q e => by omega)) (vFr_tr (vFr_up (vFr_st s3) (fun q e => by omega)) (vFr_up (vFr_st s4) (fun q e => by omega)))))
/-- rows are pushed together: those of the first i that stay, then the others as they were -/
def vcR (l : List vSp) (P : vSp → Bool) (g : Nat → vSp) (i : Nat) : Prop := (∀ j s, ((l.take i).filter P)[j]? = some s → g j = s) ∧ ∀ j s, i ≤ j → l[j]? = some s → g j = s
theorem vcR_len (l : List vSp) (P : vSp → Bool) (i : Nat) : ((l.take i).filter P).length ≤ i := Nat.le_trans (List.length_filter_le _ _) (by rw [List.length_take]; omega)
theorem vcR_keep {l : List vSp} {P : vSp → Bool} {g : Nat → vSp} {i : Nat} {s : vSp} (hR : vcR l P g i) (hs : l[i]? = some s) (hp : P s = true) : vcR l P (vup g ((l.take i).filter P).length s) (i + 1) ∧ ((l.take (i + 1)).filter P).length = ((l.take i).filter P).length + 1 := by
  have hl := vcR_len l P i
  have ef : (l.take (i + 1)).filter P = (l.take i).filter P ++ [s] := by
    rw [List.take_add_one, hs]
    show (l.take i ++ [s]).filter P = _
    rw [List.filter_append, List.filter_cons_of_pos hp]
    rfl
  refine ⟨⟨fun j t ht => ?_, fun j t hj ht => ?_⟩, by rw [ef, List.length_append]; rfl⟩
  · rw [ef, List.getElem?_append] at ht
    unfold vup
    by_cases q : j < ((l.take i).filter P).length
    · rw [if_pos q] at ht
      rw [if_neg (by omega)]
      exact hR.1 j t ht
    · rw [if_neg q] at ht
      by_cases q2 : j = ((l.take i).filter P).length
      · rw [if_pos q2]
        rw [q2, Nat.sub_self] at ht
        simpa using ht
      · rw [List.getElem?_eq_none (by simp; omega)] at ht
        cases ht
  · unfold vup
    rw [if_neg (by omega)]
    exact hR.2 j t (by omega) ht
theorem vcR_drop {l : List vSp} {P : vSp → Bool} {g : Nat → vSp} {i : Nat} {s : vSp} (hR : vcR l P g i) (hs : l[i]? = some s) (hp : ¬ P s = true) : vcR l P g (i + 1) ∧ ((l.take (i + 1)).filter P).length = ((l.take i).filter P).length := by
  have ef : (l.take (i + 1)).filter P = (l.take i).filter P := by
    rw [List.take_add_one, hs]
    show (l.take i ++ [s]).filter P = _
    rw [List.filter_append, List.filter_cons_of_neg hp]
    exact List.append_nil _
  exact ⟨⟨fun j t ht => hR.1 j t (by rw [← ef]; exact ht), fun j t hj ht => hR.2 j t (by omega) ht⟩, by rw [ef]⟩
/-- the spans change -/
theorem vMD_m {h h1 : vHp} {c a tp : Nat} {w : Bool} {σ : vSg} {l : List vSp} {hi mi : Int} (hD : vMD h c σ) (ho : hg h1 c = some (.inr (6, vMF c σ.2.1.1 σ.2.2.2.1.1 a w tp l.length hi mi))) (hs : vMs h1 c l) (f : vFr (fun q => q = c ∨ (c + 11 ≤ q ∧ q < c + 15)) h h1) : vMD h1 c (σ.1, σ.2.1, (l, hi, mi), σ.2.2.2) := by
  obtain ⟨⟨a0, w0, tp0, G, b1, b2, b3, ⟨b4, b5, b6⟩, b7, b8⟩, hr, ht, -, hl⟩ := hD
  exact ⟨⟨a, w, tp, G, ho, vBr_fr b2 f (by omega), (f.2.2 _ (by omega)).trans b3, ⟨vBr_fr b4 f (by omega), vBr_fr b5 f (by omega), vBr_fr b6 f (by omega)⟩, by rw [f.1]; exact b7, b8⟩, vBr_fr hr f (by omega), vMt_fr ht f (fun q e1 e2 => by omega), hs, vMl_fr hl f (fun q e1 e2 => by omega)⟩
theorem m_forgets {d c : Nat} {σ : vSg} {x : Int} {h : vHp} {Q : vQ} (hD : vMD h c σ) (hlen : σ.2.2.1.1.length ≤ 6) (hb : ∀ s, s ∈ σ.2.2.1.1 → 0 ≤ s.1 ∧ s.1 ≤ 1000) (x1 : -2147483648 ≤ x) (x2 : x ≤ 2147483647) (k : ∀ h', vMD h' c (σ.1, σ.2.1, vfg σ.2.2.1 x, σ.2.2.2) → vFr (fun q => q = c ∨ (c + 11 ≤ q ∧ q < c + 15)) h h' → Q none h') : vCall (d + 2) 0 0 125 [.ref c, .int (iI x)] h Q := by
  obtain ⟨a, w, tp, ho⟩ := vMD_o hD
  have hlo := vMD_lo hD
  have hD0 := hD
  obtain ⟨-, -, -, ⟨g0, hS0, hg0⟩, -⟩ := hD
  generalize hl : σ.2.2.1.1 = l at *
  have loop : ∀ u i : Nat, i + u = l.length → ∀ (h1 : vHp) (g : Nat → vSp), vSr h1 c g → vcR l (vnx x) g i → vFr (fun q => c + 11 ≤ q ∧ q < c + 15) h h1 → vW (vCall (d + 1)) 125 Q 4 [.ref c, .int (iI x), .int (iI ((((l.take i).filter (vnx x)).length : Nat) : Int)), .int (iI (i : Int))] [] h1 0 0 := by
    intro u
    induction u with
    | zero =>
      intro i hi h1 g hS hR f1
      have ho1 := (f1.2.2 c (by omega)).trans ho
      have et : l.take i = l := List.take_of_length_le (by omega)
      rw [et]
      refine r_iload c125_4 rfl (r_aload c125_5 rfl (r_get c125_6 ho1 rfl ?_))
      refine r_icge c125_9 (by omega) (by omega) (by omega) (by omega) (fun c_9 => ?_) (fun q => by exfalso; omega)
      refine r_aload c125_60 rfl (r_iload c125_61 rfl ?_)
      refine r_put c125_62 ho1 (by rw [f1.1]; exact hlo) rfl ⟨rfl, rfl⟩ (fun h2 s2 => ?_)
      have f2 := vFr_st s2
      refine r_vret (st := []) c125_65 ?_
      have f12 : vFr (fun q => q = c ∨ (c + 11 ≤ q ∧ q < c + 15)) h h2 := vFr_tr (vFr_up f1 (fun q e => Or.inr e)) (vFr_up f2 (fun q e => Or.inl e))
      unfold vfg at k
      rw [hl] at k
      refine k h2 (vMD_m hD0 s2.2.2.1 ⟨g, vSr_fr hS f2 (fun q e1 e2 => by omega), fun j s hs => hR.1 j s (by rw [et]; exact hs)⟩ f12) f12
    | succ u ih =>
      intro i hi h1 g hS hR f1
      have ho1 := (f1.2.2 c (by omega)).trans ho
      have hil : i < l.length := by omega
      obtain ⟨s, hs⟩ : ∃ s, l[i]? = some s := ⟨l[i], List.getElem?_eq_getElem hil⟩
      have gi := hR.2 i s (Nat.le_refl _) hs
      have bs := hb s (List.mem_of_getElem? hs)
      have fl := vcR_len l (vnx x) i
      refine r_iload c125_4 rfl (r_aload c125_5 rfl (r_get c125_6 ho1 rfl ?_))
      refine r_icge c125_9 (by omega) (by omega) (by omega) (by omega) (fun q => by exfalso; omega) (fun c_9 => ?_)
      refine r_aload c125_12 rfl (r_get c125_13 ho1 rfl (r_iload c125_16 rfl (r_iald c125_17 hS.1 (by omega) (by omega) ?_)))
      rw [Int.toNat_natCast, gi]
      refine r_iload c125_18 rfl ?_
      refine r_iceq c125_19 (by omega) (by omega) (by omega) (by omega) (fun c_19 => ?_) (fun c_19 => ?_)
      · have st := vcR_drop hR hs (by unfold vnx; simp [c_19])
        refine r_iinc c125_54 rfl rfl (r_goto c125_57 ?_)
        try dsimp only [vst]
        rw [vsu, ← st.2]
        exact ih (i + 1) (by omega) h1 g hS st.1 f1
      · have st := vcR_keep hR hs (show vnx x s = true by unfold vnx; simp [c_19])
        refine r_aload c125_22 rfl (r_iload c125_23 rfl (r_aload c125_24 rfl (r_get c125_25 ho1 rfl (r_iload c125_28 rfl (r_iald c125_29 hS.1 (by omega) (by omega) (r_aload c125_30 rfl (r_get c125_31 ho1 rfl (r_iload c125_34 rfl (r_iald c125_35 hS.2.1 (by omega) (by omega) (r_aload c125_36 rfl (r_get c125_37 ho1 rfl (r_iload c125_40 rfl (r_iald c125_41 hS.2.2.1 (by omega) (by omega) (r_aload c125_42 rfl (r_get c125_43 ho1 rfl (r_iload c125_46 rfl (r_iald c125_47 hS.2.2.2 (by omega) (by omega) ?_)))))))))))))))))
        rw [Int.toNat_natCast, gi]
        refine r_iv5 c125_48 vr_140 ho1 rfl (m_puts ho1 hS (by rw [f1.1]; exact hlo) (by omega) (fun h2 hS2 f2 => ?_))
        dsimp only [vpush]
        refine r_iinc c125_51 rfl rfl (r_iinc c125_54 rfl rfl (r_goto c125_57 ?_))
        try dsimp only [vst]
        rw [vsu, vsu, ← st.2]
        exact ih (i + 1) (by omega) h2 _ hS2 st.1 (vFr_tr f1 f2)
  refine vin 4 [_, _, _, _] ml_125 rfl rfl ?_
  refine r_ci c125_0 (r_istore c125_1 rfl (r_ci c125_2 (r_istore c125_3 rfl ?_)))
  try dsimp only [vst]
  exact loop l.length 0 (by omega) h g0 hS0 ⟨fun j s hs => by simp at hs, fun j s _ hs => hg0 j s hs⟩ vFr_rf

