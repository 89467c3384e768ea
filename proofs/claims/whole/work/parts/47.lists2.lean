theorem ml_80 : vml 80 = 5 := by decide +kernel
theorem ml_84 : vml 84 = 12 := by decide +kernel
theorem ml_100 : vml 100 = 6 := by decide +kernel
theorem vr_100 : vrc 100 = some (5, 4) := by decide +kernel
theorem c80_0 : vlk 80 0 = some (4, 1, 0, 0, 1) := by decide +kernel
theorem c80_1 : vlk 80 1 = some (59, 92, 0, 0, 4) := by decide +kernel
theorem c80_4 : vlk 80 4 = some (71, 9, 0, 0, 7) := by decide +kernel
theorem c80_7 : vlk 80 7 = some (1, 0, 0, (-1), 8) := by decide +kernel
theorem c80_8 : vlk 80 8 = some (63, 0, 0, 0, 9) := by decide +kernel
theorem c80_9 : vlk 80 9 = some (6, 0, 0, 0, 10) := by decide +kernel
theorem c80_10 : vlk 80 10 = some (42, 5, 5, 0, 13) := by decide +kernel
theorem c80_13 : vlk 80 13 = some (4, 1, 0, 0, 14) := by decide +kernel
theorem c80_14 : vlk 80 14 = some (48, 0, 0, 0, 15) := by decide +kernel
theorem c80_15 : vlk 80 15 = some (9, 4, 0, 0, 17) := by decide +kernel
theorem c80_17 : vlk 80 17 = some (6, 4, 0, 0, 19) := by decide +kernel
theorem c80_19 : vlk 80 19 = some (42, 4, 0, 0, 22) := by decide +kernel
theorem c80_22 : vlk 80 22 = some (71, 28, 0, 0, 25) := by decide +kernel
theorem c80_25 : vlk 80 25 = some (1, 0, 0, (-11), 27) := by decide +kernel
theorem c80_27 : vlk 80 27 = some (63, 0, 0, 0, 28) := by decide +kernel
theorem c80_28 : vlk 80 28 = some (4, 2, 0, 0, 29) := by decide +kernel
theorem c80_29 : vlk 80 29 = some (72, 41, 0, 0, 32) := by decide +kernel
theorem c80_32 : vlk 80 32 = some (4, 2, 0, 0, 33) := by decide +kernel
theorem c80_33 : vlk 80 33 = some (6, 4, 0, 0, 35) := by decide +kernel
theorem c80_35 : vlk 80 35 = some (42, 4, 1, 0, 38) := by decide +kernel
theorem c80_38 : vlk 80 38 = some (78, 44, 0, 0, 41) := by decide +kernel
theorem c80_41 : vlk 80 41 = some (1, 0, 0, (-13), 43) := by decide +kernel
theorem c80_43 : vlk 80 43 = some (63, 0, 0, 0, 44) := by decide +kernel
theorem c80_44 : vlk 80 44 = some (6, 4, 0, 0, 46) := by decide +kernel
theorem c80_46 : vlk 80 46 = some (42, 4, 2, 0, 49) := by decide +kernel
theorem c80_49 : vlk 80 49 = some (4, 2, 0, 0, 50) := by decide +kernel
theorem c80_50 : vlk 80 50 = some (4, 3, 0, 0, 51) := by decide +kernel
theorem c80_51 : vlk 80 51 = some (49, 0, 0, 0, 52) := by decide +kernel
theorem c80_52 : vlk 80 52 = some (1, 0, 0, 1, 53) := by decide +kernel
theorem c80_53 : vlk 80 53 = some (63, 0, 0, 0, 54) := by decide +kernel
theorem c84_0 : vlk 84 0 = some (6, 0, 0, 0, 1) := by decide +kernel
theorem c84_1 : vlk 84 1 = some (4, 1, 0, 0, 2) := by decide +kernel
theorem c84_2 : vlk 84 2 = some (4, 2, 0, 0, 3) := by decide +kernel
theorem c84_3 : vlk 84 3 = some (4, 3, 0, 0, 4) := by decide +kernel
theorem c84_4 : vlk 84 4 = some (4, 4, 0, 0, 6) := by decide +kernel
theorem c84_6 : vlk 84 6 = some (58, 100, 0, 0, 9) := by decide +kernel
theorem c84_9 : vlk 84 9 = some (7, 5, 0, 0, 11) := by decide +kernel
theorem c84_11 : vlk 84 11 = some (4, 5, 0, 0, 13) := by decide +kernel
theorem c84_13 : vlk 84 13 = some (70, 19, 0, 0, 16) := by decide +kernel
theorem c84_16 : vlk 84 16 = some (4, 5, 0, 0, 18) := by decide +kernel
theorem c84_18 : vlk 84 18 = some (63, 0, 0, 0, 19) := by decide +kernel
theorem c84_19 : vlk 84 19 = some (6, 0, 0, 0, 20) := by decide +kernel
theorem c84_20 : vlk 84 20 = some (42, 5, 5, 0, 23) := by decide +kernel
theorem c84_23 : vlk 84 23 = some (4, 1, 0, 0, 24) := by decide +kernel
theorem c84_24 : vlk 84 24 = some (48, 0, 0, 0, 25) := by decide +kernel
theorem c84_25 : vlk 84 25 = some (9, 6, 0, 0, 27) := by decide +kernel
theorem c84_27 : vlk 84 27 = some (6, 0, 0, 0, 28) := by decide +kernel
theorem c84_28 : vlk 84 28 = some (42, 5, 0, 0, 31) := by decide +kernel
theorem c84_31 : vlk 84 31 = some (4, 3, 0, 0, 32) := by decide +kernel
theorem c84_32 : vlk 84 32 = some (48, 0, 0, 0, 33) := by decide +kernel
theorem c84_33 : vlk 84 33 = some (42, 2, 4, 0, 36) := by decide +kernel
theorem c84_36 : vlk 84 36 = some (9, 7, 0, 0, 38) := by decide +kernel
theorem c84_38 : vlk 84 38 = some (4, 4, 0, 0, 40) := by decide +kernel
theorem c84_40 : vlk 84 40 = some (7, 8, 0, 0, 42) := by decide +kernel
theorem c84_42 : vlk 84 42 = some (4, 2, 0, 0, 43) := by decide +kernel
theorem c84_43 : vlk 84 43 = some (7, 9, 0, 0, 45) := by decide +kernel
theorem c84_45 : vlk 84 45 = some (4, 9, 0, 0, 47) := by decide +kernel
theorem c84_47 : vlk 84 47 = some (6, 6, 0, 0, 49) := by decide +kernel
theorem c84_49 : vlk 84 49 = some (42, 4, 1, 0, 52) := by decide +kernel
theorem c84_52 : vlk 84 52 = some (79, 122, 0, 0, 55) := by decide +kernel
theorem c84_55 : vlk 84 55 = some (6, 7, 0, 0, 57) := by decide +kernel
theorem c84_57 : vlk 84 57 = some (4, 8, 0, 0, 59) := by decide +kernel
theorem c84_59 : vlk 84 59 = some (1, 0, 0, 719, 62) := by decide +kernel
theorem c84_62 : vlk 84 62 = some (1, 0, 0, 0, 63) := by decide +kernel
theorem c84_63 : vlk 84 63 = some (58, 12, 0, 0, 66) := by decide +kernel
theorem c84_66 : vlk 84 66 = some (7, 10, 0, 0, 68) := by decide +kernel
theorem c84_68 : vlk 84 68 = some (4, 10, 0, 0, 70) := by decide +kernel
theorem c84_70 : vlk 84 70 = some (73, 77, 0, 0, 73) := by decide +kernel
theorem c84_73 : vlk 84 73 = some (1, 0, 0, (-1), 74) := by decide +kernel
theorem c84_74 : vlk 84 74 = some (37, 79, 0, 0, 77) := by decide +kernel
theorem c84_77 : vlk 84 77 = some (4, 10, 0, 0, 79) := by decide +kernel
theorem c84_79 : vlk 84 79 = some (7, 11, 0, 0, 81) := by decide +kernel
theorem c84_81 : vlk 84 81 = some (6, 6, 0, 0, 83) := by decide +kernel
theorem c84_83 : vlk 84 83 = some (42, 4, 2, 0, 86) := by decide +kernel
theorem c84_86 : vlk 84 86 = some (4, 9, 0, 0, 88) := by decide +kernel
theorem c84_88 : vlk 84 88 = some (45, 0, 0, 0, 89) := by decide +kernel
theorem c84_89 : vlk 84 89 = some (4, 11, 0, 0, 91) := by decide +kernel
theorem c84_91 : vlk 84 91 = some (76, 99, 0, 0, 94) := by decide +kernel
theorem c84_94 : vlk 84 94 = some (4, 9, 0, 0, 96) := by decide +kernel
theorem c84_96 : vlk 84 96 = some (4, 2, 0, 0, 97) := by decide +kernel
theorem c84_97 : vlk 84 97 = some (12, 0, 0, 0, 98) := by decide +kernel
theorem c84_98 : vlk 84 98 = some (63, 0, 0, 0, 99) := by decide +kernel
theorem c84_99 : vlk 84 99 = some (4, 10, 0, 0, 101) := by decide +kernel
theorem c84_101 : vlk 84 101 = some (73, 110, 0, 0, 104) := by decide +kernel
theorem c84_104 : vlk 84 104 = some (1, 0, 0, 720, 107) := by decide +kernel
theorem c84_107 : vlk 84 107 = some (37, 114, 0, 0, 110) := by decide +kernel
theorem c84_110 : vlk 84 110 = some (4, 10, 0, 0, 112) := by decide +kernel
theorem c84_112 : vlk 84 112 = some (1, 0, 0, 1, 113) := by decide +kernel
theorem c84_113 : vlk 84 113 = some (11, 0, 0, 0, 114) := by decide +kernel
theorem c84_114 : vlk 84 114 = some (7, 8, 0, 0, 116) := by decide +kernel
theorem c84_116 : vlk 84 116 = some (10, 9, 0, 1, 119) := by decide +kernel
theorem c84_119 : vlk 84 119 = some (37, 45, 0, 0, 122) := by decide +kernel
theorem c84_122 : vlk 84 122 = some (1, 0, 0, (-5), 124) := by decide +kernel
theorem c84_124 : vlk 84 124 = some (63, 0, 0, 0, 125) := by decide +kernel
theorem c100_0 : vlk 100 0 = some (4, 1, 0, 0, 1) := by decide +kernel
theorem c100_1 : vlk 100 1 = some (59, 92, 0, 0, 4) := by decide +kernel
theorem c100_4 : vlk 100 4 = some (70, 14, 0, 0, 7) := by decide +kernel
theorem c100_7 : vlk 100 7 = some (4, 3, 0, 0, 8) := by decide +kernel
theorem c100_8 : vlk 100 8 = some (59, 87, 0, 0, 11) := by decide +kernel
theorem c100_11 : vlk 100 11 = some (71, 16, 0, 0, 14) := by decide +kernel
theorem c100_14 : vlk 100 14 = some (1, 0, 0, (-1), 15) := by decide +kernel
theorem c100_15 : vlk 100 15 = some (63, 0, 0, 0, 16) := by decide +kernel
theorem c100_16 : vlk 100 16 = some (4, 4, 0, 0, 18) := by decide +kernel
theorem c100_18 : vlk 100 18 = some (59, 88, 0, 0, 21) := by decide +kernel
theorem c100_21 : vlk 100 21 = some (71, 27, 0, 0, 24) := by decide +kernel
theorem c100_24 : vlk 100 24 = some (1, 0, 0, (-2), 26) := by decide +kernel
theorem c100_26 : vlk 100 26 = some (63, 0, 0, 0, 27) := by decide +kernel
theorem c100_27 : vlk 100 27 = some (6, 0, 0, 0, 28) := by decide +kernel
theorem c100_28 : vlk 100 28 = some (42, 5, 5, 0, 31) := by decide +kernel
theorem c100_31 : vlk 100 31 = some (4, 1, 0, 0, 32) := by decide +kernel
theorem c100_32 : vlk 100 32 = some (48, 0, 0, 0, 33) := by decide +kernel
theorem c100_33 : vlk 100 33 = some (9, 5, 0, 0, 35) := by decide +kernel
theorem c100_35 : vlk 100 35 = some (6, 5, 0, 0, 37) := by decide +kernel
theorem c100_37 : vlk 100 37 = some (42, 4, 0, 0, 40) := by decide +kernel
theorem c100_40 : vlk 100 40 = some (71, 46, 0, 0, 43) := by decide +kernel
theorem c100_43 : vlk 100 43 = some (1, 0, 0, (-11), 45) := by decide +kernel
theorem c100_45 : vlk 100 45 = some (63, 0, 0, 0, 46) := by decide +kernel
theorem c100_46 : vlk 100 46 = some (4, 2, 0, 0, 47) := by decide +kernel
theorem c100_47 : vlk 100 47 = some (72, 59, 0, 0, 50) := by decide +kernel
theorem c100_50 : vlk 100 50 = some (4, 2, 0, 0, 51) := by decide +kernel
theorem c100_51 : vlk 100 51 = some (6, 5, 0, 0, 53) := by decide +kernel
theorem c100_53 : vlk 100 53 = some (42, 4, 1, 0, 56) := by decide +kernel
theorem c100_56 : vlk 100 56 = some (81, 64, 0, 0, 59) := by decide +kernel
theorem c100_59 : vlk 100 59 = some (1, 0, 0, (-13), 61) := by decide +kernel
theorem c100_61 : vlk 100 61 = some (37, 65, 0, 0, 64) := by decide +kernel
theorem c100_64 : vlk 100 64 = some (1, 0, 0, 0, 65) := by decide +kernel
theorem c100_65 : vlk 100 65 = some (63, 0, 0, 0, 66) := by decide +kernel
/-! lists: put, what stands against lay and judge, lay, judge, move -/
def vLu (σ : vSg) (i : Nat) (o : Option (Nat × (Nat → Int))) : vSg := (σ.1, σ.2.1, σ.2.2.1, σ.2.2.2.1, vup σ.2.2.2.2 i o)
def vQ_put (l : vLst) (x y : Int) : Int := if 0 ≤ x ∧ x < 4 then (match l x.toNat with
  | none => -11
  | some (n, _) => if 0 ≤ y ∧ y < n then 1 else -13) else -1
def vS_put (σ : vSg) (x y z : Int) : vSg := if 0 ≤ x ∧ x < 4 then (match σ.2.2.2.2 x.toNat with
  | none => σ
  | some (n, p) => if 0 ≤ y ∧ y < n then vLu σ x.toNat (some (n, vup p y.toNat z)) else σ) else σ
theorem vRow_some {h : vHp} {a n : Nat} {g : Nat → Int} (hR : vRow h a (some (n, g))) : ∃ f, hg h a = some (.inr (4, [.int (iI 1), .int (iI (n : Int)), .ref (a + 1)])) ∧ hg h (a + 1) = some (.inl (0, 30, .inl f)) ∧ ∀ i, i < 30 → f i = g i := by
  obtain ⟨sz, f, r1, r2, r3⟩ := hR
  obtain ⟨q1, q2⟩ := r3 n g rfl
  subst q1
  exact ⟨f, r1, r2, q2⟩
theorem vRow_none {h : vHp} {a : Nat} (hR : vRow h a none) : ∃ sz, hg h a = some (.inr (4, [.int (iI 0), .int (iI sz), .ref (a + 1)])) := by
  obtain ⟨sz, f, r1, r2, r3⟩ := hR
  exact ⟨sz, r1⟩
theorem vRow_mk {h : vHp} {a n : Nat} {f g : Nat → Int} (r1 : hg h a = some (.inr (4, [.int (iI 1), .int (iI (n : Int)), .ref (a + 1)]))) (r2 : hg h (a + 1) = some (.inl (0, 30, .inl f))) (e : ∀ i, i < 30 → f i = g i) : vRow h a (some (n, g)) :=
  ⟨_, f, r1, r2, fun n' p' q => by
    have e1 : (n, g) = (n', p') := by simpa using q
    have e2 := congrArg Prod.fst e1
    have e3 := congrArg Prod.snd e1
    dsimp only at e2 e3
    subst e2
    subst e3
    exact ⟨rfl, e⟩⟩
theorem k_put {d b : Nat} {σ : vSg} {x y z : Int} {h : vHp} {Q : vQ} (hR : vRD h b σ) (hO : vOk σ) (x1 : -2147483648 ≤ x) (x2 : x ≤ 2147483647) (y1 : -2147483648 ≤ y) (y2 : y ≤ 2147483647) (k : ∀ h', vRD h' b (vS_put σ x y z) → vFr (fun q => b ≤ q ∧ q < b + 243) h h' → Q (some (.int (iI (vQ_put σ.2.2.2.2 x y)))) h') : vCall (d + 2) 0 0 80 [.ref b, .int (iI x), .int (iI y), .int (iI z)] h Q := by
  have hR0 := hR
  obtain ⟨a1, ⟨p, p1, p2⟩, ⟨s, s1, s2⟩, ⟨w, w1, w2⟩, a5, a6, a7, a8, ⟨J, a9⟩, b1, b2, b3⟩ := hR
  unfold vQ_put vS_put at k
  refine vin 5 [_, _, _, _, _] ml_80 rfl rfl ?_
  refine r_iload c80_0 rfl ?_
  refine r_is1 c80_1 vr_92 rfl (k_isList x1 x2 (fun e1 e2 => ?_) (fun e1 => ?_))
  · dsimp only [vpush]
    rw [if_pos ⟨e1, e2⟩, if_pos ⟨e1, e2⟩] at k
    refine r_ifne c80_4 (by omega) (by omega) (fun c_4 => ?_) (fun q => by exfalso; omega)
    have hx := b1 x.toNat (by omega)
    have hn := hO.2.2.2.2.1 x.toNat
    cases ho : σ.2.2.2.2 x.toNat with
    | none =>
      rw [ho] at hx k
      dsimp only at k
      obtain ⟨sz, r1⟩ := vRow_none hx
      refine r_aload c80_9 rfl (r_get c80_10 a1 rfl (r_iload c80_13 rfl (r_aald c80_14 w1 (by omega) (by omega) (by omega) (w2 _ (by omega)) (r_astore c80_15 rfl (r_aload c80_17 rfl (r_get c80_19 r1 rfl ?_))))))
      try dsimp only [vst]
      refine r_ifne c80_22 (by omega) (by omega) (fun q => by exfalso; omega) (fun c_22 => ?_)
      refine r_ci c80_25 ?_
      refine r_iret (st := []) c80_27 ?_
      exact k h hR0 vFr_rf
    | some o =>
      obtain ⟨n, g⟩ := o
      have hn2 := (hn n g (by omega) ho).1
      rw [ho] at hx k
      dsimp only at k
      obtain ⟨f, r1, r2, r3⟩ := vRow_some hx
      have no : ¬ (0 ≤ y ∧ y < n) → vW (vCall (d + 1)) 80 Q 41 [.ref b, .int (iI x), .int (iI y), .int (iI z), .ref (vra b x.toNat)] [] h 0 0 := fun q => by
        rw [if_neg q, if_neg q] at k
        refine r_ci c80_41 ?_
        refine r_iret (st := []) c80_43 ?_
        exact k h hR0 vFr_rf
      refine r_aload c80_9 rfl (r_get c80_10 a1 rfl (r_iload c80_13 rfl (r_aald c80_14 w1 (by omega) (by omega) (by omega) (w2 _ (by omega)) (r_astore c80_15 rfl (r_aload c80_17 rfl (r_get c80_19 r1 rfl ?_))))))
      try dsimp only [vst]
      refine r_ifne c80_22 (by omega) (by omega) (fun c_22 => ?_) (fun q => by exfalso; omega)
      refine r_iload c80_28 rfl ?_
      refine r_iflt c80_29 (by omega) (by omega) (fun c_29 => ?_) (fun c_29 => ?_)
      · exact no (by omega)
      · refine r_iload c80_32 rfl (r_aload c80_33 rfl (r_get c80_35 r1 rfl ?_))
        refine r_iclt c80_38 (by omega) (by omega) (by omega) (by omega) (fun c_38 => ?_) (fun c_38 => ?_)
        · rw [if_pos (by omega), if_pos (by omega)] at k
          refine r_aload c80_44 rfl (r_get c80_46 r1 rfl (r_iload c80_49 rfl (r_iload c80_50 rfl ?_)))
          refine r_iast c80_51 r2 (by unfold vra; omega) (by omega) (by omega) (fun h1 s1' => ?_)
          refine r_ci c80_52 ?_
          refine r_iret (st := []) c80_53 ?_
          have f1 : vFr (fun q => vra b x.toNat ≤ q ∧ q < vra b x.toNat + 2) h h1 := vFr_up (vFr_st s1') (fun q e => by omega)
          refine k h1 (vRD_row hR0 (by omega) (vRow_mk ((s1'.2.2.2 _ (by omega)).trans r1) s1'.2.2.1 (fun i hi => ?_)) f1) (vFr_up f1 (fun q e => by unfold vra at e; omega))
          unfold vup
          split
          · rfl
          · exact r3 i hi
        · exact no (by omega)
  · dsimp only [vpush]
    rw [if_neg (by omega), if_neg (by omega)] at k
    refine r_ifne c80_4 (by omega) (by omega) (fun q => by exfalso; omega) (fun c_4 => ?_)
    refine r_ci c80_7 ?_
    refine r_iret (st := []) c80_8 ?_
    exact k h hR0 vFr_rf
def vQ_ref (l : vLst) (x y z u : Int) : Int := if (0 ≤ x ∧ x < 4) ∧ 0 ≤ z ∧ z < 10 then (if 0 ≤ u ∧ u < 720 then (match l x.toNat with
  | none => -11
  | some (n, _) => if 0 ≤ y ∧ y ≤ n then 0 else -13) else -2) else -1
theorem k_refusalOf {d b : Nat} {σ : vSg} {x y z u : Int} {h : vHp} {Q : vQ} (hR : vRD h b σ) (hO : vOk σ) (x1 : -2147483648 ≤ x) (x2 : x ≤ 2147483647) (y1 : -2147483648 ≤ y) (y2 : y ≤ 2147483647) (z1 : -2147483648 ≤ z) (z2 : z ≤ 2147483647) (u1 : -2147483648 ≤ u) (u2 : u ≤ 2147483647) (k : Q (some (.int (iI (vQ_ref σ.2.2.2.2 x y z u)))) h) : vCall (d + 2) 0 0 100 [.ref b, .int (iI x), .int (iI y), .int (iI z), .int (iI u)] h Q := by
  obtain ⟨a1, ⟨p, p1, p2⟩, ⟨s, s1, s2⟩, ⟨w, w1, w2⟩, a5, a6, a7, a8, ⟨J, a9⟩, b1, b2, b3⟩ := hR
  have no : ¬ ((0 ≤ x ∧ x < 4) ∧ 0 ≤ z ∧ z < 10) → ∀ v5 : Value, vW (vCall (d + 1)) 100 Q 14 [.ref b, .int (iI x), .int (iI y), .int (iI z), .int (iI u), v5] [] h 0 0 := fun q v5 => by
    rw [show vQ_ref σ.2.2.2.2 x y z u = -1 from if_neg q] at k
    refine r_ci c100_14 ?_
    refine r_iret (st := []) c100_15 ?_
    exact k
  refine vin 6 [_, _, _, _, _, _] ml_100 rfl rfl ?_
  refine r_iload c100_0 rfl ?_
  refine r_is1 c100_1 vr_92 rfl (k_isList x1 x2 (fun e1 e2 => ?_) (fun e1 => ?_))
  · dsimp only [vpush]
    refine r_ifeq c100_4 (by omega) (by omega) (fun q => by exfalso; omega) (fun c_4 => ?_)
    refine r_iload c100_7 rfl ?_
    refine r_is1 c100_8 vr_87 rfl (k_isName z1 z2 (fun g1 g2 => ?_) (fun g1 => ?_))
    · dsimp only [vpush]
      refine r_ifne c100_11 (by omega) (by omega) (fun c_11 => ?_) (fun q => by exfalso; omega)
      refine r_iload c100_16 rfl ?_
      refine r_is1 c100_18 vr_88 rfl (k_isDay u1 u2 (fun i1 i2 => ?_) (fun i1 => ?_))
      · dsimp only [vpush]
        unfold vQ_ref at k
        rw [if_pos ⟨⟨e1, e2⟩, g1, g2⟩, if_pos ⟨i1, i2⟩] at k
        refine r_ifne c100_21 (by omega) (by omega) (fun c_21 => ?_) (fun q => by exfalso; omega)
        have hx := b1 x.toNat (by omega)
        have hn := hO.2.2.2.2.1 x.toNat
        cases ho : σ.2.2.2.2 x.toNat with
        | none =>
          rw [ho] at hx k
          dsimp only at k
          obtain ⟨sz, r1⟩ := vRow_none hx
          refine r_aload c100_27 rfl (r_get c100_28 a1 rfl (r_iload c100_31 rfl (r_aald c100_32 w1 (by omega) (by omega) (by omega) (w2 _ (by omega)) (r_astore c100_33 rfl (r_aload c100_35 rfl (r_get c100_37 r1 rfl ?_))))))
          try dsimp only [vst]
          refine r_ifne c100_40 (by omega) (by omega) (fun q => by exfalso; omega) (fun c_40 => ?_)
          refine r_ci c100_43 ?_
          refine r_iret (st := []) c100_45 ?_
          exact k
        | some o =>
          obtain ⟨n, g⟩ := o
          have hn2 := (hn n g (by omega) ho).1
          rw [ho] at hx k
          dsimp only at k
          obtain ⟨f, r1, r2, r3⟩ := vRow_some hx
          have no2 : ¬ (0 ≤ y ∧ y ≤ n) → vW (vCall (d + 1)) 100 Q 59 [.ref b, .int (iI x), .int (iI y), .int (iI z), .int (iI u), .ref (vra b x.toNat)] [] h 0 0 := fun q => by
            rw [if_neg q] at k
            refine r_ci c100_59 (r_goto c100_61 ?_)
            refine r_iret (st := []) c100_65 ?_
            exact k
          refine r_aload c100_27 rfl (r_get c100_28 a1 rfl (r_iload c100_31 rfl (r_aald c100_32 w1 (by omega) (by omega) (by omega) (w2 _ (by omega)) (r_astore c100_33 rfl (r_aload c100_35 rfl (r_get c100_37 r1 rfl ?_))))))
          try dsimp only [vst]
          refine r_ifne c100_40 (by omega) (by omega) (fun c_40 => ?_) (fun q => by exfalso; omega)
          refine r_iload c100_46 rfl ?_
          refine r_iflt c100_47 (by omega) (by omega) (fun c_47 => ?_) (fun c_47 => ?_)
          · exact no2 (by omega)
          · refine r_iload c100_50 rfl (r_aload c100_51 rfl (r_get c100_53 r1 rfl ?_))
            refine r_icle c100_56 (by omega) (by omega) (by omega) (by omega) (fun c_56 => ?_) (fun c_56 => ?_)
            · rw [if_pos (by omega)] at k
              refine r_ci c100_64 ?_
              refine r_iret (st := []) c100_65 ?_
              exact k
            · exact no2 (by omega)
      · dsimp only [vpush]
        rw [show vQ_ref σ.2.2.2.2 x y z u = -2 by unfold vQ_ref; rw [if_pos ⟨⟨e1, e2⟩, g1, g2⟩, if_neg (by omega)]] at k
        refine r_ifne c100_21 (by omega) (by omega) (fun q => by exfalso; omega) (fun c_21 => ?_)
        refine r_ci c100_24 ?_
        refine r_iret (st := []) c100_26 ?_
        exact k
    · dsimp only [vpush]
      refine r_ifne c100_11 (by omega) (by omega) (fun q => by exfalso; omega) (fun c_11 => ?_)
      exact no (by omega) _
  · dsimp only [vpush]
    refine r_ifeq c100_4 (by omega) (by omega) (fun c_4 => ?_) (fun q => by exfalso; omega)
    exact no (by omega) _
/-- where nothing stands against it -/
theorem vQ_ref0 {l : vLst} {x y z u : Int} (h : vQ_ref l x y z u = 0) : (0 ≤ x ∧ x < 4) ∧ (0 ≤ z ∧ z < 10) ∧ (0 ≤ u ∧ u < 720) ∧ ∃ n g, l x.toNat = some (n, g) ∧ 0 ≤ y ∧ y ≤ n := by
  unfold vQ_ref at h
  split at h
  · rename_i q
    split at h
    · rename_i q2
      cases ho : l x.toNat with
      | none => rw [ho] at h; cases h
      | some o =>
        obtain ⟨n, g⟩ := o
        rw [ho] at h
        dsimp only at h
        split at h
        · rename_i q3
          exact ⟨q.1, q.2, q2, n, g, rfl, q3⟩
        · cases h
    · cases h
  · cases h
theorem vQ_ref_rg (l : vLst) (x y z u : Int) : -13 ≤ vQ_ref l x y z u ∧ vQ_ref l x y z u ≤ 0 := by
  unfold vQ_ref
  split
  · split
    · split
      · decide
      · split <;> decide
    · decide
  · decide
def vju (D : vSt1) (p : Nat → Int) (y : Nat) : Nat → Nat → Nat → Int
  | 0, _, _ => -5
  | v + 1, pl, e => if p pl = (if vpk D e 719 0 < 0 then -1 else vpk D e 719 0) then vju D p y v (pl + 1) (if vpk D e 719 0 < 0 then 720 else (vpk D e 719 0).toNat + 1) else (pl : Int) - (y : Int)
def vQ_judge (σ : vSg) (x y z u : Int) : Int := if vQ_ref σ.2.2.2.2 x y z u = 0 then (match σ.2.2.2.2 x.toNat with
  | none => 0
  | some (n, p) => vju (vDd σ.1 z.toNat) p y.toNat (n - y.toNat) y.toNat u.toNat) else vQ_ref σ.2.2.2.2 x y z u
theorem k_judge {d b : Nat} {σ : vSg} {x y z u : Int} {h : vHp} {Q : vQ} (hR : vRD h b σ) (hO : vOk σ) (x1 : -2147483648 ≤ x) (x2 : x ≤ 2147483647) (y1 : -2147483648 ≤ y) (y2 : y ≤ 2147483647) (z1 : -2147483648 ≤ z) (z2 : z ≤ 2147483647) (u1 : -2147483648 ≤ u) (u2 : u ≤ 2147483647) (k : Q (some (.int (iI (vQ_judge σ x y z u)))) h) : vCall (d + 4) 0 0 84 [.ref b, .int (iI x), .int (iI y), .int (iI z), .int (iI u)] h Q := by
  have hR0 := hR
  obtain ⟨a1, ⟨p, p1, p2⟩, ⟨s, s1, s2⟩, ⟨w, w1, w2⟩, a5, a6, a7, a8, ⟨J, a9⟩, b1, b2, b3⟩ := hR
  have hrr := vQ_ref_rg σ.2.2.2.2 x y z u
  unfold vQ_judge at k
  refine vin 12 [_, _, _, _, _, _, _, _, _, _, _, _] ml_84 rfl rfl ?_
  refine r_aload c84_0 rfl (r_iload c84_1 rfl (r_iload c84_2 rfl (r_iload c84_3 rfl (r_iload c84_4 rfl ?_))))
  refine r_iv4 c84_6 vr_100 a1 rfl (k_refusalOf hR0 hO x1 x2 y1 y2 z1 z2 u1 u2 ?_)
  dsimp only [vpush]
  refine r_istore c84_9 rfl (r_iload c84_11 rfl ?_)
  try dsimp only [vst]
  refine r_ifeq c84_13 (by omega) (by omega) (fun c_13 => ?_) (fun c_13 => ?_)
  · rw [if_pos c_13] at k
    obtain ⟨gx, gz, gu, n, g, ho, gy1, gy2⟩ := vQ_ref0 c_13
    have hx := b1 x.toNat (by omega)
    have hn := hO.2.2.2.2.1 x.toNat n g (by omega) ho
    rw [ho] at hx k
    dsimp only at k
    obtain ⟨f, r1, r2, r3⟩ := vRow_some hx
    have hz := a5 z.toNat (by omega)
    have hz2 : vDy h (vpa b z.toNat + 7) (vDd σ.1 z.toNat) := hz.2.2.2.2
    obtain ⟨ym, rfl⟩ := Int.eq_ofNat_of_zero_le gy1
    obtain ⟨um, rfl⟩ := Int.eq_ofNat_of_zero_le gu.1
    rw [Int.toNat_natCast, Int.toNat_natCast] at k
    generalize vQ_ref σ.2.2.2.2 x (ym : Int) z (um : Int) = rf at *
    have loop : ∀ v i e : Nat, i + v = n → e ≤ 720 → vju (vDd σ.1 z.toNat) g ym v i e = vju (vDd σ.1 z.toNat) g ym (n - ym) ym um → ∀ v10 v11 : Value, vW (vCall (d + 3)) 84 Q 45 [.ref b, .int (iI x), .int (iI (ym : Int)), .int (iI z), .int (iI (um : Int)), .int (iI rf), .ref (vra b x.toNat), .ref (vpa b z.toNat + 7), .int (iI (e : Int)), .int (iI (i : Int)), v10, v11] [] h 0 0 := by
      intro v
      induction v with
      | zero =>
        intro i e hi he hv v10 v11
        refine r_iload c84_45 rfl (r_aload c84_47 rfl (r_get c84_49 r1 rfl ?_))
        refine r_icge c84_52 (by omega) (by omega) (by omega) (by omega) (fun c_52 => ?_) (fun q => by exfalso; omega)
        refine r_ci c84_122 ?_
        refine r_iret (st := []) c84_124 ?_
        rw [← hv] at k
        exact k
      | succ v ih =>
        intro i e hi he hv v10 v11
        have rg := hn.2 i (by omega)
        have hvp := vpk_range (vDd σ.1 z.toNat) e 719 0
        have hv' : (if g i = (if vpk (vDd σ.1 z.toNat) e 719 0 < 0 then -1 else vpk (vDd σ.1 z.toNat) e 719 0) then vju (vDd σ.1 z.toNat) g ym v (i + 1) (if vpk (vDd σ.1 z.toNat) e 719 0 < 0 then 720 else (vpk (vDd σ.1 z.toNat) e 719 0).toNat + 1) else (i : Int) - (ym : Int)) = vju (vDd σ.1 z.toNat) g ym (n - ym) ym um := hv
        refine r_iload c84_45 rfl (r_aload c84_47 rfl (r_get c84_49 r1 rfl ?_))
        refine r_icge c84_52 (by omega) (by omega) (by omega) (by omega) (fun q => by exfalso; omega) (fun c_52 => ?_)
        refine r_aload c84_55 rfl (r_iload c84_57 rfl (r_ci c84_59 (r_ci c84_62 ?_)))
        refine r_iv3 c84_63 vr_12 hz2.1 rfl (k_pick (hi := 719) hz2 (by omega) (by omega) (by omega) (by omega) ?_)
        dsimp only [vpush]
        generalize vpk (vDd σ.1 z.toNat) e 719 0 = fd at *
        have from79 : ∀ due : Int, due = (if fd < 0 then -1 else fd) → vW (vCall (d + 3)) 84 Q 79 [.ref b, .int (iI x), .int (iI (ym : Int)), .int (iI z), .int (iI (um : Int)), .int (iI rf), .ref (vra b x.toNat), .ref (vpa b z.toNat + 7), .int (iI (e : Int)), .int (iI (i : Int)), .int (iI fd), v11] [.int (iI due)] h 0 0 := by
          intro due hdue
          have hdr : -1 ≤ due ∧ due ≤ 719 := by rw [hdue]; split <;> omega
          rw [← hdue] at hv'
          refine r_istore c84_79 rfl (r_aload c84_81 rfl (r_get c84_83 r1 rfl (r_iload c84_86 rfl (r_iald c84_88 r2 (by omega) (by omega) ?_))))
          try dsimp only [vst]
          rw [Int.toNat_natCast, r3 i (by omega)]
          refine r_iload c84_89 rfl ?_
          refine r_iceq c84_91 (by omega) (by omega) (by omega) (by omega) (fun c_91 => ?_) (fun c_91 => ?_)
          · rw [if_pos c_91] at hv'
            refine r_iload c84_99 rfl ?_
            refine r_ifge c84_101 (by omega) (by omega) (fun c_101 => ?_) (fun c_101 => ?_)
            · rw [if_neg (by omega)] at hv'
              obtain ⟨fn, rfl⟩ := Int.eq_ofNat_of_zero_le c_101
              refine r_iload c84_110 rfl (r_ci c84_112 (r_iadd c84_113 (r_istore c84_114 rfl (r_iinc c84_116 rfl rfl (r_goto c84_119 ?_)))))
              try dsimp only [vst]
              rw [vsu, vsu]
              exact ih (i + 1) (fn + 1) (by omega) (by omega) hv' _ _
            · rw [if_pos (by omega)] at hv'
              refine r_ci c84_104 (r_goto c84_107 (r_istore c84_114 rfl (r_iinc c84_116 rfl rfl (r_goto c84_119 ?_))))
              try dsimp only [vst]
              rw [vsu]
              exact ih (i + 1) 720 (by omega) (by omega) hv' _ _
          · rw [if_neg c_91] at hv'
            refine r_iload c84_94 rfl (r_iload c84_96 rfl (r_isub c84_97 ?_))
            refine r_iret (st := []) c84_98 ?_
            rw [← hv'] at k
            exact k
        refine r_istore c84_66 rfl (r_iload c84_68 rfl ?_)
        try dsimp only [vst]
        refine r_ifge c84_70 (by omega) (by omega) (fun c_70 => ?_) (fun c_70 => ?_)
        · refine r_iload c84_77 rfl ?_
          exact from79 fd (if_neg (by omega)).symm
        · refine r_ci c84_73 (r_goto c84_74 ?_)
          exact from79 (-1) (if_pos (by omega)).symm
    refine r_aload c84_19 rfl (r_get c84_20 a1 rfl (r_iload c84_23 rfl (r_aald c84_24 w1 (by omega) (by omega) (by omega) (w2 _ (by omega)) (r_astore c84_25 rfl (r_aload c84_27 rfl (r_get c84_28 a1 rfl (r_iload c84_31 rfl (r_aald c84_32 p1 (by omega) (by omega) (by omega) (p2 _ (by omega)) (r_get c84_33 hz.1 rfl (r_astore c84_36 rfl (r_iload c84_38 rfl (r_istore c84_40 rfl (r_iload c84_42 rfl (r_istore c84_43 rfl ?_))))))))))))))
    try dsimp only [vst]
    exact loop (n - ym) ym um (by omega) (by omega) rfl _ _
  · rw [if_neg c_13] at k
    refine r_iload c84_16 rfl ?_
    refine r_iret (st := []) c84_18 ?_
    exact k

