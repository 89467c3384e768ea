theorem ml_82 : vml 82 = 8 := by decide +kernel
theorem ml_83 : vml 83 = 10 := by decide +kernel
theorem c82_0 : vlk 82 0 = some (4, 1, 0, 0, 1) := by decide +kernel
theorem c82_1 : vlk 82 1 = some (59, 92, 0, 0, 4) := by decide +kernel
theorem c82_4 : vlk 82 4 = some (70, 14, 0, 0, 7) := by decide +kernel
theorem c82_7 : vlk 82 7 = some (4, 3, 0, 0, 8) := by decide +kernel
theorem c82_8 : vlk 82 8 = some (59, 92, 0, 0, 11) := by decide +kernel
theorem c82_11 : vlk 82 11 = some (71, 16, 0, 0, 14) := by decide +kernel
theorem c82_14 : vlk 82 14 = some (1, 0, 0, (-1), 15) := by decide +kernel
theorem c82_15 : vlk 82 15 = some (63, 0, 0, 0, 16) := by decide +kernel
theorem c82_16 : vlk 82 16 = some (6, 0, 0, 0, 17) := by decide +kernel
theorem c82_17 : vlk 82 17 = some (42, 5, 5, 0, 20) := by decide +kernel
theorem c82_20 : vlk 82 20 = some (4, 1, 0, 0, 21) := by decide +kernel
theorem c82_21 : vlk 82 21 = some (48, 0, 0, 0, 22) := by decide +kernel
theorem c82_22 : vlk 82 22 = some (9, 6, 0, 0, 24) := by decide +kernel
theorem c82_24 : vlk 82 24 = some (6, 0, 0, 0, 25) := by decide +kernel
theorem c82_25 : vlk 82 25 = some (42, 5, 5, 0, 28) := by decide +kernel
theorem c82_28 : vlk 82 28 = some (4, 3, 0, 0, 29) := by decide +kernel
theorem c82_29 : vlk 82 29 = some (48, 0, 0, 0, 30) := by decide +kernel
theorem c82_30 : vlk 82 30 = some (9, 7, 0, 0, 32) := by decide +kernel
theorem c82_32 : vlk 82 32 = some (6, 6, 0, 0, 34) := by decide +kernel
theorem c82_34 : vlk 82 34 = some (42, 4, 0, 0, 37) := by decide +kernel
theorem c82_40 : vlk 82 40 = some (6, 7, 0, 0, 42) := by decide +kernel
theorem c82_42 : vlk 82 42 = some (42, 4, 0, 0, 45) := by decide +kernel
theorem c82_48 : vlk 82 48 = some (1, 0, 0, (-11), 50) := by decide +kernel
theorem c82_50 : vlk 82 50 = some (63, 0, 0, 0, 51) := by decide +kernel
theorem c82_51 : vlk 82 51 = some (4, 5, 0, 0, 53) := by decide +kernel
theorem c82_53 : vlk 82 53 = some (72, 90, 0, 0, 56) := by decide +kernel
theorem c82_56 : vlk 82 56 = some (4, 2, 0, 0, 57) := by decide +kernel
theorem c82_57 : vlk 82 57 = some (72, 90, 0, 0, 60) := by decide +kernel
theorem c82_60 : vlk 82 60 = some (4, 4, 0, 0, 62) := by decide +kernel
theorem c82_62 : vlk 82 62 = some (72, 90, 0, 0, 65) := by decide +kernel
theorem c82_65 : vlk 82 65 = some (4, 2, 0, 0, 66) := by decide +kernel
theorem c82_66 : vlk 82 66 = some (6, 6, 0, 0, 68) := by decide +kernel
theorem c82_68 : vlk 82 68 = some (42, 4, 1, 0, 71) := by decide +kernel
theorem c82_71 : vlk 82 71 = some (4, 5, 0, 0, 73) := by decide +kernel
theorem c82_73 : vlk 82 73 = some (12, 0, 0, 0, 74) := by decide +kernel
theorem c82_74 : vlk 82 74 = some (80, 90, 0, 0, 77) := by decide +kernel
theorem c82_77 : vlk 82 77 = some (4, 4, 0, 0, 79) := by decide +kernel
theorem c82_79 : vlk 82 79 = some (6, 7, 0, 0, 81) := by decide +kernel
theorem c82_81 : vlk 82 81 = some (42, 4, 1, 0, 84) := by decide +kernel
theorem c82_84 : vlk 82 84 = some (4, 5, 0, 0, 86) := by decide +kernel
theorem c82_86 : vlk 82 86 = some (12, 0, 0, 0, 87) := by decide +kernel
theorem c82_87 : vlk 82 87 = some (81, 93, 0, 0, 90) := by decide +kernel
theorem c82_90 : vlk 82 90 = some (1, 0, 0, (-13), 92) := by decide +kernel
theorem c82_92 : vlk 82 92 = some (63, 0, 0, 0, 93) := by decide +kernel
theorem c82_93 : vlk 82 93 = some (6, 6, 0, 0, 95) := by decide +kernel
theorem c82_95 : vlk 82 95 = some (42, 4, 2, 0, 98) := by decide +kernel
theorem c82_98 : vlk 82 98 = some (4, 2, 0, 0, 99) := by decide +kernel
theorem c82_99 : vlk 82 99 = some (6, 7, 0, 0, 101) := by decide +kernel
theorem c82_101 : vlk 82 101 = some (42, 4, 2, 0, 104) := by decide +kernel
theorem c82_104 : vlk 82 104 = some (4, 4, 0, 0, 106) := by decide +kernel
theorem c82_106 : vlk 82 106 = some (4, 5, 0, 0, 108) := by decide +kernel
theorem c82_108 : vlk 82 108 = some (62, 0, 0, 0, 111) := by decide +kernel
theorem c82_111 : vlk 82 111 = some (4, 5, 0, 0, 113) := by decide +kernel
theorem c82_113 : vlk 82 113 = some (63, 0, 0, 0, 114) := by decide +kernel
theorem c83_0 : vlk 83 0 = some (6, 0, 0, 0, 1) := by decide +kernel
theorem c83_1 : vlk 83 1 = some (4, 1, 0, 0, 2) := by decide +kernel
theorem c83_2 : vlk 83 2 = some (4, 2, 0, 0, 3) := by decide +kernel
theorem c83_3 : vlk 83 3 = some (4, 3, 0, 0, 4) := by decide +kernel
theorem c83_4 : vlk 83 4 = some (4, 4, 0, 0, 6) := by decide +kernel
theorem c83_6 : vlk 83 6 = some (58, 100, 0, 0, 9) := by decide +kernel
theorem c83_9 : vlk 83 9 = some (7, 5, 0, 0, 11) := by decide +kernel
theorem c83_11 : vlk 83 11 = some (4, 5, 0, 0, 13) := by decide +kernel
theorem c83_13 : vlk 83 13 = some (70, 19, 0, 0, 16) := by decide +kernel
theorem c83_16 : vlk 83 16 = some (4, 5, 0, 0, 18) := by decide +kernel
theorem c83_18 : vlk 83 18 = some (63, 0, 0, 0, 19) := by decide +kernel
theorem c83_19 : vlk 83 19 = some (6, 0, 0, 0, 20) := by decide +kernel
theorem c83_20 : vlk 83 20 = some (42, 5, 5, 0, 23) := by decide +kernel
theorem c83_23 : vlk 83 23 = some (4, 1, 0, 0, 24) := by decide +kernel
theorem c83_24 : vlk 83 24 = some (48, 0, 0, 0, 25) := by decide +kernel
theorem c83_25 : vlk 83 25 = some (9, 6, 0, 0, 27) := by decide +kernel
theorem c83_27 : vlk 83 27 = some (6, 0, 0, 0, 28) := by decide +kernel
theorem c83_28 : vlk 83 28 = some (42, 5, 0, 0, 31) := by decide +kernel
theorem c83_31 : vlk 83 31 = some (4, 3, 0, 0, 32) := by decide +kernel
theorem c83_32 : vlk 83 32 = some (48, 0, 0, 0, 33) := by decide +kernel
theorem c83_33 : vlk 83 33 = some (42, 2, 4, 0, 36) := by decide +kernel
theorem c83_36 : vlk 83 36 = some (9, 7, 0, 0, 38) := by decide +kernel
theorem c83_38 : vlk 83 38 = some (4, 2, 0, 0, 39) := by decide +kernel
theorem c83_39 : vlk 83 39 = some (7, 8, 0, 0, 41) := by decide +kernel
theorem c83_41 : vlk 83 41 = some (4, 4, 0, 0, 43) := by decide +kernel
theorem c83_43 : vlk 83 43 = some (7, 9, 0, 0, 45) := by decide +kernel
theorem c83_45 : vlk 83 45 = some (4, 9, 0, 0, 47) := by decide +kernel
theorem c83_47 : vlk 83 47 = some (1, 0, 0, 720, 50) := by decide +kernel
theorem c83_50 : vlk 83 50 = some (79, 92, 0, 0, 53) := by decide +kernel
theorem c83_53 : vlk 83 53 = some (4, 8, 0, 0, 55) := by decide +kernel
theorem c83_55 : vlk 83 55 = some (6, 6, 0, 0, 57) := by decide +kernel
theorem c83_57 : vlk 83 57 = some (42, 4, 1, 0, 60) := by decide +kernel
theorem c83_60 : vlk 83 60 = some (79, 92, 0, 0, 63) := by decide +kernel
theorem c83_63 : vlk 83 63 = some (6, 7, 0, 0, 65) := by decide +kernel
theorem c83_65 : vlk 83 65 = some (4, 9, 0, 0, 67) := by decide +kernel
theorem c83_67 : vlk 83 67 = some (58, 1, 0, 0, 70) := by decide +kernel
theorem c83_70 : vlk 83 70 = some (70, 86, 0, 0, 73) := by decide +kernel
theorem c83_73 : vlk 83 73 = some (6, 6, 0, 0, 75) := by decide +kernel
theorem c83_75 : vlk 83 75 = some (42, 4, 2, 0, 78) := by decide +kernel
theorem c83_78 : vlk 83 78 = some (4, 8, 0, 0, 80) := by decide +kernel
theorem c83_80 : vlk 83 80 = some (4, 9, 0, 0, 82) := by decide +kernel
theorem c83_82 : vlk 83 82 = some (49, 0, 0, 0, 83) := by decide +kernel
theorem c83_83 : vlk 83 83 = some (10, 8, 0, 1, 86) := by decide +kernel
theorem c83_86 : vlk 83 86 = some (10, 9, 0, 1, 89) := by decide +kernel
theorem c83_89 : vlk 83 89 = some (37, 45, 0, 0, 92) := by decide +kernel
theorem c83_92 : vlk 83 92 = some (4, 8, 0, 0, 94) := by decide +kernel
theorem c83_94 : vlk 83 94 = some (4, 2, 0, 0, 95) := by decide +kernel
theorem c83_95 : vlk 83 95 = some (12, 0, 0, 0, 96) := by decide +kernel
theorem c83_96 : vlk 83 96 = some (63, 0, 0, 0, 97) := by decide +kernel
/-! lists: lay, move -/
def vla (D : vSt1) (n : Nat) : Nat → Nat → Nat → (Nat → Int) → Nat × (Nat → Int)
  | 0, _, pl, p => (pl, p)
  | v + 1, e, pl, p => if pl < n then (if D e = true then vla D n v (e + 1) (pl + 1) (vup p pl (e : Int)) else vla D n v (e + 1) pl p) else (pl, p)
def vQ_lay (σ : vSg) (x y z u : Int) : Int := if vQ_ref σ.2.2.2.2 x y z u = 0 then (match σ.2.2.2.2 x.toNat with
  | none => 0
  | some (n, p) => ((vla (vDd σ.1 z.toNat) n (720 - u.toNat) u.toNat y.toNat p).1 : Int) - y) else vQ_ref σ.2.2.2.2 x y z u
def vS_lay (σ : vSg) (x y z u : Int) : vSg := if vQ_ref σ.2.2.2.2 x y z u = 0 then (match σ.2.2.2.2 x.toNat with
  | none => σ
  | some (n, p) => vLu σ x.toNat (some (n, (vla (vDd σ.1 z.toNat) n (720 - u.toNat) u.toNat y.toNat p).2))) else σ
theorem k_lay {d b : Nat} {σ : vSg} {x y z u : Int} {h : vHp} {Q : vQ} (hR : vRD h b σ) (hO : vOk σ) (x1 : -2147483648 ≤ x) (x2 : x ≤ 2147483647) (y1 : -2147483648 ≤ y) (y2 : y ≤ 2147483647) (z1 : -2147483648 ≤ z) (z2 : z ≤ 2147483647) (u1 : -2147483648 ≤ u) (u2 : u ≤ 2147483647) (k : ∀ h', vRD h' b (vS_lay σ x y z u) → vFr (fun q => b ≤ q ∧ q < b + 243) h h' → Q (some (.int (iI (vQ_lay σ x y z u)))) h') : vCall (d + 4) 0 0 83 [.ref b, .int (iI x), .int (iI y), .int (iI z), .int (iI u)] h Q := by
  have hR0 := hR
  obtain ⟨a1, ⟨p, p1, p2⟩, ⟨s, s1, s2⟩, ⟨w, w1, w2⟩, a5, a6, a7, a8, ⟨J, a9⟩, b1, b2, b3⟩ := hR
  have hrr := vQ_ref_rg σ.2.2.2.2 x y z u
  unfold vQ_lay vS_lay at k
  refine vin 10 [_, _, _, _, _, _, _, _, _, _] ml_83 rfl rfl ?_
  refine r_aload c83_0 rfl (r_iload c83_1 rfl (r_iload c83_2 rfl (r_iload c83_3 rfl (r_iload c83_4 rfl ?_))))
  refine r_iv4 c83_6 vr_100 a1 rfl (k_refusalOf hR0 hO x1 x2 y1 y2 z1 z2 u1 u2 ?_)
  dsimp only [vpush]
  refine r_istore c83_9 rfl (r_iload c83_11 rfl ?_)
  try dsimp only [vst]
  refine r_ifeq c83_13 (by omega) (by omega) (fun c_13 => ?_) (fun c_13 => ?_)
  · rw [if_pos c_13, if_pos c_13] at k
    obtain ⟨gx, gz, gu, n, g, ho, gy1, gy2⟩ := vQ_ref0 c_13
    have hx := b1 x.toNat (by omega)
    have hn := (hO.2.2.2.2.1 x.toNat n g (by omega) ho).1
    rw [ho] at hx k
    dsimp only at k
    obtain ⟨f, r1, r2, r3⟩ := vRow_some hx
    have hz := a5 z.toNat (by omega)
    have hz2 : vDy h (vpa b z.toNat + 7) (vDd σ.1 z.toNat) := hz.2.2.2.2
    obtain ⟨ym, rfl⟩ := Int.eq_ofNat_of_zero_le gy1
    obtain ⟨um, rfl⟩ := Int.eq_ofNat_of_zero_le gu.1
    rw [Int.toNat_natCast, Int.toNat_natCast] at k
    generalize vQ_ref σ.2.2.2.2 x (ym : Int) z (um : Int) = rf at *
    have fin : ∀ (h1 : vHp) (pl e : Nat) (g1 f1 : Nat → Int), pl ≤ n → vla (vDd σ.1 z.toNat) n (720 - um) um ym g = (pl, g1) → hg h1 (vra b x.toNat) = some (.inr (4, [.int (iI 1), .int (iI (n : Int)), .ref (vra b x.toNat + 1)])) → hg h1 (vra b x.toNat + 1) = some (.inl (0, 30, .inl f1)) → (∀ i, i < 30 → f1 i = g1 i) → vFr (fun q => q = vra b x.toNat + 1) h h1 → vW (vCall (d + 3)) 83 Q 92 [.ref b, .int (iI x), .int (iI (ym : Int)), .int (iI z), .int (iI (um : Int)), .int (iI rf), .ref (vra b x.toNat), .ref (vpa b z.toNat + 7), .int (iI (pl : Int)), .int (iI (e : Int))] [] h1 0 0 := by
      intro h1 pl e g1 f1 hpl he q1 q2 q3 fr
      rw [he] at k
      dsimp only at k
      refine r_iload c83_92 rfl (r_iload c83_94 rfl (r_isub c83_95 ?_))
      refine r_iret (st := []) c83_96 ?_
      have fr2 : vFr (fun q => vra b x.toNat ≤ q ∧ q < vra b x.toNat + 2) h h1 := vFr_up fr (fun q e => by omega)
      exact k h1 (vRD_row hR0 (by omega) (vRow_mk q1 q2 q3) fr2) (vFr_up fr2 (fun q e => by unfold vra at e; omega))
    have loop : ∀ v e : Nat, e + v = 720 → ∀ (h1 : vHp) (pl : Nat) (g1 f1 : Nat → Int), pl ≤ n → vla (vDd σ.1 z.toNat) n (720 - um) um ym g = vla (vDd σ.1 z.toNat) n v e pl g1 → hg h1 (vra b x.toNat) = some (.inr (4, [.int (iI 1), .int (iI (n : Int)), .ref (vra b x.toNat + 1)])) → hg h1 (vra b x.toNat + 1) = some (.inl (0, 30, .inl f1)) → (∀ i, i < 30 → f1 i = g1 i) → vFr (fun q => q = vra b x.toNat + 1) h h1 → vW (vCall (d + 3)) 83 Q 45 [.ref b, .int (iI x), .int (iI (ym : Int)), .int (iI z), .int (iI (um : Int)), .int (iI rf), .ref (vra b x.toNat), .ref (vpa b z.toNat + 7), .int (iI (pl : Int)), .int (iI (e : Int))] [] h1 0 0 := by
      intro v
      induction v with
      | zero =>
        intro e hi h1 pl g1 f1 hpl he q1 q2 q3 fr
        refine r_iload c83_45 rfl (r_ci c83_47 ?_)
        refine r_icge c83_50 (by omega) (by omega) (by omega) (by omega) (fun c_50 => ?_) (fun q => by exfalso; omega)
        exact fin h1 pl e g1 f1 hpl he q1 q2 q3 fr
      | succ v ih =>
        intro e hi h1 pl g1 f1 hpl he q1 q2 q3 fr
        have he' := he.trans (show vla (vDd σ.1 z.toNat) n (v + 1) e pl g1 = (if pl < n then (if vDd σ.1 z.toNat e = true then vla (vDd σ.1 z.toNat) n v (e + 1) (pl + 1) (vup g1 pl (e : Int)) else vla (vDd σ.1 z.toNat) n v (e + 1) pl g1) else (pl, g1)) from rfl)
        have hz3 := vDy_fr hz2 fr (by unfold vpa vra; omega) (by unfold vpa vra; omega)
        refine r_iload c83_45 rfl (r_ci c83_47 ?_)
        refine r_icge c83_50 (by omega) (by omega) (by omega) (by omega) (fun q => by exfalso; omega) (fun c_50 => ?_)
        refine r_iload c83_53 rfl (r_aload c83_55 rfl (r_get c83_57 q1 rfl ?_))
        refine r_icge c83_60 (by omega) (by omega) (by omega) (by omega) (fun c_60 => ?_) (fun c_60 => ?_)
        · rw [if_neg (by omega)] at he'
          exact fin h1 pl e g1 f1 hpl he' q1 q2 q3 fr
        · rw [if_pos (by omega)] at he'
          refine r_aload c83_63 rfl (r_iload c83_65 rfl ?_)
          refine r_iv1 c83_67 vr_1 hz3.1 rfl (k_holdsN hz3 (by omega) (fun q => ?_) (fun q => ?_))
          · dsimp only [vpush]
            rw [if_pos q] at he'
            refine r_ifeq c83_70 (by omega) (by omega) (fun q => by exfalso; omega) (fun c_70 => ?_)
            refine r_aload c83_73 rfl (r_get c83_75 q1 rfl (r_iload c83_78 rfl (r_iload c83_80 rfl ?_)))
            refine r_iast c83_82 q2 (vFr_lo fr (by unfold vra; omega)) (by omega) (by omega) (fun h2 s2' => ?_)
            refine r_iinc c83_83 rfl rfl (r_iinc c83_86 rfl rfl (r_goto c83_89 ?_))
            try dsimp only [vst]
            rw [vsu, vsu]
            refine ih (e + 1) (by omega) h2 (pl + 1) _ _ (by omega) he' ((s2'.2.2.2 _ (by omega)).trans q1) s2'.2.2.1 (fun i hi2 => ?_) (vFr_tr fr (vFr_st s2'))
            unfold vup
            rw [Int.toNat_natCast]
            split
            · rfl
            · exact q3 i hi2
          · dsimp only [vpush]
            rw [if_neg (by rw [q]; decide)] at he'
            refine r_ifeq c83_70 (by omega) (by omega) (fun c_70 => ?_) (fun q => by exfalso; omega)
            refine r_iinc c83_86 rfl rfl (r_goto c83_89 ?_)
            try dsimp only [vst]
            rw [vsu]
            exact ih (e + 1) (by omega) h1 pl g1 f1 hpl he' q1 q2 q3 fr
    refine r_aload c83_19 rfl (r_get c83_20 a1 rfl (r_iload c83_23 rfl (r_aald c83_24 w1 (by omega) (by omega) (by omega) (w2 _ (by omega)) (r_astore c83_25 rfl (r_aload c83_27 rfl (r_get c83_28 a1 rfl (r_iload c83_31 rfl (r_aald c83_32 p1 (by omega) (by omega) (by omega) (p2 _ (by omega)) (r_get c83_33 hz.1 rfl (r_astore c83_36 rfl (r_iload c83_38 rfl (r_istore c83_39 rfl (r_iload c83_41 rfl (r_istore c83_43 rfl ?_))))))))))))))
    try dsimp only [vst]
    exact loop (720 - um) um (by omega) h ym g f (by omega) rfl r1 r2 r3 vFr_rf
  · rw [if_neg c_13, if_neg c_13] at k
    refine r_iload c83_16 rfl ?_
    refine r_iret (st := []) c83_18 ?_
    exact k h hR0 vFr_rf
/-- what a move asks of two lists -/
def vmo2 (l : vLst) (x z : Int) : Option ((Nat × (Nat → Int)) × (Nat × (Nat → Int))) := match l x.toNat, l z.toNat with
  | some a, some c => some (a, c)
  | _, _ => none
abbrev vmc (n1 n2 : Nat) (y u v : Int) : Prop := 0 ≤ v ∧ 0 ≤ y ∧ 0 ≤ u ∧ y ≤ (n1 : Int) - v ∧ u ≤ (n2 : Int) - v
def vQ_move (l : vLst) (x y z u v : Int) : Int := if (0 ≤ x ∧ x < 4) ∧ 0 ≤ z ∧ z < 4 then (match vmo2 l x z with
  | none => -11
  | some (a, c) => if vmc a.1 c.1 y u v then v else -13) else -1
def vS_move (σ : vSg) (x y z u v : Int) : vSg := if (0 ≤ x ∧ x < 4) ∧ 0 ≤ z ∧ z < 4 then (match vmo2 σ.2.2.2.2 x z with
  | none => σ
  | some (a, c) => if vmc a.1 c.1 y u v then vLu σ z.toNat (some (c.1, vcpy a.2 c.2 y.toNat u.toNat v.toNat)) else σ) else σ
theorem vRow_held {h : vHp} {a : Nat} {o : Option (Nat × (Nat → Int))} (hR : vRow h a o) : ∃ sz, hg h a = some (.inr (4, [.int (iI (vBi o.isSome)), .int (iI sz), .ref (a + 1)])) := by
  obtain ⟨sz, f, r1, r2, r3⟩ := hR
  exact ⟨sz, r1⟩
theorem k_move {d b : Nat} {σ : vSg} {x y z u v : Int} {h : vHp} {Q : vQ} (hR : vRD h b σ) (hO : vOk σ) (x1 : -2147483648 ≤ x) (x2 : x ≤ 2147483647) (y1 : -2147483648 ≤ y) (y2 : y ≤ 2147483647) (z1 : -2147483648 ≤ z) (z2 : z ≤ 2147483647) (u1 : -2147483648 ≤ u) (u2 : u ≤ 2147483647) (v1 : -2147483648 ≤ v) (v2 : v ≤ 2147483647) (k : ∀ h', vRD h' b (vS_move σ x y z u v) → vFr (fun q => b ≤ q ∧ q < b + 243) h h' → Q (some (.int (iI (vQ_move σ.2.2.2.2 x y z u v)))) h') : vCall (d + 2) 0 0 82 [.ref b, .int (iI x), .int (iI y), .int (iI z), .int (iI u), .int (iI v)] h Q := by
  have hR0 := hR
  obtain ⟨a1, ⟨p, p1, p2⟩, ⟨s, s1, s2⟩, ⟨w, w1, w2⟩, a5, a6, a7, a8, ⟨J, a9⟩, b1, b2, b3⟩ := hR
  unfold vQ_move vS_move at k
  have no : ¬ ((0 ≤ x ∧ x < 4) ∧ 0 ≤ z ∧ z < 4) → ∀ v6 v7 : Value, vW (vCall (d + 1)) 82 Q 14 [.ref b, .int (iI x), .int (iI y), .int (iI z), .int (iI u), .int (iI v), v6, v7] [] h 0 0 := fun q v6 v7 => by
    rw [if_neg q, if_neg q] at k
    refine r_ci c82_14 ?_
    refine r_iret (st := []) c82_15 ?_
    exact k h hR0 vFr_rf
  refine vin 8 [_, _, _, _, _, _, _, _] ml_82 rfl rfl ?_
  refine r_iload c82_0 rfl ?_
  refine r_is1 c82_1 vr_92 rfl (k_isList x1 x2 (fun e1 e2 => ?_) (fun e1 => ?_))
  · dsimp only [vpush]
    refine r_ifeq c82_4 (by omega) (by omega) (fun q => by exfalso; omega) (fun c_4 => ?_)
    refine r_iload c82_7 rfl ?_
    refine r_is1 c82_8 vr_92 rfl (k_isList z1 z2 (fun g1 g2 => ?_) (fun g1 => ?_))
    · dsimp only [vpush]
      rw [if_pos ⟨⟨e1, e2⟩, g1, g2⟩, if_pos ⟨⟨e1, e2⟩, g1, g2⟩] at k
      refine r_ifne c82_11 (by omega) (by omega) (fun c_11 => ?_) (fun q => by exfalso; omega)
      have hx := b1 x.toNat (by omega)
      have hz := b1 z.toNat (by omega)
      have hnx := hO.2.2.2.2.1 x.toNat
      have hnz := hO.2.2.2.2.1 z.toNat
      obtain ⟨sx, rx⟩ := vRow_held hx
      obtain ⟨sz, rz⟩ := vRow_held hz
      have no2 : vmo2 σ.2.2.2.2 x z = none → vW (vCall (d + 1)) 82 Q 48 [.ref b, .int (iI x), .int (iI y), .int (iI z), .int (iI u), .int (iI v), .ref (vra b x.toNat), .ref (vra b z.toNat)] [] h 0 0 := fun q => by
        rw [q] at k
        dsimp only at k
        refine r_ci c82_48 ?_
        refine r_iret (st := []) c82_50 ?_
        exact k h hR0 vFr_rf
      refine r_aload c82_16 rfl (r_get c82_17 a1 rfl (r_iload c82_20 rfl (r_aald c82_21 w1 (by omega) (by omega) (by omega) (w2 _ (by omega)) (r_astore c82_22 rfl (r_aload c82_24 rfl (r_get c82_25 a1 rfl (r_iload c82_28 rfl (r_aald c82_29 w1 (by omega) (by omega) (by omega) (w2 _ (by omega)) (r_astore c82_30 rfl (r_aload c82_32 rfl (r_get c82_34 rx rfl ?_)))))))))))
      try dsimp only [vst]
      refine vife (by decide +kernel : vlk 82 37 = some (70, 48, 0, 0, 40)) (fun c => ?_) (fun c => ?_)
      · refine no2 ?_
        unfold vmo2
        cases ho : σ.2.2.2.2 x.toNat with
        | none => rfl
        | some o => rw [ho] at c; cases c
      · refine r_aload c82_40 rfl (r_get c82_42 rz rfl ?_)
        refine vifb (by decide +kernel : vlk 82 45 = some (71, 51, 0, 0, 48)) (fun c2 => ?_) (fun c2 => ?_)
        · cases ho : σ.2.2.2.2 x.toNat with
          | none => rw [ho] at c; cases c
          | some o =>
            cases ho2 : σ.2.2.2.2 z.toNat with
            | none => rw [ho2] at c2; cases c2
            | some o2 =>
              obtain ⟨n1, g1'⟩ := o
              obtain ⟨n2, g2'⟩ := o2
              have em : vmo2 σ.2.2.2.2 x z = some ((n1, g1'), (n2, g2')) := by unfold vmo2; rw [ho, ho2]
              rw [em] at k
              dsimp only at k
              have hn1 := (hnx n1 g1' (by omega) ho).1
              have hn2 := (hnz n2 g2' (by omega) ho2).1
              rw [ho] at hx
              rw [ho2] at hz
              obtain ⟨f1, q1, q2, q3⟩ := vRow_some hx
              obtain ⟨f2, t1, t2, t3⟩ := vRow_some hz
              have no3 : ¬ vmc n1 n2 y u v → vW (vCall (d + 1)) 82 Q 90 [.ref b, .int (iI x), .int (iI y), .int (iI z), .int (iI u), .int (iI v), .ref (vra b x.toNat), .ref (vra b z.toNat)] [] h 0 0 := fun q => by
                rw [if_neg q, if_neg q] at k
                refine r_ci c82_90 ?_
                refine r_iret (st := []) c82_92 ?_
                exact k h hR0 vFr_rf
              refine r_iload c82_51 rfl ?_
              refine r_iflt c82_53 (by omega) (by omega) (fun c_53 => ?_) (fun c_53 => ?_)
              · exact no3 (by omega)
              · refine r_iload c82_56 rfl ?_
                refine r_iflt c82_57 (by omega) (by omega) (fun c_57 => ?_) (fun c_57 => ?_)
                · exact no3 (by omega)
                · refine r_iload c82_60 rfl ?_
                  refine r_iflt c82_62 (by omega) (by omega) (fun c_62 => ?_) (fun c_62 => ?_)
                  · exact no3 (by omega)
                  · refine r_iload c82_65 rfl (r_aload c82_66 rfl (r_get c82_68 q1 rfl (r_iload c82_71 rfl (r_isub c82_73 ?_))))
                    refine r_icgt c82_74 (by omega) (by omega) (by omega) (by omega) (fun c_74 => ?_) (fun c_74 => ?_)
                    · exact no3 (by omega)
                    · refine r_iload c82_77 rfl (r_aload c82_79 rfl (r_get c82_81 t1 rfl (r_iload c82_84 rfl (r_isub c82_86 ?_))))
                      refine r_icle c82_87 (by omega) (by omega) (by omega) (by omega) (fun c_87 => ?_) (fun c_87 => ?_)
                      · have hc : vmc n1 n2 y u v := ⟨by omega, by omega, by omega, by omega, by omega⟩
                        rw [if_pos hc, if_pos hc] at k
                        refine r_aload c82_93 rfl (r_get c82_95 q1 rfl (r_iload c82_98 rfl (r_aload c82_99 rfl (r_get c82_101 t1 rfl (r_iload c82_104 rfl (r_iload c82_106 rfl ?_))))))
                        refine r_acpy c82_108 q2 t2 (by unfold vra; omega) (by unfold vra; omega) (by omega) (by omega) (by omega) (by omega) (by omega) (Nat.le_of_ble_eq_true rfl) (fun h1 s1' => ?_)
                        refine r_iload c82_111 rfl ?_
                        refine r_iret (st := []) c82_113 ?_
                        have fr : vFr (fun q => vra b z.toNat ≤ q ∧ q < vra b z.toNat + 2) h h1 := vFr_up (vFr_st s1') (fun q e => by omega)
                        refine k h1 (vRD_row hR0 (by omega) (vRow_mk ((s1'.2.2.2 _ (by omega)).trans t1) s1'.2.2.1 (fun i hi => ?_)) fr) (vFr_up fr (fun q e => by unfold vra at e; omega))
                        unfold vcpy
                        split
                        · exact q3 _ (by omega)
                        · exact t3 i hi
                      · exact no3 (by omega)
        · refine no2 ?_
          unfold vmo2
          cases ho : σ.2.2.2.2 x.toNat with
          | none => rfl
          | some o =>
            cases ho2 : σ.2.2.2.2 z.toNat with
            | none => rfl
            | some o2 => rw [ho2] at c2; cases c2
    · dsimp only [vpush]
      refine r_ifne c82_11 (by omega) (by omega) (fun q => by exfalso; omega) (fun c_11 => ?_)
      exact no (by omega) _ _
  · dsimp only [vpush]
    refine r_ifeq c82_4 (by omega) (by omega) (fun c_4 => ?_) (fun q => by exfalso; omega)
    exact no (by omega) _ _

