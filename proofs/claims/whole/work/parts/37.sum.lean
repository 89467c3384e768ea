theorem ml_35 : vml 35 = 3 := by decide +kernel
theorem ml_38 : vml 38 = 7 := by decide +kernel
theorem ml_39 : vml 39 = 6 := by decide +kernel
theorem vr_8 : vrc 8 = some (0, 1) := by decide +kernel
theorem vr_39 : vrc 39 = some (3, 2) := by decide +kernel
theorem vr_40 : vrc 40 = some (3, 2) := by decide +kernel
theorem c35_0 : vlk 35 0 = some (6, 0, 0, 0, 1) := by decide +kernel
theorem c35_1 : vlk 35 1 = some (1, 0, 0, 0, 2) := by decide +kernel
theorem c35_2 : vlk 35 2 = some (43, 3, 2, 0, 5) := by decide +kernel
theorem c35_5 : vlk 35 5 = some (6, 0, 0, 0, 6) := by decide +kernel
theorem c35_6 : vlk 35 6 = some (1, 0, 0, 0, 7) := by decide +kernel
theorem c35_7 : vlk 35 7 = some (6, 1, 0, 0, 8) := by decide +kernel
theorem c35_8 : vlk 35 8 = some (58, 38, 0, 0, 11) := by decide +kernel
theorem c35_11 : vlk 35 11 = some (9, 2, 0, 0, 12) := by decide +kernel
theorem c35_12 : vlk 35 12 = some (6, 0, 0, 0, 13) := by decide +kernel
theorem c35_13 : vlk 35 13 = some (42, 3, 2, 0, 16) := by decide +kernel
theorem c35_16 : vlk 35 16 = some (6, 0, 0, 0, 17) := by decide +kernel
theorem c35_17 : vlk 35 17 = some (42, 3, 1, 0, 20) := by decide +kernel
theorem c35_20 : vlk 35 20 = some (79, 27, 0, 0, 23) := by decide +kernel
theorem c35_23 : vlk 35 23 = some (3, 0, 0, 0, 24) := by decide +kernel
theorem c35_24 : vlk 35 24 = some (37, 28, 0, 0, 27) := by decide +kernel
theorem c35_27 : vlk 35 27 = some (6, 2, 0, 0, 28) := by decide +kernel
theorem c35_28 : vlk 35 28 = some (65, 0, 0, 0, 29) := by decide +kernel
theorem c38_0 : vlk 38 0 = some (4, 1, 0, 0, 1) := by decide +kernel
theorem c38_1 : vlk 38 1 = some (72, 9, 0, 0, 4) := by decide +kernel
theorem c38_4 : vlk 38 4 = some (4, 1, 0, 0, 5) := by decide +kernel
theorem c38_5 : vlk 38 5 = some (1, 0, 0, 5, 6) := by decide +kernel
theorem c38_6 : vlk 38 6 = some (81, 11, 0, 0, 9) := by decide +kernel
theorem c38_11 : vlk 38 11 = some (6, 0, 0, 0, 12) := by decide +kernel
theorem c38_12 : vlk 38 12 = some (42, 3, 3, 0, 15) := by decide +kernel
theorem c38_15 : vlk 38 15 = some (4, 1, 0, 0, 16) := by decide +kernel
theorem c38_16 : vlk 38 16 = some (48, 0, 0, 0, 17) := by decide +kernel
theorem c38_17 : vlk 38 17 = some (9, 3, 0, 0, 18) := by decide +kernel
theorem c38_18 : vlk 38 18 = some (6, 3, 0, 0, 19) := by decide +kernel
theorem c38_19 : vlk 38 19 = some (58, 4, 0, 0, 22) := by decide +kernel
theorem c38_22 : vlk 38 22 = some (1, 0, 0, 0, 23) := by decide +kernel
theorem c38_23 : vlk 38 23 = some (7, 4, 0, 0, 25) := by decide +kernel
theorem c38_25 : vlk 38 25 = some (1, 0, 0, 0, 26) := by decide +kernel
theorem c38_26 : vlk 38 26 = some (7, 5, 0, 0, 28) := by decide +kernel
theorem c38_28 : vlk 38 28 = some (4, 5, 0, 0, 30) := by decide +kernel
theorem c38_30 : vlk 38 30 = some (1, 0, 0, 80, 32) := by decide +kernel
theorem c38_32 : vlk 38 32 = some (80, 100, 0, 0, 35) := by decide +kernel
theorem c38_35 : vlk 38 35 = some (6, 0, 0, 0, 36) := by decide +kernel
theorem c38_36 : vlk 38 36 = some (4, 1, 0, 0, 37) := by decide +kernel
theorem c38_37 : vlk 38 37 = some (6, 2, 0, 0, 38) := by decide +kernel
theorem c38_38 : vlk 38 38 = some (58, 39, 0, 0, 41) := by decide +kernel
theorem c38_41 : vlk 38 41 = some (9, 6, 0, 0, 43) := by decide +kernel
theorem c38_43 : vlk 38 43 = some (6, 6, 0, 0, 45) := by decide +kernel
theorem c38_45 : vlk 38 45 = some (41, 50, 0, 0, 48) := by decide +kernel
theorem c38_48 : vlk 38 48 = some (3, 0, 0, 0, 49) := by decide +kernel
theorem c38_49 : vlk 38 49 = some (65, 0, 0, 0, 50) := by decide +kernel
theorem c38_50 : vlk 38 50 = some (4, 4, 0, 0, 52) := by decide +kernel
theorem c38_55 : vlk 38 55 = some (6, 3, 0, 0, 56) := by decide +kernel
theorem c38_56 : vlk 38 56 = some (6, 6, 0, 0, 58) := by decide +kernel
theorem c38_58 : vlk 38 58 = some (58, 7, 0, 0, 61) := by decide +kernel
theorem c38_61 : vlk 38 61 = some (37, 70, 0, 0, 64) := by decide +kernel
theorem c38_64 : vlk 38 64 = some (6, 3, 0, 0, 65) := by decide +kernel
theorem c38_65 : vlk 38 65 = some (6, 6, 0, 0, 67) := by decide +kernel
theorem c38_67 : vlk 38 67 = some (58, 6, 0, 0, 70) := by decide +kernel
theorem c38_70 : vlk 38 70 = some (6, 0, 0, 0, 71) := by decide +kernel
theorem c38_71 : vlk 38 71 = some (1, 0, 0, 47, 73) := by decide +kernel
theorem c38_73 : vlk 38 73 = some (58, 37, 0, 0, 76) := by decide +kernel
theorem c38_76 : vlk 38 76 = some (7, 4, 0, 0, 78) := by decide +kernel
theorem c38_78 : vlk 38 78 = some (4, 4, 0, 0, 80) := by decide +kernel
theorem c38_80 : vlk 38 80 = some (71, 94, 0, 0, 83) := by decide +kernel
theorem c38_83 : vlk 38 83 = some (6, 0, 0, 0, 84) := by decide +kernel
theorem c38_84 : vlk 38 84 = some (1, 0, 0, 124, 86) := by decide +kernel
theorem c38_86 : vlk 38 86 = some (58, 37, 0, 0, 89) := by decide +kernel
theorem c38_89 : vlk 38 89 = some (71, 94, 0, 0, 92) := by decide +kernel
theorem c38_92 : vlk 38 92 = some (6, 3, 0, 0, 93) := by decide +kernel
theorem c38_93 : vlk 38 93 = some (65, 0, 0, 0, 94) := by decide +kernel
theorem c38_94 : vlk 38 94 = some (10, 5, 0, 1, 97) := by decide +kernel
theorem c38_97 : vlk 38 97 = some (37, 28, 0, 0, 100) := by decide +kernel
theorem c38_100 : vlk 38 100 = some (3, 0, 0, 0, 101) := by decide +kernel
theorem c38_101 : vlk 38 101 = some (65, 0, 0, 0, 102) := by decide +kernel
theorem c39_0 : vlk 39 0 = some (6, 0, 0, 0, 1) := by decide +kernel
theorem c39_1 : vlk 39 1 = some (42, 3, 4, 0, 4) := by decide +kernel
theorem c39_4 : vlk 39 4 = some (4, 1, 0, 0, 5) := by decide +kernel
theorem c39_5 : vlk 39 5 = some (48, 0, 0, 0, 6) := by decide +kernel
theorem c39_6 : vlk 39 6 = some (9, 3, 0, 0, 7) := by decide +kernel
theorem c39_7 : vlk 39 7 = some (6, 3, 0, 0, 8) := by decide +kernel
theorem c39_8 : vlk 39 8 = some (58, 4, 0, 0, 11) := by decide +kernel
theorem c39_11 : vlk 39 11 = some (6, 3, 0, 0, 12) := by decide +kernel
theorem c39_12 : vlk 39 12 = some (58, 9, 0, 0, 15) := by decide +kernel
theorem c39_15 : vlk 39 15 = some (1, 0, 0, 0, 16) := by decide +kernel
theorem c39_16 : vlk 39 16 = some (7, 4, 0, 0, 18) := by decide +kernel
theorem c39_18 : vlk 39 18 = some (4, 4, 0, 0, 20) := by decide +kernel
theorem c39_20 : vlk 39 20 = some (1, 0, 0, 80, 22) := by decide +kernel
theorem c39_22 : vlk 39 22 = some (80, 63, 0, 0, 25) := by decide +kernel
theorem c39_25 : vlk 39 25 = some (6, 0, 0, 0, 26) := by decide +kernel
theorem c39_26 : vlk 39 26 = some (4, 1, 0, 0, 27) := by decide +kernel
theorem c39_27 : vlk 39 27 = some (6, 2, 0, 0, 28) := by decide +kernel
theorem c39_28 : vlk 39 28 = some (58, 40, 0, 0, 31) := by decide +kernel
theorem c39_31 : vlk 39 31 = some (9, 5, 0, 0, 33) := by decide +kernel
theorem c39_33 : vlk 39 33 = some (6, 5, 0, 0, 35) := by decide +kernel
theorem c39_35 : vlk 39 35 = some (41, 40, 0, 0, 38) := by decide +kernel
theorem c39_38 : vlk 39 38 = some (3, 0, 0, 0, 39) := by decide +kernel
theorem c39_39 : vlk 39 39 = some (65, 0, 0, 0, 40) := by decide +kernel
theorem c39_40 : vlk 39 40 = some (6, 3, 0, 0, 41) := by decide +kernel
theorem c39_41 : vlk 39 41 = some (6, 5, 0, 0, 43) := by decide +kernel
theorem c39_43 : vlk 39 43 = some (58, 8, 0, 0, 46) := by decide +kernel
theorem c39_46 : vlk 39 46 = some (6, 0, 0, 0, 47) := by decide +kernel
theorem c39_47 : vlk 39 47 = some (1, 0, 0, 38, 49) := by decide +kernel
theorem c39_49 : vlk 39 49 = some (58, 37, 0, 0, 52) := by decide +kernel
theorem c39_52 : vlk 39 52 = some (71, 57, 0, 0, 55) := by decide +kernel
theorem c39_55 : vlk 39 55 = some (6, 3, 0, 0, 56) := by decide +kernel
theorem c39_56 : vlk 39 56 = some (65, 0, 0, 0, 57) := by decide +kernel
theorem c39_57 : vlk 39 57 = some (10, 4, 0, 1, 60) := by decide +kernel
theorem c39_60 : vlk 39 60 = some (37, 18, 0, 0, 63) := by decide +kernel
theorem c39_63 : vlk 39 63 = some (3, 0, 0, 0, 64) := by decide +kernel
theorem c39_64 : vlk 39 64 = some (65, 0, 0, 0, 65) := by decide +kernel
/-! Reader: products, sums, the whole text -/
def vXg (r dep q : Nat) : Prop := q = r ∨ (r + 5 + 6 * dep + 2 ≤ q ∧ q < r + 41)
theorem vXg_f {r dep : Nat} {h h1 : vHp} (f : vFr (vXf r dep) h h1) : vFr (vXg r dep) h h1 := vFr_up f (fun q e => by unfold vXf at e; unfold vXg; omega)
theorem vXg_r {r dep : Nat} {h h1 : vHp} (f : vFr (fun q => q = r) h h1) : vFr (vXg r dep) h h1 := vFr_up f (fun q e => Or.inl e)
theorem vXg_j {r dep : Nat} {h h1 : vHp} (hd : dep ≤ 5) (f : vFr (fun q => q = r + 5 + 2 * (3 * dep + 1) + 1) h h1) : vFr (vXg r dep) h h1 := vFr_up f (fun q e => by unfold vXg; omega)
theorem vXd_g {r dep : Nat} {h h1 : vHp} (f : vFr (vXg r dep) h h1) : vFr (vXd r dep) h h1 := vFr_up f (fun q e => by unfold vXg at e; unfold vXd; omega)
theorem vXd_j0 {r dep : Nat} {h h1 : vHp} (hd : dep ≤ 5) (f : vFr (fun q => q = r + 5 + 2 * (3 * dep) + 1) h h1) : vFr (vXd r dep) h h1 := vFr_up f (fun q e => by unfold vXd; omega)
theorem vth_none {s : vPr} {g : Nat → vSt1 → vPr} (e : s.2 = none) : vth s g = (s.1, none) := by unfold vth; rw [e]
theorem vth_some {s : vPr} {g : Nat → vSt1 → vPr} {S : vSt1} (e : s.2 = some S) : vth s g = g s.1 S := by unfold vth; rw [e]
theorem vfac_ok {n : Nat} {t : Nat → Int} {D : Nat → vSt1} {f : Option (Nat → vPr)} (hf : f = none ∨ ∃ e, f = some (vex n t D e)) : ∀ p, p ≤ n → vok n p (vpf n t D f p) := fun p hp => vpf_ok (fun g hg => by
  rcases hf with q | ⟨e, q⟩
  · rw [q] at hg; cases hg
  · rw [q] at hg
    have : vex n t D e = g := by simpa using hg
    subst this
    exact vex_ok e) hp
theorem k_product {r n pl pr : Nat} {t : Nat → Int} {pa : Nat → Nat} {D : Nat → vSt1} {d dep : Nat} {f : Option (Nat → vPr)} {h : vHp} {Q : vQ} (hP : vPx h r n t pr pa D pl) (hd5 : dep ≤ 5) (hf : (dep = 5 ∧ f = none) ∨ ∃ e, dep + 1 + e = 5 ∧ f = some (vex n t D e) ∧ vKs (d + 4) r n t pr pa D (dep + 1) e) (hpl : pl ≤ n) (kN : (vpd n t (vpf n t D f) 81 (fun _ => true) pl).2 = none → ∀ h', vPx h' r n t pr pa D (vpd n t (vpf n t D f) 81 (fun _ => true) pl).1 → vFr (vXg r dep) h h' → Q (some .null) h') (kS : ∀ S, (vpd n t (vpf n t D f) 81 (fun _ => true) pl).2 = some S → ∀ h', vPx h' r n t pr pa D (vpd n t (vpf n t D f) 81 (fun _ => true) pl).1 → vDy h' (r + 5 + 2 * (3 * dep + 1)) S → vFr (vXg r dep) h h' → Q (some (.ref (r + 5 + 2 * (3 * dep + 1)))) h') : vCall (d + 9) 0 0 39 [.ref r, .int (iI (dep : Int)), .ref pr] h Q := by
  have ho := hP.1
  unfold vRo at ho
  have hT := hP.2.2.2.2.2.2.1
  have hn := hT.1
  have hlo := hP.2.2.2.2.2.1
  have fok := vfac_ok (f := f) (n := n) (t := t) (D := D) (by rcases hf with q | ⟨e, -, q, -⟩; exact Or.inl q.2; exact Or.inr ⟨e, q⟩)
  have loop : ∀ u i : Nat, i + u = 81 → ∀ (h1 : vHp) (A : vSt1) (p1 : Nat) (x5 : Value), vpd n t (vpf n t D f) 81 (fun _ => true) pl = vpd n t (vpf n t D f) u A p1 → p1 ≤ n → vPx h1 r n t pr pa D p1 → vDy h1 (r + 5 + 2 * (3 * dep + 1)) A → vFr (vXg r dep) h h1 → vW (vCall (d + 8)) 39 Q 18 [.ref r, .int (iI (dep : Int)), .ref pr, .ref (r + 5 + 2 * (3 * dep + 1)), .int (iI (i : Int)), x5] [] h1 0 0 := by
    intro u
    induction u with
    | zero =>
      intro i hi h1 A p1 x5 he hp1 hP1 hA f1
      rw [he] at kN
      refine r_iload c39_18 rfl (r_ci c39_20 ?_)
      refine r_icgt c39_22 (by omega) (by omega) (by omega) (by omega) (fun c_22 => ?_) (fun q => by exfalso; omega)
      refine r_null c39_63 ?_
      refine r_aretN (st := []) c39_64 ?_
      exact kN rfl h1 hP1 f1
    | succ u ihu =>
      intro i hi h1 A p1 x5 he hp1 hP1 hA f1
      have he2 := he.trans (show vpd n t (vpf n t D f) (u + 1) A p1 = vth (vpf n t D f p1) (fun q S => if vch n t q = 38 then vpd n t (vpf n t D f) u (fun d => A d && S d) (q + 1) else (q, some (fun d => A d && S d))) from rfl)
      have ho1 := hP1.1
      unfold vRo at ho1
      have fo := fok p1 hp1
      refine r_iload c39_18 rfl (r_ci c39_20 ?_)
      refine r_icgt c39_22 (by omega) (by omega) (by omega) (by omega) (fun q => by exfalso; omega) (fun c_22 => ?_)
      refine r_aload c39_25 rfl (r_iload c39_26 rfl (r_aload c39_27 rfl ?_))
      refine r_iv2 c39_28 vr_40 ho1 rfl (k_factor hP1 hd5 hf hp1 (fun e1 h2 hP2 f2 => ?_) (fun S e1 h2 hP2 hS2 f2 => ?_))
      · dsimp only [vpush]
        rw [he2, vth_none e1] at kN
        refine r_astoreN c39_31 rfl (r_aloadN c39_33 rfl ?_)
        try dsimp only [vst]
        refine r_ifnonN c39_35 ?_
        refine r_null c39_38 ?_
        refine r_aretN (st := []) c39_39 ?_
        exact kN rfl h2 hP2 (vFr_tr f1 (vXg_f f2))
      · dsimp only [vpush]
        rw [vth_some e1] at he2
        have hA2 := vDy_fr hA f2 (by unfold vXf; omega) (by unfold vXf; omega)
        refine r_astore c39_31 rfl (r_aload c39_33 rfl ?_)
        try dsimp only [vst]
        refine r_ifnonR c39_35 ?_
        refine r_aload c39_40 rfl (r_aload c39_41 rfl ?_)
        refine r_iv1 c39_43 vr_8 hA2.1 rfl (k_keepAll hA2 hS2 (by omega) (by have := hP2.2.2.2.2.2.1; omega) (fun h3 hA3 f3 => ?_))
        dsimp only [vpush]
        have hP3 := vPx_dy hP2 (by omega) hA3 f3
        have ho3 := hP3.1
        unfold vRo at ho3
        have fr3 := vFr_tr (vFr_tr f1 (vXg_f f2)) (vXg_j hd5 f3)
        refine r_aload c39_46 rfl (r_ci c39_47 ?_)
        refine r_iv1 c39_49 vr_37 ho3 rfl (k_take hP3.1 hP3.2.1.1 hT (by have := fo.2.1; omega) hP3.2.2.2.2.2.1 (by omega) (by omega) (fun q h4 ho4 f4 => ?_) (fun q => ?_))
        · dsimp only [vpush]
          rw [if_pos q] at he2
          have hl := vch_lt (n := n) (t := t) (p := (vpf n t D f p1).1) (by omega)
          refine r_ifne c39_52 (by omega) (by omega) (fun c_52 => ?_) (fun q => by exfalso; omega)
          refine r_iinc c39_57 rfl rfl (r_goto c39_60 ?_)
          try dsimp only [vst]
          rw [vsu]
          exact ihu (i + 1) (by omega) h4 _ _ _ he2 hl (vPx_pl hP3 ho4 f4) (vDy_fr hA3 f4 (by omega) (by omega)) (vFr_tr fr3 (vXg_r f4))
        · dsimp only [vpush]
          rw [if_neg q] at he2
          rw [he2] at kS
          refine r_ifne c39_52 (by omega) (by omega) (fun q => by exfalso; omega) (fun c_52 => ?_)
          refine r_aload c39_55 rfl ?_
          refine r_aret (st := []) c39_56 ?_
          exact kS _ rfl h3 hP3 hA3 fr3
  obtain ⟨-, -, ⟨p, p1, p2⟩, -⟩ := hP.2.1
  obtain ⟨S0, hS0⟩ := hP.2.2.1 (3 * dep + 1) (by omega)
  refine vin 6 [_, _, _, _, _, _] ml_39 rfl rfl ?_
  refine r_aload c39_0 rfl (r_get c39_1 ho rfl (r_iload c39_4 rfl (r_aald c39_5 p1 (by omega) (by omega) (by omega) (by rw [Int.toNat_natCast]; exact p2 dep (by omega)) (r_astore c39_6 rfl (r_aload c39_7 rfl ?_)))))
  try dsimp only [vst]
  refine r_iv0 c39_8 vr_4 hS0.1 rfl (k_wipe hS0 (by omega) (fun h1 hS1 f1 => ?_))
  dsimp only [vpush]
  have hP1 := vPx_dy hP (by omega) hS1 f1
  refine r_aload c39_11 rfl ?_
  refine r_iv0 c39_12 vr_9 hS1.1 rfl (k_invert hS1 (by have := hP1.2.2.2.2.2.1; omega) (fun h2 hS2 f2 => ?_))
  dsimp only [vpush]
  have hP2 := vPx_dy hP1 (by omega) hS2 f2
  refine r_ci c39_15 (r_istore c39_16 rfl ?_)
  try dsimp only [vst]
  exact loop 81 0 rfl h2 (fun _ => true) pl _ rfl hpl hP2 (vDy_cg hS2 (fun m hm => rfl)) (vFr_tr (vXg_j hd5 f1) (vXg_j hd5 f2))
theorem k_sum {r n pl pr : Nat} {t : Nat → Int} {pa : Nat → Nat} {D : Nat → vSt1} {d dep : Nat} {f : Option (Nat → vPr)} {h : vHp} {Q : vQ} (hP : vPx h r n t pr pa D pl) (hd5 : dep ≤ 5) (hf : (dep = 5 ∧ f = none) ∨ ∃ e, dep + 1 + e = 5 ∧ f = some (vex n t D e) ∧ vKs (d + 4) r n t pr pa D (dep + 1) e) (hpl : pl ≤ n) (kN : (vpz n t (vpd n t (vpf n t D f) 81 (fun _ => true)) 81 false (fun _ => false) pl).2 = none → ∀ h', vPx h' r n t pr pa D (vpz n t (vpd n t (vpf n t D f) 81 (fun _ => true)) 81 false (fun _ => false) pl).1 → vFr (vXd r dep) h h' → Q (some .null) h') (kS : ∀ S, (vpz n t (vpd n t (vpf n t D f) 81 (fun _ => true)) 81 false (fun _ => false) pl).2 = some S → ∀ h', vPx h' r n t pr pa D (vpz n t (vpd n t (vpf n t D f) 81 (fun _ => true)) 81 false (fun _ => false) pl).1 → vDy h' (r + 5 + 2 * (3 * dep)) S → vFr (vXd r dep) h h' → Q (some (.ref (r + 5 + 2 * (3 * dep)))) h') : vCall (d + 10) 0 0 38 [.ref r, .int (iI (dep : Int)), .ref pr] h Q := by
  have ho := hP.1
  unfold vRo at ho
  have hT := hP.2.2.2.2.2.2.1
  have hn := hT.1
  have hlo := hP.2.2.2.2.2.1
  have fok := vfac_ok (f := f) (n := n) (t := t) (D := D) (by rcases hf with q | ⟨e, -, q, -⟩; exact Or.inl q.2; exact Or.inr ⟨e, q⟩)
  have loop : ∀ u i : Nat, i + u = 81 → ∀ (h1 : vHp) (w : Bool) (A : vSt1) (p1 : Nat) (x6 : Value), vpz n t (vpd n t (vpf n t D f) 81 (fun _ => true)) 81 false (fun _ => false) pl = vpz n t (vpd n t (vpf n t D f) 81 (fun _ => true)) u w A p1 → p1 ≤ n → vPx h1 r n t pr pa D p1 → vDy h1 (r + 5 + 2 * (3 * dep)) A → vFr (vXd r dep) h h1 → vW (vCall (d + 9)) 38 Q 28 [.ref r, .int (iI (dep : Int)), .ref pr, .ref (r + 5 + 2 * (3 * dep)), .int (iI (vBi w)), .int (iI (i : Int)), x6] [] h1 0 0 := by
    intro u
    induction u with
    | zero =>
      intro i hi h1 w A p1 x6 he hp1 hP1 hA f1
      rw [he] at kN
      refine r_iload c38_28 rfl (r_ci c38_30 ?_)
      refine r_icgt c38_32 (by omega) (by omega) (by omega) (by omega) (fun c_32 => ?_) (fun q => by exfalso; omega)
      refine r_null c38_100 ?_
      refine r_aretN (st := []) c38_101 ?_
      exact kN rfl h1 hP1 f1
    | succ u ihu =>
      intro i hi h1 w A p1 x6 he hp1 hP1 hA f1
      have he2 := he.trans (show vpz n t (vpd n t (vpf n t D f) 81 (fun _ => true)) (u + 1) w A p1 = vth (vpd n t (vpf n t D f) 81 (fun _ => true) p1) (fun q S => if vch n t q = 47 then vpz n t (vpd n t (vpf n t D f) 81 (fun _ => true)) u true (fun d => if w = true then A d && !S d else A d || S d) (q + 1) else if vch n t q = 124 then vpz n t (vpd n t (vpf n t D f) 81 (fun _ => true)) u false (fun d => if w = true then A d && !S d else A d || S d) (q + 1) else (q, some (fun d => if w = true then A d && !S d else A d || S d))) from rfl)
      have ho1 := hP1.1
      unfold vRo at ho1
      have fo := vpd_ok fok 81 (fun _ => true) p1 hp1 (t := t)
      refine r_iload c38_28 rfl (r_ci c38_30 ?_)
      refine r_icgt c38_32 (by omega) (by omega) (by omega) (by omega) (fun q => by exfalso; omega) (fun c_32 => ?_)
      refine r_aload c38_35 rfl (r_iload c38_36 rfl (r_aload c38_37 rfl ?_))
      refine r_iv2 c38_38 vr_39 ho1 rfl (k_product hP1 hd5 hf hp1 (fun e1 h2 hP2 f2 => ?_) (fun S e1 h2 hP2 hS2 f2 => ?_))
      · dsimp only [vpush]
        rw [he2, vth_none e1] at kN
        refine r_astoreN c38_41 rfl (r_aloadN c38_43 rfl ?_)
        try dsimp only [vst]
        refine r_ifnonN c38_45 ?_
        refine r_null c38_48 ?_
        refine r_aretN (st := []) c38_49 ?_
        exact kN rfl h2 hP2 (vFr_tr f1 (vXd_g f2))
      · dsimp only [vpush]
        rw [vth_some e1] at he2
        have hA2 := vDy_fr hA f2 (by unfold vXg; omega) (by unfold vXg; omega)
        have hl2 : h2.1.1 ≤ r + 5 + 2 * (3 * dep) := by have := hP2.2.2.2.2.2.1; omega
        have from70 : ∀ h3, vDy h3 (r + 5 + 2 * (3 * dep)) (fun d => if w = true then A d && !S d else A d || S d) → vFr (fun q => q = r + 5 + 2 * (3 * dep) + 1) h2 h3 → vW (vCall (d + 9)) 38 Q 70 [.ref r, .int (iI (dep : Int)), .ref pr, .ref (r + 5 + 2 * (3 * dep)), .int (iI (vBi w)), .int (iI (i : Int)), .ref (r + 5 + 2 * (3 * dep + 1))] [] h3 0 0 := by
          intro h3 hA3 f3
          have hP3 := vPx_dy hP2 (by omega) hA3 f3
          have ho3 := hP3.1
          unfold vRo at ho3
          have fr3 := vFr_tr (vFr_tr f1 (vXd_g f2)) (vXd_j0 hd5 f3)
          refine r_aload c38_70 rfl (r_ci c38_71 ?_)
          refine r_iv1 c38_73 vr_37 ho3 rfl (k_take hP3.1 hP3.2.1.1 hT (by have := fo.2.1; omega) hP3.2.2.2.2.2.1 (by omega) (by omega) (fun q h4 ho4 f4 => ?_) (fun q => ?_))
          · dsimp only [vpush]
            rw [if_pos q] at he2
            have hl := vch_lt (n := n) (t := t) (p := (vpd n t (vpf n t D f) 81 (fun _ => true) p1).1) (by omega)
            refine r_istore c38_76 rfl (r_iload c38_78 rfl ?_)
            try dsimp only [vst]
            refine r_ifne c38_80 (by omega) (by omega) (fun c_80 => ?_) (fun q => by exfalso; omega)
            refine r_iinc c38_94 rfl rfl (r_goto c38_97 ?_)
            try dsimp only [vst]
            rw [vsu]
            exact ihu (i + 1) (by omega) h4 true _ _ _ he2 hl (vPx_pl hP3 ho4 f4) (vDy_fr hA3 f4 (by omega) (by omega)) (vFr_tr fr3 (vXd_r f4))
          · dsimp only [vpush]
            rw [if_neg q] at he2
            refine r_istore c38_76 rfl (r_iload c38_78 rfl ?_)
            try dsimp only [vst]
            refine r_ifne c38_80 (by omega) (by omega) (fun q => by exfalso; omega) (fun c_80 => ?_)
            refine r_aload c38_83 rfl (r_ci c38_84 ?_)
            refine r_iv1 c38_86 vr_37 ho3 rfl (k_take hP3.1 hP3.2.1.1 hT (by have := fo.2.1; omega) hP3.2.2.2.2.2.1 (by omega) (by omega) (fun q2 h4 ho4 f4 => ?_) (fun q2 => ?_))
            · dsimp only [vpush]
              rw [if_pos q2] at he2
              have hl := vch_lt (n := n) (t := t) (p := (vpd n t (vpf n t D f) 81 (fun _ => true) p1).1) (by omega)
              refine r_ifne c38_89 (by omega) (by omega) (fun c_89 => ?_) (fun q => by exfalso; omega)
              refine r_iinc c38_94 rfl rfl (r_goto c38_97 ?_)
              try dsimp only [vst]
              rw [vsu]
              exact ihu (i + 1) (by omega) h4 false _ _ _ he2 hl (vPx_pl hP3 ho4 f4) (vDy_fr hA3 f4 (by omega) (by omega)) (vFr_tr fr3 (vXd_r f4))
            · dsimp only [vpush]
              rw [if_neg q2] at he2
              rw [he2] at kS
              refine r_ifne c38_89 (by omega) (by omega) (fun q => by exfalso; omega) (fun c_89 => ?_)
              refine r_aload c38_92 rfl ?_
              refine r_aret (st := []) c38_93 ?_
              exact kS _ rfl h3 hP3 hA3 fr3
        refine r_astore c38_41 rfl (r_aload c38_43 rfl ?_)
        try dsimp only [vst]
        refine r_ifnonR c38_45 ?_
        cases w
        · refine r_iload c38_50 rfl ?_
          refine r_ifeq (by decide +kernel : vlk 38 52 = some (70, 64, 0, 0, 55)) (by decide) (by decide) (fun _ => ?_) (fun q => absurd rfl q)
          refine r_aload c38_64 rfl (r_aload c38_65 rfl ?_)
          refine r_iv1 c38_67 vr_6 hA2.1 rfl (k_addAll hA2 hS2 (by omega) hl2 (fun h3 hA3 f3 => ?_))
          dsimp only [vpush]
          exact from70 h3 (vDy_cg hA3 (fun m hm => rfl)) f3
        · refine r_iload c38_50 rfl ?_
          refine r_ifeq (by decide +kernel : vlk 38 52 = some (70, 64, 0, 0, 55)) (by decide) (by decide) (fun q => by cases q) (fun _ => ?_)
          refine r_aload c38_55 rfl (r_aload c38_56 rfl ?_)
          refine r_iv1 c38_58 vr_7 hA2.1 rfl (k_removeAll hA2 hS2 (by omega) hl2 (fun h3 hA3 f3 => ?_))
          dsimp only [vpush]
          refine r_goto c38_61 ?_
          exact from70 h3 (vDy_cg hA3 (fun m hm => rfl)) f3
  obtain ⟨-, ⟨p, p1, p2⟩, -⟩ := hP.2.1
  obtain ⟨S0, hS0⟩ := hP.2.2.1 (3 * dep) (by omega)
  refine vin 7 [_, _, _, _, _, _, _] ml_38 rfl rfl ?_
  refine r_iload c38_0 rfl ?_
  refine r_iflt c38_1 (by omega) (by omega) (fun q => by exfalso; omega) (fun c_1 => ?_)
  refine r_iload c38_4 rfl (r_ci c38_5 ?_)
  refine r_icle c38_6 (by omega) (by omega) (by omega) (by omega) (fun c_6 => ?_) (fun q => by exfalso; omega)
  refine r_aload c38_11 rfl (r_get c38_12 ho rfl (r_iload c38_15 rfl (r_aald c38_16 p1 (by omega) (by omega) (by omega) (by rw [Int.toNat_natCast]; exact p2 dep (by omega)) (r_astore c38_17 rfl (r_aload c38_18 rfl ?_)))))
  try dsimp only [vst]
  refine r_iv0 c38_19 vr_4 hS0.1 rfl (k_wipe hS0 (by omega) (fun h1 hS1 f1 => ?_))
  dsimp only [vpush]
  refine r_ci c38_22 (r_istore c38_23 rfl (r_ci c38_25 (r_istore c38_26 rfl ?_)))
  try dsimp only [vst]
  exact loop 81 0 rfl h1 false (fun _ => false) pl _ rfl hpl (vPx_dy hP (by omega) hS1 f1) hS1 (vXd_j0 hd5 f1)
theorem k_sums {r n pr : Nat} {t : Nat → Int} {pa : Nat → Nat} {D : Nat → vSt1} : ∀ (e dep d : Nat), dep + e = 5 → vKs (d + 10 + 6 * e) r n t pr pa D dep e
  | 0, dep, d, hd => fun h pl Q hP hpl kN kS => k_sum (d := d) (f := none) hP (by omega) (Or.inl ⟨by omega, rfl⟩) hpl kN kS
  | e + 1, dep, d, hd => fun h pl Q hP hpl kN kS => by
    have ih := k_sums (r := r) (n := n) (pr := pr) (t := t) (pa := pa) (D := D) e (dep + 1) d (by omega)
    have g := k_sum (d := d + 6 + 6 * e) (f := some (vex n t D e)) (h := h) (Q := Q) hP (by omega) (Or.inr ⟨e, by omega, rfl, by rw [show d + 6 + 6 * e + 4 = d + 10 + 6 * e by omega]; exact ih⟩) hpl kN kS
    rw [show d + 10 + 6 * (e + 1) = d + 6 + 6 * e + 10 by omega]
    exact g
/-- the whole text: the set, or none and where the fault is -/
def vrd (n : Nat) (t : Nat → Int) (D : Nat → vSt1) : vPr := if (vex n t D 5 0).1 < n then ((vex n t D 5 0).1, none) else vex n t D 5 0
theorem k_read {r n pl pr : Nat} {t : Nat → Int} {pa : Nat → Nat} {D : Nat → vSt1} {d : Nat} {h : vHp} {Q : vQ} (hP : vPx h r n t pr pa D pl) (kN : (vrd n t D).2 = none → ∀ h', vPx h' r n t pr pa D (vrd n t D).1 → vFr (fun q => r ≤ q ∧ q < r + 41) h h' → Q (some .null) h') (kS : ∀ S, (vrd n t D).2 = some S → ∀ h', vPx h' r n t pr pa D (vrd n t D).1 → vDy h' (r + 5) S → vFr (fun q => r ≤ q ∧ q < r + 41) h h' → Q (some (.ref (r + 5))) h') : vCall (d + 41) 0 0 35 [.ref r, .ref pr] h Q := by
  have ho := hP.1
  unfold vRo at ho
  have vo := (vex_ok (n := n) (t := t) (D := D) 5 0 (by omega)).2.1
  have hn := hP.2.2.2.2.2.2.1.1
  refine vin 3 [_, _, _] ml_35 rfl rfl ?_
  refine r_aload c35_0 rfl (r_ci c35_1 ?_)
  refine r_put c35_2 ho hP.2.2.2.2.2.1 rfl ⟨rfl, rfl⟩ (fun h1 s1 => ?_)
  have hP1 := vPx_pl hP (vRo_st (pl2 := 0) s1) (vFr_st s1)
  have ho1 := hP1.1
  unfold vRo at ho1
  have up : ∀ h2 h3 : vHp, vFr (fun q => q = r) h h2 → vFr (vXd r 0) h2 h3 → vFr (fun q => r ≤ q ∧ q < r + 41) h h3 := fun h2 h3 f2 f3 => vFr_tr (vFr_up f2 (fun q e => by omega)) (vFr_up f3 (fun q e => by unfold vXd at e; omega))
  refine r_aload c35_5 rfl (r_ci c35_6 (r_aload c35_7 rfl ?_))
  refine r_iv2 c35_8 vr_38 ho1 rfl (k_sums 5 0 d rfl h1 0 _ hP1 (by omega) (fun e1 h2 hP2 f2 => ?_) (fun S e1 h2 hP2 hS2 f2 => ?_))
  · dsimp only [vpush]
    have ho2 := hP2.1
    unfold vRo at ho2
    have e2 : (vrd n t D).2 = none ∧ (vrd n t D).1 = (vex n t D 5 0).1 := by
      unfold vrd
      split
      · exact ⟨rfl, rfl⟩
      · exact ⟨e1, rfl⟩
    rw [← e2.2] at hP2
    refine r_astoreN c35_11 rfl (r_aload c35_12 rfl (r_get c35_13 ho2 rfl (r_aload c35_16 rfl (r_get c35_17 ho2 rfl ?_))))
    try dsimp only [vst]
    refine r_icge c35_20 (by omega) (by omega) (by omega) (by omega) (fun c_20 => ?_) (fun c_20 => ?_)
    · refine r_aloadN c35_27 rfl ?_
      refine r_aretN (st := []) c35_28 ?_
      exact kN e2.1 h2 hP2 (up h1 h2 (vFr_st s1) f2)
    · refine r_null c35_23 (r_goto c35_24 ?_)
      refine r_aretN (st := []) c35_28 ?_
      exact kN e2.1 h2 hP2 (up h1 h2 (vFr_st s1) f2)
  · dsimp only [vpush]
    have ho2 := hP2.1
    unfold vRo at ho2
    unfold vrd at kN kS
    refine r_astore c35_11 rfl (r_aload c35_12 rfl (r_get c35_13 ho2 rfl (r_aload c35_16 rfl (r_get c35_17 ho2 rfl ?_))))
    try dsimp only [vst]
    refine r_icge c35_20 (by omega) (by omega) (by omega) (by omega) (fun c_20 => ?_) (fun c_20 => ?_)
    · rw [if_neg (by omega)] at kS
      refine r_aload c35_27 rfl ?_
      refine r_aret (st := []) c35_28 ?_
      exact kS S e1 h2 hP2 hS2 (up h1 h2 (vFr_st s1) f2)
    · rw [if_pos (by omega)] at kN
      refine r_null c35_23 (r_goto c35_24 ?_)
      refine r_aretN (st := []) c35_28 ?_
      exact kN rfl h2 hP2 (up h1 h2 (vFr_st s1) f2)

