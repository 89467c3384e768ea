theorem ml_85 : vml 85 = 2 := by decide +kernel
theorem ml_86 : vml 86 = 2 := by decide +kernel
theorem vr_26 : vrc 26 = some (1, 0) := by decide +kernel
theorem vr_30 : vrc 30 = some (2, 1) := by decide +kernel
theorem c85_0 : vlk 85 0 = some (1, 0, 0, 0, 1) := by decide +kernel
theorem c85_1 : vlk 85 1 = some (7, 1, 0, 0, 2) := by decide +kernel
theorem c85_2 : vlk 85 2 = some (4, 1, 0, 0, 3) := by decide +kernel
theorem c85_3 : vlk 85 3 = some (1, 0, 0, 10, 5) := by decide +kernel
theorem c85_5 : vlk 85 5 = some (79, 29, 0, 0, 8) := by decide +kernel
theorem c85_8 : vlk 85 8 = some (6, 0, 0, 0, 9) := by decide +kernel
theorem c85_9 : vlk 85 9 = some (42, 5, 1, 0, 12) := by decide +kernel
theorem c85_12 : vlk 85 12 = some (4, 1, 0, 0, 13) := by decide +kernel
theorem c85_13 : vlk 85 13 = some (48, 0, 0, 0, 14) := by decide +kernel
theorem c85_14 : vlk 85 14 = some (6, 0, 0, 0, 15) := by decide +kernel
theorem c85_15 : vlk 85 15 = some (42, 5, 0, 0, 18) := by decide +kernel
theorem c85_18 : vlk 85 18 = some (4, 1, 0, 0, 19) := by decide +kernel
theorem c85_19 : vlk 85 19 = some (48, 0, 0, 0, 20) := by decide +kernel
theorem c85_20 : vlk 85 20 = some (58, 30, 0, 0, 23) := by decide +kernel
theorem c85_23 : vlk 85 23 = some (10, 1, 0, 1, 26) := by decide +kernel
theorem c85_26 : vlk 85 26 = some (37, 2, 0, 0, 29) := by decide +kernel
theorem c85_29 : vlk 85 29 = some (6, 0, 0, 0, 30) := by decide +kernel
theorem c85_30 : vlk 85 30 = some (1, 0, 0, 1, 31) := by decide +kernel
theorem c85_31 : vlk 85 31 = some (43, 5, 2, 0, 34) := by decide +kernel
theorem c85_34 : vlk 85 34 = some (6, 0, 0, 0, 35) := by decide +kernel
theorem c85_35 : vlk 85 35 = some (58, 97, 0, 0, 38) := by decide +kernel
theorem c85_38 : vlk 85 38 = some (63, 0, 0, 0, 39) := by decide +kernel
theorem c86_0 : vlk 86 0 = some (6, 0, 0, 0, 1) := by decide +kernel
theorem c86_1 : vlk 86 1 = some (42, 5, 2, 0, 4) := by decide +kernel
theorem c86_7 : vlk 86 7 = some (1, 0, 0, (-3), 9) := by decide +kernel
theorem c86_9 : vlk 86 9 = some (63, 0, 0, 0, 10) := by decide +kernel
theorem c86_10 : vlk 86 10 = some (1, 0, 0, 0, 11) := by decide +kernel
theorem c86_11 : vlk 86 11 = some (7, 1, 0, 0, 12) := by decide +kernel
theorem c86_12 : vlk 86 12 = some (4, 1, 0, 0, 13) := by decide +kernel
theorem c86_13 : vlk 86 13 = some (1, 0, 0, 10, 15) := by decide +kernel
theorem c86_15 : vlk 86 15 = some (79, 39, 0, 0, 18) := by decide +kernel
theorem c86_18 : vlk 86 18 = some (6, 0, 0, 0, 19) := by decide +kernel
theorem c86_19 : vlk 86 19 = some (42, 5, 0, 0, 22) := by decide +kernel
theorem c86_22 : vlk 86 22 = some (4, 1, 0, 0, 23) := by decide +kernel
theorem c86_23 : vlk 86 23 = some (48, 0, 0, 0, 24) := by decide +kernel
theorem c86_24 : vlk 86 24 = some (6, 0, 0, 0, 25) := by decide +kernel
theorem c86_25 : vlk 86 25 = some (42, 5, 1, 0, 28) := by decide +kernel
theorem c86_28 : vlk 86 28 = some (4, 1, 0, 0, 29) := by decide +kernel
theorem c86_29 : vlk 86 29 = some (48, 0, 0, 0, 30) := by decide +kernel
theorem c86_30 : vlk 86 30 = some (58, 30, 0, 0, 33) := by decide +kernel
theorem c86_33 : vlk 86 33 = some (10, 1, 0, 1, 36) := by decide +kernel
theorem c86_36 : vlk 86 36 = some (37, 12, 0, 0, 39) := by decide +kernel
theorem c86_39 : vlk 86 39 = some (6, 0, 0, 0, 40) := by decide +kernel
theorem c86_40 : vlk 86 40 = some (42, 5, 4, 0, 43) := by decide +kernel
theorem c86_43 : vlk 86 43 = some (58, 26, 0, 0, 46) := by decide +kernel
theorem c86_46 : vlk 86 46 = some (6, 0, 0, 0, 47) := by decide +kernel
theorem c86_47 : vlk 86 47 = some (58, 97, 0, 0, 50) := by decide +kernel
theorem c86_50 : vlk 86 50 = some (63, 0, 0, 0, 51) := by decide +kernel
/-! the image and back -/
def vAgr (N M : vNmS) (u : Nat) : Prop := ∀ j, j < u → N.1 j = M.1 j ∧ N.2.1 j = M.2.1 j ∧ N.2.2.1 j = M.2.2.1 j ∧ N.2.2.2 j = M.2.2.2 j
theorem vPls_cg {h : vHp} {pa : Nat → Nat} {N M : vNmS} (hP : vPls h pa N) (e : vAgr N M 10) : vPls h pa M := by
  intro i hi
  obtain ⟨e1, e2, e3, e4⟩ := e i hi
  rw [← e1, ← e2, ← e3, ← e4]
  exact hP i hi
theorem vRD_cgs {h : vHp} {b : Nat} {N M M' : vNmS} {i : Bool} {r : (List vSp × Int × Int) × (Nat × (Nat → Int)) × vLst} (hR : vRD h b (N, (i, M), r)) (e : vAgr M M' 10) : vRD h b (N, (i, M'), r) := by
  obtain ⟨a1, a2, a3, a4, a5, a6, a7⟩ := hR
  exact ⟨a1, a2, a3, a4, a5, vPls_cg a6 e, a7⟩
theorem vRD_cgn {h : vHp} {b : Nat} {N N' : vNmS} {r : (Bool × vNmS) × (List vSp × Int × Int) × (Nat × (Nat → Int)) × vLst} (hR : vRD h b (N, r)) (e : vAgr N N' 10) : vRD h b (N', r) := by
  obtain ⟨a1, a2, a3, a4, a5, a6⟩ := hR
  exact ⟨a1, a2, a3, a4, vPls_cg a5 e, a6⟩
theorem vAgr_su {N M : vNmS} {i : Nat} (h : vAgr N M i) : vAgr (vNup N i (M.1 i) (M.2.1 i) (M.2.2.1 i) (M.2.2.2 i)) M (i + 1) := by
  intro j hj
  unfold vNup
  by_cases e : j = i
  · subst e
    simp only [vup, if_true]
    exact ⟨trivial, trivial, trivial, trivial⟩
  · simp only [vup, if_neg e]
    exact h j (by omega)
theorem vsm_cg {f g : Nat → Int} : ∀ {n : Nat}, (∀ i, i < n → f i = g i) → vsm f n = vsm g n
  | 0, _ => rfl
  | n + 1, h => by
    show vsm f n + f n = vsm g n + g n
    rw [vsm_cg (fun i hi => h i (by omega)), h n (by omega)]
def vS_image (σ : vSg) : vSg := (σ.1, (true, σ.1), σ.2.2)
theorem k_image {d b : Nat} {σ : vSg} {h : vHp} {Q : vQ} (hR : vRD h b σ) (k : ∀ h', vRD h' b (vS_image σ) → vFr (fun q => b ≤ q ∧ q < b + 243) h h' → Q (some (.int (iI (vQ_ruled σ.1)))) h') : vCall (d + 5) 0 0 85 [.ref b] h Q := by
  have loop : ∀ u i : Nat, i + u = 10 → ∀ (h1 : vHp) (M : vNmS), vRD h1 b (σ.1, (σ.2.1.1, M), σ.2.2) → vAgr M σ.1 i → vFr (fun q => b ≤ q ∧ q < b + 243) h h1 → vW (vCall (d + 4)) 85 Q 2 [.ref b, .int (iI (i : Int))] [] h1 0 0 := by
    intro u
    induction u with
    | zero =>
      intro i hi h1 M hR1 hA f1
      obtain rfl : i = 10 := by omega
      have a1 := hR1.1
      have b3 := hR1.2.2.2.2.2.2.2.2.2.2.2
      refine r_iload c85_2 rfl (r_ci c85_3 ?_)
      refine r_icge c85_5 (by omega) (by omega) (by omega) (by omega) (fun c_5 => ?_) (fun q => by exfalso; omega)
      refine r_aload c85_29 rfl (r_ci c85_30 ?_)
      refine r_put c85_31 a1 b3 rfl ⟨rfl, rfl⟩ (fun h2 s2 => ?_)
      have hR2 := vRD_cgs (vRD_ima (i := true) hR1 s2.2.2.1 (vFr_st s2)) hA
      have a2 := hR2.1
      refine r_aload c85_34 rfl ?_
      refine r_iv0 c85_35 vr_97 a2 rfl (k_ruledNames hR2 ?_)
      dsimp only [vpush]
      refine r_iret (st := []) c85_38 ?_
      exact k h2 hR2 (vFr_tr f1 (vFr_up (vFr_st s2) (fun q e => by omega)))
    | succ u ih =>
      intro i hi h1 M hR1 hA f1
      have hR2 := hR1
      obtain ⟨a1, ⟨p, p1, p2⟩, ⟨s, s1, s2⟩, -, a5, a6, -, -, -, -, -, b3⟩ := hR2
      have hx := a5 i (by omega)
      have hy := a6 i (by omega)
      refine r_iload c85_2 rfl (r_ci c85_3 ?_)
      refine r_icge c85_5 (by omega) (by omega) (by omega) (by omega) (fun q => by exfalso; omega) (fun c_5 => ?_)
      refine r_aload c85_8 rfl (r_get c85_9 a1 rfl (r_iload c85_12 rfl (r_aald c85_13 s1 (by omega) (by omega) (by omega) (by rw [Int.toNat_natCast]; exact s2 _ (by omega)) (r_aload c85_14 rfl (r_get c85_15 a1 rfl (r_iload c85_18 rfl (r_aald c85_19 p1 (by omega) (by omega) (by omega) (by rw [Int.toNat_natCast]; exact p2 _ (by omega)) ?_)))))))
      refine r_iv1 c85_20 vr_30 hy.1 rfl (k_planTake hy hx (by unfold vpa vsa; omega) (by unfold vsa; omega) (fun h2 hP2 f2 => ?_))
      dsimp only [vpush]
      refine r_iinc c85_23 rfl rfl (r_goto c85_26 ?_)
      try dsimp only [vst]
      rw [vsu]
      have hR3 := vRD_saved (σ := (σ.1, (σ.2.1.1, M), σ.2.2)) hR1 (by omega) hP2 f2
      exact ih (i + 1) (by omega) h2 (vNup M i (σ.1.1 i) (σ.1.2.1 i) (σ.1.2.2.1 i) (σ.1.2.2.2 i)) hR3 (vAgr_su hA) (vFr_tr f1 (vFr_up f2 (fun q e => by unfold vsa at e; omega)))
  refine vin 2 [_, _] ml_85 rfl rfl ?_
  refine r_ci c85_0 (r_istore c85_1 rfl ?_)
  try dsimp only [vst]
  exact loop 10 0 rfl h σ.2.1.2 hR (fun j hj => absurd hj (by omega)) vFr_rf
def vQ_undo (σ : vSg) : Int := if σ.2.1.1 = true then vQ_ruled σ.2.1.2 else -3
def vS_undo (σ : vSg) : vSg := if σ.2.1.1 = true then (σ.2.1.2, σ.2.1, ([], σ.2.2.1.2.1, σ.2.2.1.2.2), σ.2.2.2) else σ
theorem k_undo {d b : Nat} {σ : vSg} {h : vHp} {Q : vQ} (hR : vRD h b σ) (k : ∀ h', vRD h' b (vS_undo σ) → vFr (fun q => b ≤ q ∧ q < b + 243) h h' → Q (some (.int (iI (vQ_undo σ)))) h') : vCall (d + 5) 0 0 86 [.ref b] h Q := by
  have loop : σ.2.1.1 = true → ∀ u i : Nat, i + u = 10 → ∀ (h1 : vHp) (M : vNmS), vRD h1 b (M, σ.2) → vAgr M σ.2.1.2 i → vFr (fun q => b ≤ q ∧ q < b + 243) h h1 → vW (vCall (d + 4)) 86 Q 12 [.ref b, .int (iI (i : Int))] [] h1 0 0 := by
    intro him u
    induction u with
    | zero =>
      intro i hi h1 M hR1 hA f1
      obtain rfl : i = 10 := by omega
      have eS : vS_undo σ = (σ.2.1.2, σ.2.1, ([], σ.2.2.1.2.1, σ.2.2.1.2.2), σ.2.2.2) := if_pos him
      have eQ : vQ_undo σ = vQ_ruled σ.2.1.2 := if_pos him
      rw [eS, eQ] at k
      have hR1' := vRD_cgn hR1 hA
      have hR2 := hR1'
      obtain ⟨a1, -, -, -, -, -, -, a8, -, -, -, b3⟩ := hR2
      obtain ⟨mo, hmo⟩ := vRD_mo hR1'
      refine r_iload c86_12 rfl (r_ci c86_13 ?_)
      refine r_icge c86_15 (by omega) (by omega) (by omega) (by omega) (fun c_15 => ?_) (fun q => by exfalso; omega)
      refine r_aload c86_39 rfl (r_get c86_40 a1 rfl ?_)
      refine r_iv0 c86_43 vr_26 hmo rfl (k_forgetAll a8 (by omega) (fun h2 hM2 f2 => ?_))
      dsimp only [vpush]
      have hR3 := vRD_mem hR1' hM2 (vFr_up f2 (fun q e => by omega))
      have a2 := hR3.1
      refine r_aload c86_46 rfl ?_
      refine r_iv0 c86_47 vr_97 a2 rfl (k_ruledNames hR3 ?_)
      dsimp only [vpush]
      refine r_iret (st := []) c86_50 ?_
      exact k h2 hR3 (vFr_tr f1 (vFr_up f2 (fun q e => by omega)))
    | succ u ih =>
      intro i hi h1 M hR1 hA f1
      have hR2 := hR1
      obtain ⟨a1, ⟨p, p1, p2⟩, ⟨s, s1, s2⟩, -, a5, a6, -, -, -, -, -, b3⟩ := hR2
      have hx := a5 i (by omega)
      have hy := a6 i (by omega)
      refine r_iload c86_12 rfl (r_ci c86_13 ?_)
      refine r_icge c86_15 (by omega) (by omega) (by omega) (by omega) (fun q => by exfalso; omega) (fun c_15 => ?_)
      refine r_aload c86_18 rfl (r_get c86_19 a1 rfl (r_iload c86_22 rfl (r_aald c86_23 p1 (by omega) (by omega) (by omega) (by rw [Int.toNat_natCast]; exact p2 _ (by omega)) (r_aload c86_24 rfl (r_get c86_25 a1 rfl (r_iload c86_28 rfl (r_aald c86_29 s1 (by omega) (by omega) (by omega) (by rw [Int.toNat_natCast]; exact s2 _ (by omega)) ?_)))))))
      refine r_iv1 c86_30 vr_30 hx.1 rfl (k_planTake hx hy (by unfold vpa vsa; omega) (by unfold vpa; omega) (fun h2 hP2 f2 => ?_))
      dsimp only [vpush]
      refine r_iinc c86_33 rfl rfl (r_goto c86_36 ?_)
      try dsimp only [vst]
      rw [vsu]
      have hR3 := vRD_plan (σ := (M, σ.2)) hR1 (by omega) hP2 f2
      exact ih (i + 1) (by omega) h2 (vNup M i (σ.2.1.2.1 i) (σ.2.1.2.2.1 i) (σ.2.1.2.2.2.1 i) (σ.2.1.2.2.2.2 i)) hR3 (vAgr_su hA) (vFr_tr f1 (vFr_up f2 (fun q e => by unfold vpa at e; omega)))
  have a1 := hR.1
  refine vin 2 [_, _] ml_86 rfl rfl ?_
  refine r_aload c86_0 rfl (r_get c86_1 a1 rfl ?_)
  refine vifb (by decide +kernel : vlk 86 4 = some (71, 10, 0, 0, 7)) (fun c => ?_) (fun c => ?_)
  · refine r_ci c86_10 (r_istore c86_11 rfl ?_)
    try dsimp only [vst]
    exact loop c 10 0 rfl h σ.1 hR (fun j hj => absurd hj (by omega)) vFr_rf
  · have eS : vS_undo σ = σ := if_neg (by rw [c]; decide)
    have eQ : vQ_undo σ = -3 := if_neg (by rw [c]; decide)
    rw [eS, eQ] at k
    refine r_ci c86_7 ?_
    refine r_iret (st := []) c86_9 ?_
    exact k h hR vFr_rf

