theorem ml_53 : vml 53 = 3 := by decide +kernel
theorem ml_79 : vml 79 = 3 := by decide +kernel
theorem ml_81 : vml 81 = 4 := by decide +kernel
theorem vr_53 : vrc 53 = some (4, 1) := by decide +kernel
theorem vr_92 : vrc 92 = some (5, 1) := by decide +kernel
theorem c53_0 : vlk 53 0 = some (6, 0, 0, 0, 1) := by decide +kernel
theorem c53_1 : vlk 53 1 = some (1, 0, 0, 1, 2) := by decide +kernel
theorem c53_2 : vlk 53 2 = some (43, 4, 0, 0, 5) := by decide +kernel
theorem c53_5 : vlk 53 5 = some (6, 0, 0, 0, 6) := by decide +kernel
theorem c53_6 : vlk 53 6 = some (4, 1, 0, 0, 7) := by decide +kernel
theorem c53_7 : vlk 53 7 = some (43, 4, 1, 0, 10) := by decide +kernel
theorem c53_10 : vlk 53 10 = some (1, 0, 0, 0, 11) := by decide +kernel
theorem c53_11 : vlk 53 11 = some (7, 2, 0, 0, 12) := by decide +kernel
theorem c53_12 : vlk 53 12 = some (4, 2, 0, 0, 13) := by decide +kernel
theorem c53_13 : vlk 53 13 = some (1, 0, 0, 30, 15) := by decide +kernel
theorem c53_15 : vlk 53 15 = some (79, 31, 0, 0, 18) := by decide +kernel
theorem c53_18 : vlk 53 18 = some (6, 0, 0, 0, 19) := by decide +kernel
theorem c53_19 : vlk 53 19 = some (42, 4, 2, 0, 22) := by decide +kernel
theorem c53_22 : vlk 53 22 = some (4, 2, 0, 0, 23) := by decide +kernel
theorem c53_23 : vlk 53 23 = some (1, 0, 0, 0, 24) := by decide +kernel
theorem c53_24 : vlk 53 24 = some (49, 0, 0, 0, 25) := by decide +kernel
theorem c53_25 : vlk 53 25 = some (10, 2, 0, 1, 28) := by decide +kernel
theorem c53_28 : vlk 53 28 = some (37, 12, 0, 0, 31) := by decide +kernel
theorem c53_31 : vlk 53 31 = some (66, 0, 0, 0, 32) := by decide +kernel
theorem c79_0 : vlk 79 0 = some (4, 1, 0, 0, 1) := by decide +kernel
theorem c79_1 : vlk 79 1 = some (59, 92, 0, 0, 4) := by decide +kernel
theorem c79_4 : vlk 79 4 = some (71, 9, 0, 0, 7) := by decide +kernel
theorem c79_7 : vlk 79 7 = some (1, 0, 0, (-1), 8) := by decide +kernel
theorem c79_8 : vlk 79 8 = some (63, 0, 0, 0, 9) := by decide +kernel
theorem c79_9 : vlk 79 9 = some (4, 2, 0, 0, 10) := by decide +kernel
theorem c79_10 : vlk 79 10 = some (1, 0, 0, 30, 12) := by decide +kernel
theorem c79_12 : vlk 79 12 = some (81, 18, 0, 0, 15) := by decide +kernel
theorem c79_15 : vlk 79 15 = some (1, 0, 0, (-2), 17) := by decide +kernel
theorem c79_17 : vlk 79 17 = some (63, 0, 0, 0, 18) := by decide +kernel
theorem c79_18 : vlk 79 18 = some (4, 2, 0, 0, 19) := by decide +kernel
theorem c79_19 : vlk 79 19 = some (73, 25, 0, 0, 22) := by decide +kernel
theorem c79_22 : vlk 79 22 = some (1, 0, 0, (-14), 24) := by decide +kernel
theorem c79_24 : vlk 79 24 = some (63, 0, 0, 0, 25) := by decide +kernel
theorem c79_25 : vlk 79 25 = some (6, 0, 0, 0, 26) := by decide +kernel
theorem c79_26 : vlk 79 26 = some (42, 5, 5, 0, 29) := by decide +kernel
theorem c79_29 : vlk 79 29 = some (4, 1, 0, 0, 30) := by decide +kernel
theorem c79_30 : vlk 79 30 = some (48, 0, 0, 0, 31) := by decide +kernel
theorem c79_31 : vlk 79 31 = some (4, 2, 0, 0, 32) := by decide +kernel
theorem c79_32 : vlk 79 32 = some (58, 53, 0, 0, 35) := by decide +kernel
theorem c79_35 : vlk 79 35 = some (1, 0, 0, 1, 36) := by decide +kernel
theorem c79_36 : vlk 79 36 = some (63, 0, 0, 0, 37) := by decide +kernel
theorem c81_0 : vlk 81 0 = some (4, 1, 0, 0, 1) := by decide +kernel
theorem c81_1 : vlk 81 1 = some (59, 92, 0, 0, 4) := by decide +kernel
theorem c81_4 : vlk 81 4 = some (71, 10, 0, 0, 7) := by decide +kernel
theorem c81_7 : vlk 81 7 = some (1, 0, 0, (-2000000000), 9) := by decide +kernel
theorem c81_9 : vlk 81 9 = some (63, 0, 0, 0, 10) := by decide +kernel
theorem c81_10 : vlk 81 10 = some (6, 0, 0, 0, 11) := by decide +kernel
theorem c81_11 : vlk 81 11 = some (42, 5, 5, 0, 14) := by decide +kernel
theorem c81_14 : vlk 81 14 = some (4, 1, 0, 0, 15) := by decide +kernel
theorem c81_15 : vlk 81 15 = some (48, 0, 0, 0, 16) := by decide +kernel
theorem c81_16 : vlk 81 16 = some (9, 3, 0, 0, 17) := by decide +kernel
theorem c81_17 : vlk 81 17 = some (6, 3, 0, 0, 18) := by decide +kernel
theorem c81_18 : vlk 81 18 = some (42, 4, 0, 0, 21) := by decide +kernel
theorem c81_24 : vlk 81 24 = some (4, 2, 0, 0, 25) := by decide +kernel
theorem c81_25 : vlk 81 25 = some (72, 36, 0, 0, 28) := by decide +kernel
theorem c81_28 : vlk 81 28 = some (4, 2, 0, 0, 29) := by decide +kernel
theorem c81_29 : vlk 81 29 = some (6, 3, 0, 0, 30) := by decide +kernel
theorem c81_30 : vlk 81 30 = some (42, 4, 1, 0, 33) := by decide +kernel
theorem c81_33 : vlk 81 33 = some (78, 39, 0, 0, 36) := by decide +kernel
theorem c81_36 : vlk 81 36 = some (1, 0, 0, (-2000000000), 38) := by decide +kernel
theorem c81_38 : vlk 81 38 = some (63, 0, 0, 0, 39) := by decide +kernel
theorem c81_39 : vlk 81 39 = some (6, 3, 0, 0, 40) := by decide +kernel
theorem c81_40 : vlk 81 40 = some (42, 4, 2, 0, 43) := by decide +kernel
theorem c81_43 : vlk 81 43 = some (4, 2, 0, 0, 44) := by decide +kernel
theorem c81_44 : vlk 81 44 = some (45, 0, 0, 0, 45) := by decide +kernel
theorem c81_45 : vlk 81 45 = some (63, 0, 0, 0, 46) := by decide +kernel
/-! lists -/
theorem vife {v : Bool} {m pc a nx d : Nat} {R : vQ} {lv st : List Value} {h : vHp} {bc bs : Nat} (hc : vlk m pc = some (70, a, 0, 0, nx)) (kF : v = false → vW (vCall d) m R a lv st h bc bs) (kT : v = true → vW (vCall d) m R nx lv st h bc bs) : vW (vCall d) m R pc lv (.int (iI (vBi v)) :: st) h bc bs := by
  cases v
  · exact r_ifeq hc (by decide) (by decide) (fun _ => kF rfl) (fun q => absurd rfl q)
  · exact r_ifeq hc (by decide) (by decide) (fun q => by cases q) (fun _ => kT rfl)
theorem vrowfit : vfit 4 0 (.int (iI 1)) := ⟨rfl, rfl⟩
theorem k_begin {d a n : Nat} {o : Option (Nat × (Nat → Int))} {h : vHp} {Q : vQ} (hR : vRow h a o) (hlo : h.1.1 ≤ a) (k : ∀ h', vRow h' a (some (n, fun _ => 0)) → vFr (fun q => a ≤ q ∧ q < a + 2) h h' → Q none h') : vCall (d + 1) 0 0 53 [.ref a, .int (iI (n : Int))] h Q := by
  obtain ⟨sz, f, r1, r2, r3⟩ := hR
  have loop : ∀ u i : Nat, i + u = 30 → ∀ (h1 : vHp) (g : Nat → Int), hg h1 a = some (.inr (4, [.int (iI 1), .int (iI (n : Int)), .ref (a + 1)])) → hg h1 (a + 1) = some (.inl (0, 30, .inl g)) → (∀ j, j < i → g j = 0) → vFr (fun q => a ≤ q ∧ q < a + 2) h h1 → vW (vCall d) 53 Q 12 [.ref a, .int (iI (n : Int)), .int (iI (i : Int))] [] h1 0 0 := by
    intro u
    induction u with
    | zero =>
      intro i hi h1 g g1 g2 g3 f1
      refine r_iload c53_12 rfl (r_ci c53_13 ?_)
      refine r_icge c53_15 (by omega) (by omega) (by omega) (by omega) (fun c_15 => ?_) (fun q => by exfalso; omega)
      refine r_vret (st := []) c53_31 ?_
      exact k h1 ⟨_, g, g1, g2, fun n' p' e => by
        have e1 : (n, fun _ => (0 : Int)) = (n', p') := by simpa using e
        have e2 := congrArg Prod.fst e1
        have e3 := congrArg Prod.snd e1
        dsimp only at e2 e3
        subst e2
        exact ⟨rfl, fun i hi2 => by rw [g3 i (by omega), ← e3]⟩⟩ f1
    | succ u ih =>
      intro i hi h1 g g1 g2 g3 f1
      refine r_iload c53_12 rfl (r_ci c53_13 ?_)
      refine r_icge c53_15 (by omega) (by omega) (by omega) (by omega) (fun q => by exfalso; omega) (fun c_15 => ?_)
      refine r_aload c53_18 rfl (r_get c53_19 g1 rfl (r_iload c53_22 rfl (r_ci c53_23 ?_)))
      refine r_iast c53_24 g2 (vFr_lo f1 (by omega)) (by omega) (by omega) (fun h2 s2 => ?_)
      refine r_iinc c53_25 rfl rfl (r_goto c53_28 ?_)
      try dsimp only [vst]
      rw [vsu]
      refine ih (i + 1) (by omega) h2 _ ((s2.2.2.2 _ (by omega)).trans g1) s2.2.2.1 (fun j hj => ?_) (vFr_tr f1 (vFr_up (vFr_st s2) (fun q e => by omega)))
      unfold vup
      split
      · rfl
      · exact g3 j (by omega)
  refine vin 3 [_, _, _] ml_53 rfl rfl ?_
  refine r_aload c53_0 rfl (r_ci c53_1 ?_)
  refine r_put c53_2 r1 hlo rfl vrowfit (fun h1 s1 => ?_)
  have q1 := s1.2.2.1
  dsimp only [vst] at q1
  refine r_aload c53_5 rfl (r_iload c53_6 rfl ?_)
  refine r_put c53_7 q1 (vFr_lo (vFr_st s1) hlo) rfl ⟨rfl, rfl⟩ (fun h2 s2 => ?_)
  have q2 := s2.2.2.1
  dsimp only [vst] at q2
  refine r_ci c53_10 (r_istore c53_11 rfl ?_)
  try dsimp only [vst]
  have f2 := vFr_tr (vFr_st s1) (vFr_st s2)
  exact loop 30 0 rfl h2 f q2 ((f2.2.2 _ (by omega)).trans r2) (fun j hj => absurd hj (by omega)) (vFr_up f2 (fun q e => by omega))
def vQ_list (x y : Int) : Int := if 0 ≤ x ∧ x < 4 then (if 30 < y then -2 else if y < 0 then -14 else 1) else -1
def vS_list (σ : vSg) (x y : Int) : vSg := if (0 ≤ x ∧ x < 4) ∧ 0 ≤ y ∧ y ≤ 30 then (σ.1, σ.2.1, σ.2.2.1, σ.2.2.2.1, vup σ.2.2.2.2 x.toNat (some (y.toNat, fun _ => 0))) else σ
theorem k_list {d b : Nat} {σ : vSg} {x y : Int} {h : vHp} {Q : vQ} (hR : vRD h b σ) (x1 : -2147483648 ≤ x) (x2 : x ≤ 2147483647) (y1 : -2147483648 ≤ y) (y2 : y ≤ 2147483647) (k : ∀ h', vRD h' b (vS_list σ x y) → vFr (fun q => b ≤ q ∧ q < b + 243) h h' → Q (some (.int (iI (vQ_list x y)))) h') : vCall (d + 2) 0 0 79 [.ref b, .int (iI x), .int (iI y)] h Q := by
  have hR0 := hR
  obtain ⟨a1, ⟨p, p1, p2⟩, ⟨s, s1, s2⟩, ⟨w, w1, w2⟩, a5, a6, a7, a8, ⟨J, a9⟩, b1, b2, b3⟩ := hR
  refine vin 3 [_, _, _] ml_79 rfl rfl ?_
  refine r_iload c79_0 rfl ?_
  refine r_is1 c79_1 vr_92 rfl (k_isList x1 x2 (fun e1 e2 => ?_) (fun e1 => ?_))
  · dsimp only [vpush]
    refine r_ifne c79_4 (by omega) (by omega) (fun c_4 => ?_) (fun q => by exfalso; omega)
    refine r_iload c79_9 rfl (r_ci c79_10 ?_)
    refine r_icle c79_12 (by omega) (by omega) (by omega) (by omega) (fun c_12 => ?_) (fun c_12 => ?_)
    · refine r_iload c79_18 rfl ?_
      refine r_ifge c79_19 (by omega) (by omega) (fun c_19 => ?_) (fun c_19 => ?_)
      · rw [show vS_list σ x y = (σ.1, σ.2.1, σ.2.2.1, σ.2.2.2.1, vup σ.2.2.2.2 x.toNat (some (y.toNat, fun _ => 0))) from if_pos ⟨⟨e1, e2⟩, by omega⟩, show vQ_list x y = 1 by unfold vQ_list; rw [if_pos ⟨e1, e2⟩, if_neg (by omega), if_neg (by omega)]] at k
        obtain ⟨n, rfl⟩ := Int.eq_ofNat_of_zero_le (show 0 ≤ y by omega)
        rw [Int.toNat_natCast] at k
        have hx := b1 x.toNat (by omega)
        obtain ⟨sz, f, r1, r2, r3⟩ := hx
        refine r_aload c79_25 rfl (r_get c79_26 a1 rfl (r_iload c79_29 rfl (r_aald c79_30 w1 (by omega) (by omega) (by omega) (w2 _ (by omega)) (r_iload c79_31 rfl ?_))))
        refine r_iv1 c79_32 vr_53 r1 rfl (k_begin ⟨sz, f, r1, r2, r3⟩ (by unfold vra; omega) (fun h1 hw f1 => ?_))
        dsimp only [vpush]
        refine r_ci c79_35 ?_
        refine r_iret (st := []) c79_36 ?_
        exact k h1 (vRD_row hR0 (by omega) hw f1) (vFr_up f1 (fun q e => by unfold vra at e; omega))
      · rw [show vS_list σ x y = σ from if_neg (by omega), show vQ_list x y = -14 by unfold vQ_list; rw [if_pos ⟨e1, e2⟩, if_neg (by omega), if_pos (by omega)]] at k
        refine r_ci c79_22 ?_
        refine r_iret (st := []) c79_24 ?_
        exact k h hR0 vFr_rf
    · rw [show vS_list σ x y = σ from if_neg (by omega), show vQ_list x y = -2 by unfold vQ_list; rw [if_pos ⟨e1, e2⟩, if_pos (by omega)]] at k
      refine r_ci c79_15 ?_
      refine r_iret (st := []) c79_17 ?_
      exact k h hR0 vFr_rf
  · dsimp only [vpush]
    rw [show vS_list σ x y = σ from if_neg (by omega), show vQ_list x y = -1 from if_neg (by omega)] at k
    refine r_ifne c79_4 (by omega) (by omega) (fun q => by exfalso; omega) (fun c_4 => ?_)
    refine r_ci c79_7 ?_
    refine r_iret (st := []) c79_8 ?_
    exact k h hR0 vFr_rf
/-- what lies at a place, if anything -/
def vhl (o : Option (Nat × (Nat → Int))) (y : Int) : Option Int := match o with
  | none => none
  | some (n, p) => if 0 ≤ y ∧ y < n then some (p y.toNat) else none
def vQ_get (l : vLst) (x y : Int) : Int := if 0 ≤ x ∧ x < 4 then (match vhl (l x.toNat) y with
  | some v => v
  | none => -2000000000) else -2000000000
theorem k_get {d b : Nat} {σ : vSg} {x y : Int} {h : vHp} {Q : vQ} (hR : vRD h b σ) (hO : vOk σ) (x1 : -2147483648 ≤ x) (x2 : x ≤ 2147483647) (y1 : -2147483648 ≤ y) (y2 : y ≤ 2147483647) (k : Q (some (.int (iI (vQ_get σ.2.2.2.2 x y)))) h) : vCall (d + 2) 0 0 81 [.ref b, .int (iI x), .int (iI y)] h Q := by
  obtain ⟨a1, ⟨p, p1, p2⟩, ⟨s, s1, s2⟩, ⟨w, w1, w2⟩, a5, a6, a7, a8, ⟨J, a9⟩, b1, b2, b3⟩ := hR
  have no : vQ_get σ.2.2.2.2 x y = -2000000000 → ∀ v3 : Value, vW (vCall (d + 1)) 81 Q 36 [.ref b, .int (iI x), .int (iI y), v3] [] h 0 0 := fun q v3 => by
    rw [q] at k
    refine r_ci c81_36 ?_
    refine r_iret (st := []) c81_38 ?_
    exact k
  refine vin 4 [_, _, _, _] ml_81 rfl rfl ?_
  refine r_iload c81_0 rfl ?_
  refine r_is1 c81_1 vr_92 rfl (k_isList x1 x2 (fun e1 e2 => ?_) (fun e1 => ?_))
  · dsimp only [vpush]
    refine r_ifne c81_4 (by omega) (by omega) (fun c_4 => ?_) (fun q => by exfalso; omega)
    have hx := b1 x.toNat (by omega)
    have hn := hO.2.2.2.2.1 x.toNat
    obtain ⟨sz, f, r1, r2, r3⟩ := hx
    have eq : vQ_get σ.2.2.2.2 x y = (match vhl (σ.2.2.2.2 x.toNat) y with
      | some v => v
      | none => -2000000000) := if_pos ⟨e1, e2⟩
    refine r_aload c81_10 rfl (r_get c81_11 a1 rfl (r_iload c81_14 rfl (r_aald c81_15 w1 (by omega) (by omega) (by omega) (w2 _ (by omega)) (r_astore c81_16 rfl (r_aload c81_17 rfl (r_get c81_18 r1 rfl ?_))))))
    try dsimp only [vst]
    refine vife (by decide +kernel : vlk 81 21 = some (70, 36, 0, 0, 24)) (fun c => ?_) (fun c => ?_)
    · refine no ?_ _
      rw [eq]
      cases ho : σ.2.2.2.2 x.toNat with
      | none => rfl
      | some o => rw [ho] at c; cases c
    · cases ho : σ.2.2.2.2 x.toNat with
      | none => rw [ho] at c; cases c
      | some o =>
        obtain ⟨n, g⟩ := o
        obtain ⟨q1, q2⟩ := r3 n g ho
        have hn2 := (hn n g (by omega) ho).1
        rw [ho] at eq r1
        subst q1
        refine r_iload c81_24 rfl ?_
        refine r_iflt c81_25 (by omega) (by omega) (fun c_25 => ?_) (fun c_25 => ?_)
        · exact no (by rw [eq]; unfold vhl; dsimp only; rw [if_neg (by omega)]) _
        · refine r_iload c81_28 rfl (r_aload c81_29 rfl (r_get c81_30 r1 rfl ?_))
          refine r_iclt c81_33 (by omega) (by omega) (by omega) (by omega) (fun c_33 => ?_) (fun c_33 => ?_)
          · unfold vhl at eq
            dsimp only at eq
            rw [if_pos (by omega)] at eq
            rw [eq] at k
            refine r_aload c81_39 rfl (r_get c81_40 r1 rfl (r_iload c81_43 rfl (r_iald c81_44 r2 (by omega) (by omega) ?_)))
            refine r_iret (st := []) c81_45 ?_
            rw [q2 _ (by omega)]
            exact k
          · exact no (by rw [eq]; unfold vhl; dsimp only; rw [if_neg (by omega)]) _
  · dsimp only [vpush]
    rw [show vQ_get σ.2.2.2.2 x y = -2000000000 from if_neg (by omega)] at k
    refine r_ifne c81_4 (by omega) (by omega) (fun q => by exfalso; omega) (fun c_4 => ?_)
    refine r_ci c81_7 ?_
    refine r_iret (st := []) c81_9 ?_
    exact k

