theorem ml_22 : vml 22 = 6 := by decide +kernel
theorem ml_23 : vml 23 = 6 := by decide +kernel
theorem c22_0 : vlk 22 0 = some (1, 0, 0, 0, 1) := by decide +kernel
theorem c22_1 : vlk 22 1 = some (7, 4, 0, 0, 3) := by decide +kernel
theorem c22_3 : vlk 22 3 = some (4, 4, 0, 0, 5) := by decide +kernel
theorem c22_5 : vlk 22 5 = some (6, 0, 0, 0, 6) := by decide +kernel
theorem c22_6 : vlk 22 6 = some (42, 1, 1, 0, 9) := by decide +kernel
theorem c22_9 : vlk 22 9 = some (79, 54, 0, 0, 12) := by decide +kernel
theorem c22_12 : vlk 22 12 = some (6, 0, 0, 0, 13) := by decide +kernel
theorem c22_13 : vlk 22 13 = some (42, 1, 0, 0, 16) := by decide +kernel
theorem c22_16 : vlk 22 16 = some (4, 4, 0, 0, 18) := by decide +kernel
theorem c22_18 : vlk 22 18 = some (48, 0, 0, 0, 19) := by decide +kernel
theorem c22_19 : vlk 22 19 = some (9, 5, 0, 0, 21) := by decide +kernel
theorem c22_21 : vlk 22 21 = some (6, 5, 0, 0, 23) := by decide +kernel
theorem c22_23 : vlk 22 23 = some (1, 0, 0, 0, 24) := by decide +kernel
theorem c22_24 : vlk 22 24 = some (45, 0, 0, 0, 25) := by decide +kernel
theorem c22_25 : vlk 22 25 = some (4, 1, 0, 0, 26) := by decide +kernel
theorem c22_26 : vlk 22 26 = some (77, 48, 0, 0, 29) := by decide +kernel
theorem c22_29 : vlk 22 29 = some (6, 5, 0, 0, 31) := by decide +kernel
theorem c22_31 : vlk 22 31 = some (1, 0, 0, 1, 32) := by decide +kernel
theorem c22_32 : vlk 22 32 = some (45, 0, 0, 0, 33) := by decide +kernel
theorem c22_33 : vlk 22 33 = some (4, 2, 0, 0, 34) := by decide +kernel
theorem c22_34 : vlk 22 34 = some (77, 48, 0, 0, 37) := by decide +kernel
theorem c22_37 : vlk 22 37 = some (6, 5, 0, 0, 39) := by decide +kernel
theorem c22_39 : vlk 22 39 = some (1, 0, 0, 2, 40) := by decide +kernel
theorem c22_40 : vlk 22 40 = some (45, 0, 0, 0, 41) := by decide +kernel
theorem c22_41 : vlk 22 41 = some (4, 3, 0, 0, 42) := by decide +kernel
theorem c22_42 : vlk 22 42 = some (77, 48, 0, 0, 45) := by decide +kernel
theorem c22_45 : vlk 22 45 = some (4, 4, 0, 0, 47) := by decide +kernel
theorem c22_47 : vlk 22 47 = some (63, 0, 0, 0, 48) := by decide +kernel
theorem c22_48 : vlk 22 48 = some (10, 4, 0, 1, 51) := by decide +kernel
theorem c22_51 : vlk 22 51 = some (37, 3, 0, 0, 54) := by decide +kernel
theorem c22_54 : vlk 22 54 = some (6, 0, 0, 0, 55) := by decide +kernel
theorem c22_55 : vlk 22 55 = some (42, 1, 1, 0, 58) := by decide +kernel
theorem c22_58 : vlk 22 58 = some (63, 0, 0, 0, 59) := by decide +kernel
theorem c23_0 : vlk 23 0 = some (6, 0, 0, 0, 1) := by decide +kernel
theorem c23_1 : vlk 23 1 = some (42, 1, 0, 0, 4) := by decide +kernel
theorem c23_4 : vlk 23 4 = some (4, 1, 0, 0, 5) := by decide +kernel
theorem c23_5 : vlk 23 5 = some (48, 0, 0, 0, 6) := by decide +kernel
theorem c23_6 : vlk 23 6 = some (9, 5, 0, 0, 8) := by decide +kernel
theorem c23_8 : vlk 23 8 = some (6, 5, 0, 0, 10) := by decide +kernel
theorem c23_10 : vlk 23 10 = some (1, 0, 0, 0, 11) := by decide +kernel
theorem c23_11 : vlk 23 11 = some (4, 2, 0, 0, 12) := by decide +kernel
theorem c23_12 : vlk 23 12 = some (49, 0, 0, 0, 13) := by decide +kernel
theorem c23_13 : vlk 23 13 = some (6, 5, 0, 0, 15) := by decide +kernel
theorem c23_15 : vlk 23 15 = some (1, 0, 0, 1, 16) := by decide +kernel
theorem c23_16 : vlk 23 16 = some (4, 3, 0, 0, 17) := by decide +kernel
theorem c23_17 : vlk 23 17 = some (49, 0, 0, 0, 18) := by decide +kernel
theorem c23_18 : vlk 23 18 = some (6, 5, 0, 0, 20) := by decide +kernel
theorem c23_20 : vlk 23 20 = some (1, 0, 0, 2, 21) := by decide +kernel
theorem c23_21 : vlk 23 21 = some (4, 4, 0, 0, 23) := by decide +kernel
theorem c23_23 : vlk 23 23 = some (49, 0, 0, 0, 24) := by decide +kernel
theorem c23_24 : vlk 23 24 = some (66, 0, 0, 0, 25) := by decide +kernel
/-! Memory: the object at a, its row of six at a + 1, the six rows of four behind it, in an order pm -/
def vMo (h : vHp) (a n : Nat) (hi mi : Int) : Prop := hg h a = some (.inr (1, [.ref (a + 1), .int (iI (n : Int)), .int (iI hi), .int (iI mi)]))
def vMp (h : vHp) (a : Nat) (pm : Nat → Nat) : Prop := ∃ p, hg h (a + 1) = some (.inl (6, 6, .inr p)) ∧ ∀ i, i < 6 → p i = some (a + 2 + pm i)
def vMj (pm : Nat → Nat) : Prop := (∀ i, i < 6 → pm i < 6) ∧ ∀ i j, i < 6 → j < 6 → pm i = pm j → i = j
def vMr (h : vHp) (a : Nat) (pm : Nat → Nat) (L : Nat → Nat → Int) : Prop := ∀ i, i < 6 → ∃ f, hg h (a + 2 + pm i) = some (.inl (0, 4, .inl f)) ∧ ∀ k, k < 4 → f k = L i k
def vMe (h : vHp) (a n : Nat) (hi mi : Int) (L : Nat → Nat → Int) : Prop := vMo h a n hi mi ∧ ∃ pm, vMp h a pm ∧ vMj pm ∧ vMr h a pm L
theorem vMe_fr {Z : Nat → Prop} {h h1 : vHp} {a n : Nat} {hi mi : Int} {L : Nat → Nat → Int} (hM : vMe h a n hi mi L) (f : vFr Z h h1) (nz : ∀ q, a ≤ q → q < a + 8 → ¬ Z q) : vMe h1 a n hi mi L := by
  obtain ⟨h0, pm, ⟨p, hp, hp2⟩, hj, hr⟩ := hM
  refine ⟨(f.2.2 a (nz a (by omega) (by omega))).trans h0, pm, ⟨p, (f.2.2 _ (nz _ (by omega) (by omega))).trans hp, hp2⟩, hj, fun i hi => ?_⟩
  obtain ⟨g, hg1, hg2⟩ := hr i hi
  have := hj.1 i hi
  exact ⟨g, (f.2.2 _ (nz _ (by omega) (by omega))).trans hg1, hg2⟩
/-- the first place of a span among so many, the place behind them if it is nowhere -/
def vfi (L : Nat → Nat → Int) (x y z : Int) : Nat → Nat → Nat
  | 0, i => i
  | n + 1, i => if L i 0 = x ∧ L i 1 = y ∧ L i 2 = z then i else vfi L x y z n (i + 1)
/-- what is read of a row -/
theorem k_find {d a n : Nat} {hi mi x y z : Int} {L : Nat → Nat → Int} {h : vHp} {Q : vQ} (hM : vMe h a n hi mi L) (hn : n ≤ 6) (hb : ∀ i k, i < n → k < 4 → -2147483648 ≤ L i k ∧ L i k ≤ 2147483647) (x1 : -2147483648 ≤ x) (x2 : x ≤ 2147483647) (y1 : -2147483648 ≤ y) (y2 : y ≤ 2147483647) (z1 : -2147483648 ≤ z) (z2 : z ≤ 2147483647) (k : Q (some (.int (iI (vfi L x y z n 0 : Nat)))) h) : vCall (d + 1) 0 0 22 [.ref a, .int (iI x), .int (iI y), .int (iI z)] h Q := by
  obtain ⟨h0, pm, ⟨p, hp, hp2⟩, hj, hr⟩ := hM
  unfold vMo at h0
  have loop : ∀ u i : Nat, i + u = n → vfi L x y z u i = vfi L x y z n 0 → ∀ x5 : Value, vW (vCall d) 22 Q 3 [.ref a, .int (iI x), .int (iI y), .int (iI z), .int (iI (i : Int)), x5] [] h 0 0 := by
    intro u
    induction u with
    | zero =>
      intro i hi' he x5
      refine r_iload c22_3 rfl (r_aload c22_5 rfl (r_get c22_6 h0 rfl ?_))
      refine r_icge c22_9 (by omega) (by omega) (by omega) (by omega) (fun c_9 => ?_) (fun q => by exfalso; omega)
      refine r_aload c22_54 rfl (r_get c22_55 h0 rfl ?_)
      refine r_iret (st := []) c22_58 ?_
      obtain rfl : i = n := by omega
      rw [← he] at k
      exact k
    | succ u ih =>
      intro i hi' he x5
      obtain ⟨f, hf1, hf2⟩ := hr i (by omega)
      have f0 : f (0 : Int).toNat = L i 0 := hf2 0 (by omega)
      have f1 : f (1 : Int).toNat = L i 1 := hf2 1 (by omega)
      have f2 : f (2 : Int).toNat = L i 2 := hf2 2 (by omega)
      have b0 := hb i 0 (by omega) (by omega)
      have b1 := hb i 1 (by omega) (by omega)
      have b2 := hb i 2 (by omega) (by omega)
      have next : ¬ (L i 0 = x ∧ L i 1 = y ∧ L i 2 = z) → vW (vCall d) 22 Q 48 [.ref a, .int (iI x), .int (iI y), .int (iI z), .int (iI (i : Int)), .ref (a + 2 + pm i)] [] h 0 0 := fun q => by
        refine r_iinc c22_48 rfl rfl (r_goto c22_51 ?_)
        try dsimp only [vst]
        rw [vsu]
        rw [show vfi L x y z (u + 1) i = (if L i 0 = x ∧ L i 1 = y ∧ L i 2 = z then i else vfi L x y z u (i + 1)) from rfl, if_neg q] at he
        exact ih (i + 1) (by omega) he _
      refine r_iload c22_3 rfl (r_aload c22_5 rfl (r_get c22_6 h0 rfl ?_))
      refine r_icge c22_9 (by omega) (by omega) (by omega) (by omega) (fun q => by exfalso; omega) (fun c_9 => ?_)
      refine r_aload c22_12 rfl (r_get c22_13 h0 rfl (r_iload c22_16 rfl (r_aald c22_18 hp (by omega) (by omega) (by omega) (by rw [Int.toNat_natCast]; exact hp2 i (by omega)) (r_astore c22_19 rfl (r_aload c22_21 rfl (r_ci c22_23 (r_iald c22_24 hf1 (by omega) (by omega) (r_iload c22_25 rfl ?_))))))))
      try dsimp only [vst]
      rw [f0]
      refine r_icne c22_26 (by omega) (by omega) (by omega) (by omega) (fun c_26 => ?_) (fun c_26 => ?_)
      · exact next (fun q => c_26 q.1)
      · refine r_aload c22_29 rfl (r_ci c22_31 (r_iald c22_32 hf1 (by omega) (by omega) (r_iload c22_33 rfl ?_)))
        rw [f1]
        refine r_icne c22_34 (by omega) (by omega) (by omega) (by omega) (fun c_34 => ?_) (fun c_34 => ?_)
        · exact next (fun q => c_34 q.2.1)
        · refine r_aload c22_37 rfl (r_ci c22_39 (r_iald c22_40 hf1 (by omega) (by omega) (r_iload c22_41 rfl ?_)))
          rw [f2]
          refine r_icne c22_42 (by omega) (by omega) (by omega) (by omega) (fun c_42 => ?_) (fun c_42 => ?_)
          · exact next (fun q => c_42 q.2.2)
          · refine r_iload c22_45 rfl ?_
            refine r_iret (st := []) c22_47 ?_
            rw [show vfi L x y z (u + 1) i = (if L i 0 = x ∧ L i 1 = y ∧ L i 2 = z then i else vfi L x y z u (i + 1)) from rfl, if_pos ⟨c_26, c_34, c_42⟩] at he
            rw [← he] at k
            exact k
  refine vin 6 [_, _, _, _, _, _] ml_22 rfl rfl ?_
  refine r_ci c22_0 (r_istore c22_1 rfl ?_)
  try dsimp only [vst]
  exact loop n 0 (by omega) rfl _
/-- one row takes new contents -/
theorem vMr_st {h h1 : vHp} {a i : Nat} {pm : Nat → Nat} {L : Nat → Nat → Int} {f : Nat → Int} (hr : vMr h a pm L) (hj : vMj pm) (hi : i < 6) (s : vSt h h1 (a + 2 + pm i) (.inl (0, 4, .inl f))) : vMr h1 a pm (fun j k => if j = i then f k else L j k) := by
  intro j hj2
  by_cases e : j = i
  · subst e
    exact ⟨f, s.2.2.1, fun k hk => (if_pos rfl).symm⟩
  · obtain ⟨g, g1, g2⟩ := hr j hj2
    refine ⟨g, (s.2.2.2 _ (fun q => e (hj.2 j i hj2 hi (by omega)))).trans g1, fun k hk => (g2 k hk).trans (if_neg e).symm⟩
theorem vMr_cg {h : vHp} {a : Nat} {pm : Nat → Nat} {L M : Nat → Nat → Int} (hr : vMr h a pm L) (e : ∀ i k, i < 6 → k < 4 → L i k = M i k) : vMr h a pm M := fun i hi => by
  obtain ⟨f, f1, f2⟩ := hr i hi
  exact ⟨f, f1, fun k hk => (f2 k hk).trans (e i k hi hk)⟩
theorem vMe_cg {h : vHp} {a n : Nat} {hi mi : Int} {L M : Nat → Nat → Int} (hM : vMe h a n hi mi L) (e : ∀ i k, i < 6 → k < 4 → L i k = M i k) : vMe h a n hi mi M := by
  obtain ⟨h0, pm, hp, hj, hr⟩ := hM
  exact ⟨h0, pm, hp, hj, vMr_cg hr e⟩
theorem k_write {d a n p : Nat} {hi mi x y z : Int} {L : Nat → Nat → Int} {h : vHp} {Q : vQ} (hM : vMe h a n hi mi L) (hlo : h.1.1 ≤ a) (hp6 : p < 6) (k : ∀ h', vMe h' a n hi mi (fun j k => if j = p ∧ k < 3 then (if k = 0 then x else if k = 1 then y else z) else L j k) → vFr (fun q => a + 2 ≤ q ∧ q < a + 8) h h' → Q none h') : vCall (d + 1) 0 0 23 [.ref a, .int (iI (p : Int)), .int (iI x), .int (iI y), .int (iI z)] h Q := by
  obtain ⟨h0, pm, ⟨pp, hp, hp2⟩, hj, hr⟩ := hM
  unfold vMo at h0
  have hpl := hj.1 p hp6
  obtain ⟨f, hf1, hf2⟩ := hr p hp6
  refine vin 6 [_, _, _, _, _, _] ml_23 rfl rfl ?_
  refine r_aload c23_0 rfl (r_get c23_1 h0 rfl (r_iload c23_4 rfl (r_aald c23_5 hp (by omega) (by omega) (by omega) (by rw [Int.toNat_natCast]; exact hp2 p (by omega)) (r_astore c23_6 rfl (r_aload c23_8 rfl (r_ci c23_10 (r_iload c23_11 rfl ?_)))))))
  try dsimp only [vst]
  refine r_iast c23_12 hf1 (by omega) (by omega) (by omega) (fun h1 s1 => ?_)
  have r1 := vMr_st hr hj hp6 s1
  refine r_aload c23_13 rfl (r_ci c23_15 (r_iload c23_16 rfl ?_))
  refine r_iast c23_17 s1.2.2.1 (vFr_lo (vFr_st s1) (by omega)) (by omega) (by omega) (fun h2 s2 => ?_)
  have r2 := vMr_st r1 hj hp6 s2
  refine r_aload c23_18 rfl (r_ci c23_20 (r_iload c23_21 rfl ?_))
  refine r_iast c23_23 s2.2.2.1 (vFr_lo (vFr_tr (vFr_st s1) (vFr_st s2)) (by omega)) (by omega) (by omega) (fun h3 s3 => ?_)
  have r3 := vMr_st r2 hj hp6 s3
  refine r_vret (st := []) c23_24 ?_
  have fr : vFr (fun q => a + 2 ≤ q ∧ q < a + 8) h h3 := vFr_tr (vFr_up (vFr_st s1) (fun q e => by omega)) (vFr_tr (vFr_up (vFr_st s2) (fun q e => by omega)) (vFr_up (vFr_st s3) (fun q e => by omega)))
  refine k h3 ⟨(fr.2.2 a (by omega)).trans h0, pm, ⟨pp, (fr.2.2 _ (by omega)).trans hp, hp2⟩, hj, vMr_cg r3 (fun j l hj2 hl => ?_)⟩ fr
  by_cases e : j = p
  · subst e
    have c : l = 0 ∨ l = 1 ∨ l = 2 ∨ l = 3 := by omega
    rcases c with rfl | rfl | rfl | rfl
    · simp [vup]
    · simp [vup]
    · simp [vup]
    · simp [vup]
      exact hf2 3 (by omega)
  · simp only [if_neg e]
    rw [if_neg (fun q => e q.1)]

