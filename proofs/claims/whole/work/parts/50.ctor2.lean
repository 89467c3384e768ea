theorem ml_20 : vml 20 = 1 := by decide +kernel
theorem ml_32 : vml 32 = 2 := by decide +kernel
theorem c20_0 : vlk 20 0 = some (6, 0, 0, 0, 1) := by decide +kernel
theorem c20_1 : vlk 20 1 = some (61, 0, 0, 0, 4) := by decide +kernel
theorem c20_4 : vlk 20 4 = some (6, 0, 0, 0, 5) := by decide +kernel
theorem c20_5 : vlk 20 5 = some (1, 0, 0, 6, 7) := by decide +kernel
theorem c20_7 : vlk 20 7 = some (1, 0, 0, 4, 8) := by decide +kernel
theorem c20_8 : vlk 20 8 = some (57, 0, 0, 0, 12) := by decide +kernel
theorem c20_12 : vlk 20 12 = some (68, 1, 0, 0, 15) := by decide +kernel
theorem c20_15 : vlk 20 15 = some (66, 0, 0, 0, 16) := by decide +kernel
theorem c32_0 : vlk 32 0 = some (6, 0, 0, 0, 1) := by decide +kernel
theorem c32_1 : vlk 32 1 = some (61, 0, 0, 0, 4) := by decide +kernel
theorem c32_4 : vlk 32 4 = some (6, 0, 0, 0, 5) := by decide +kernel
theorem c32_5 : vlk 32 5 = some (1, 0, 0, 80, 7) := by decide +kernel
theorem c32_7 : vlk 32 7 = some (55, 0, 0, 0, 9) := by decide +kernel
theorem c32_9 : vlk 32 9 = some (68, 3, 0, 0, 12) := by decide +kernel
theorem c32_12 : vlk 32 12 = some (6, 0, 0, 0, 13) := by decide +kernel
theorem c32_13 : vlk 32 13 = some (1, 0, 0, 6, 15) := by decide +kernel
theorem c32_15 : vlk 32 15 = some (56, 4, 0, 0, 18) := by decide +kernel
theorem c32_18 : vlk 32 18 = some (68, 3, 3, 0, 21) := by decide +kernel
theorem c32_21 : vlk 32 21 = some (6, 0, 0, 0, 22) := by decide +kernel
theorem c32_22 : vlk 32 22 = some (1, 0, 0, 6, 24) := by decide +kernel
theorem c32_24 : vlk 32 24 = some (56, 4, 0, 0, 27) := by decide +kernel
theorem c32_27 : vlk 32 27 = some (68, 3, 4, 0, 30) := by decide +kernel
theorem c32_30 : vlk 32 30 = some (6, 0, 0, 0, 31) := by decide +kernel
theorem c32_31 : vlk 32 31 = some (1, 0, 0, 6, 33) := by decide +kernel
theorem c32_33 : vlk 32 33 = some (56, 4, 0, 0, 36) := by decide +kernel
theorem c32_36 : vlk 32 36 = some (68, 3, 5, 0, 39) := by decide +kernel
theorem c32_39 : vlk 32 39 = some (1, 0, 0, 0, 40) := by decide +kernel
theorem c32_40 : vlk 32 40 = some (7, 1, 0, 0, 41) := by decide +kernel
theorem c32_41 : vlk 32 41 = some (4, 1, 0, 0, 42) := by decide +kernel
theorem c32_42 : vlk 32 42 = some (1, 0, 0, 5, 43) := by decide +kernel
theorem c32_43 : vlk 32 43 = some (80, 91, 0, 0, 46) := by decide +kernel
theorem c32_46 : vlk 32 46 = some (6, 0, 0, 0, 47) := by decide +kernel
theorem c32_47 : vlk 32 47 = some (42, 3, 3, 0, 50) := by decide +kernel
theorem c32_50 : vlk 32 50 = some (4, 1, 0, 0, 51) := by decide +kernel
theorem c32_58 : vlk 32 58 = some (52, 0, 0, 0, 59) := by decide +kernel
theorem c32_59 : vlk 32 59 = some (6, 0, 0, 0, 60) := by decide +kernel
theorem c32_60 : vlk 32 60 = some (42, 3, 4, 0, 63) := by decide +kernel
theorem c32_63 : vlk 32 63 = some (4, 1, 0, 0, 64) := by decide +kernel
theorem c32_71 : vlk 32 71 = some (52, 0, 0, 0, 72) := by decide +kernel
theorem c32_72 : vlk 32 72 = some (6, 0, 0, 0, 73) := by decide +kernel
theorem c32_73 : vlk 32 73 = some (42, 3, 5, 0, 76) := by decide +kernel
theorem c32_76 : vlk 32 76 = some (4, 1, 0, 0, 77) := by decide +kernel
theorem c32_84 : vlk 32 84 = some (52, 0, 0, 0, 85) := by decide +kernel
theorem c32_85 : vlk 32 85 = some (10, 1, 0, 1, 88) := by decide +kernel
theorem c32_88 : vlk 32 88 = some (37, 41, 0, 0, 91) := by decide +kernel
theorem c32_91 : vlk 32 91 = some (66, 0, 0, 0, 92) := by decide +kernel
/-! constructors: Memory, Reader -/
theorem k_Mem0 {d a : Nat} {h : vHp} {Q : vQ} (ho : hg h a = some (.inr (1, vblank 1 4))) (hs : h.2.1 = a + 1) (hlo : h.1.1 ≤ a) (k : ∀ h', vMm h' a [] 0 0 → h'.1 = h.1 → h'.2.1 = a + 8 → (∀ q, q < a → hg h' q = hg h q) → Q none h') : vCall (d + 1) 7 30 20 [.ref a] h Q := by
  refine vin 1 [_] ml_20 rfl rfl ?_
  refine r_aload c20_0 rfl (r_obj c20_1 (Nat.le_of_ble_eq_true rfl) (r_aload c20_4 rfl (r_ci c20_5 (r_ci c20_7 ?_))))
  show vW (vCall d) 20 Q 8 _ _ h (0 + (1 + (6 : Int).toNat)) (0 + ((6 : Int).toNat + (6 : Int).toNat * (4 : Int).toNat))
  refine r_mnew c20_8 (by omega) (by omega) (by omega) (by omega) (fun h1 s1 => ?_)
  obtain ⟨n1, n2, n3, n4, n5⟩ := s1
  rw [hs] at n2 n3 n4 n5 ⊢
  have o1 := (n5 a (by omega)).trans ho
  refine r_putF c20_12 o1 (by rw [n1]; exact hlo) rfl ⟨rfl, rfl⟩ (fun h2 s2 => ?_)
  refine r_vret (st := []) c20_15 ?_
  refine k h2 ⟨by simp, fun _ _ => 0, ⟨s2.2.2.1, fun i => i, ⟨_, (s2.2.2.2 _ (by omega)).trans n3, fun i hi => ?_⟩, ⟨fun i hi => hi, fun i j _ _ e => e⟩, fun i hi => ⟨fun _ => 0, (s2.2.2.2 _ (by omega)).trans (n4 i hi), fun k hk => rfl⟩⟩, fun i s e => by simp at e⟩ (s2.1.trans n1) (by rw [s2.2.1, n2]; rfl) (fun q hq => (s2.2.2.2 q (by omega)).trans (n5 q (by omega)))
  rw [if_pos (show i < (6 : Int).toNat from hi)]
theorem k_Reader0 {d a : Nat} {h : vHp} {Q : vQ} (ho : hg h a = some (.inr (3, vblank 3 6))) (hs : h.2.1 = a + 1) (hlo : h.1.1 ≤ a) (k : ∀ h', vRe h' a 0 (fun _ => 0) → h'.1 = h.1 → h'.2.1 = a + 41 → (∀ q, q < a → hg h' q = hg h q) → Q none h') : vCall (d + 2) 40 332 32 [.ref a] h Q := by
  have loop : ∀ u i : Nat, i + u = 6 → ∀ (h1 : vHp) (pa pb pc : Nat → Option Nat), h1.1 = h.1 → h1.2.1 = a + 5 + 6 * i → vRo h1 a 0 0 → vRy h1 a (fun _ => 0) → hg h1 (a + 2) = some (.inl (4, 6, .inr pa)) → hg h1 (a + 3) = some (.inl (4, 6, .inr pb)) → hg h1 (a + 4) = some (.inl (4, 6, .inr pc)) → (∀ j, j < i → pa j = some (a + 5 + 2 * (3 * j)) ∧ pb j = some (a + 5 + 2 * (3 * j + 1)) ∧ pc j = some (a + 5 + 2 * (3 * j + 2))) → (∀ j, j < 3 * i → vDy h1 (a + 5 + 2 * j) (fun _ => false)) → (∀ q, q < a → hg h1 q = hg h q) → vW (vCall (d + 1)) 32 Q 41 [.ref a, .int (iI (i : Int))] [] h1 (6 * u) (39 * u) := by
    intro u
    induction u with
    | zero =>
      intro i hi h1 pa pb pc l1 m1 ro ry r1 r2 r3 hp hD hq
      obtain rfl : i = 6 := by omega
      refine r_iload c32_41 rfl (r_ci c32_42 ?_)
      refine r_icgt c32_43 (by omega) (by omega) (by omega) (by omega) (fun c_43 => ?_) (fun q => by exfalso; omega)
      refine r_vret (st := []) c32_91 ?_
      exact k h1 ⟨⟨0, ro⟩, ⟨ry, ⟨pa, r1, fun j hj => (hp j hj).1⟩, ⟨pb, r2, fun j hj => (hp j hj).2.1⟩, pc, r3, fun j hj => (hp j hj).2.2⟩, fun j hj => ⟨_, hD j (by omega)⟩⟩ l1 (by rw [m1]) hq
    | succ u ih =>
      intro i hi h1 pa pb pc l1 m1 ro ry r1 r2 r3 hp hD hq
      have ro' := ro
      unfold vRo at ro'
      unfold vRy at ry
      refine r_iload c32_41 rfl (r_ci c32_42 ?_)
      refine r_icgt c32_43 (by omega) (by omega) (by omega) (by omega) (fun q => by exfalso; omega) (fun c_43 => ?_)
      refine r_aload c32_46 rfl (r_get c32_47 ro' rfl (r_iload c32_50 rfl ?_))
      show vW (vCall (d + 1)) 32 Q 51 _ _ h1 (6 * u + 2 + 2 + 2) (39 * u + 13 + 13 + 13)
      refine r_nD (by decide +kernel : vlk 32 51 = some (54, 0, 1, 0, 54)) (by decide +kernel : vlk 32 54 = some (34, 0, 0, 0, 55)) (by decide +kernel : vlk 32 55 = some (83, 0, 0, 0, 58)) (by rw [l1, m1]; omega) rfl (fun h2 hD2 g2 => ?_)
      rw [m1] at hD2 ⊢
      obtain ⟨l2, m2, e2⟩ := g2
      rw [m1] at m2 e2
      have t2 := (e2 (a + 2) (by omega)).trans r1
      refine r_aast (ci := 0) c32_58 t2 (by omega) (by rw [l2, l1]; omega) (by omega) (by omega) hD2.1 (fun h3 s3 => ?_)
      have l3 := (s3.1.trans l2).trans l1
      have m3 := s3.2.1.trans m2
      have ro3 := ((s3.2.2.2 a (by omega)).trans (e2 a (by omega))).trans ro'
      refine r_aload c32_59 rfl (r_get c32_60 ro3 rfl (r_iload c32_63 rfl ?_))
      refine r_nD (by decide +kernel : vlk 32 64 = some (54, 0, 1, 0, 67)) (by decide +kernel : vlk 32 67 = some (34, 0, 0, 0, 68)) (by decide +kernel : vlk 32 68 = some (83, 0, 0, 0, 71)) (by rw [l3, m3]; omega) rfl (fun h4 hD4 g4 => ?_)
      rw [m3] at hD4 ⊢
      obtain ⟨l4, m4, e4⟩ := g4
      rw [m3] at m4 e4
      have t4 := ((e4 (a + 3) (by omega)).trans (s3.2.2.2 _ (by omega))).trans ((e2 (a + 3) (by omega)).trans r2)
      refine r_aast (ci := 0) c32_71 t4 (by omega) (by rw [l4, l3]; omega) (by omega) (by omega) hD4.1 (fun h5 s5 => ?_)
      have l5 := (s5.1.trans l4).trans l3
      have m5 := s5.2.1.trans m4
      have ro5 := ((s5.2.2.2 a (by omega)).trans (e4 a (by omega))).trans ro3
      refine r_aload c32_72 rfl (r_get c32_73 ro5 rfl (r_iload c32_76 rfl ?_))
      refine r_nD (by decide +kernel : vlk 32 77 = some (54, 0, 1, 0, 80)) (by decide +kernel : vlk 32 80 = some (34, 0, 0, 0, 81)) (by decide +kernel : vlk 32 81 = some (83, 0, 0, 0, 84)) (by rw [l5, m5]; omega) rfl (fun h6 hD6 g6 => ?_)
      rw [m5] at hD6 ⊢
      obtain ⟨l6, m6, e6⟩ := g6
      rw [m5] at m6 e6
      have old : ∀ q, q < a + 5 + 6 * i → q ≠ a + 2 → q ≠ a + 3 → hg h6 q = hg h1 q := fun q z1 z2 z3 => by
        rw [e6 q (by omega), s5.2.2.2 q z3, e4 q (by omega), s3.2.2.2 q z2, e2 q (by omega)]
      have t6 := (old (a + 4) (by omega) (by omega) (by omega)).trans r3
      refine r_aast (ci := 0) c32_84 t6 (by omega) (by rw [l6, l5]; omega) (by omega) (by omega) hD6.1 (fun h7 s7 => ?_)
      refine r_iinc c32_85 rfl rfl (r_goto c32_88 ?_)
      try dsimp only [vst]
      rw [vsu]
      have old7 : ∀ q, q < a + 5 + 6 * i → q ≠ a + 2 → q ≠ a + 3 → q ≠ a + 4 → hg h7 q = hg h1 q := fun q z1 z2 z3 z4 => (s7.2.2.2 q z4).trans (old q z1 z2 z3)
      have mv : ∀ {hh : vHp} {c : Nat} {S : Nat → Bool}, vDy hh c S → hg h7 c = hg hh c → hg h7 (c + 1) = hg hh (c + 1) → vDy h7 c S := fun hD z1 z2 => by
        obtain ⟨y1, f, y2, y3⟩ := hD
        exact ⟨z1.trans y1, f, z2.trans y2, y3⟩
      refine ih (i + 1) (by omega) h7 (vup pa i (some (a + 5 + 6 * i))) (vup pb i (some (a + 5 + 6 * i + 2))) (vup pc i (some (a + 5 + 6 * i + 2 + 2))) ((s7.1.trans l6).trans l5) (by rw [s7.2.1, m6]; omega) ?_ ?_ ?_ ?_ ?_ (fun j hj => ?_) (fun j hj => ?_) (fun q z => (old7 q (by omega) (by omega) (by omega) (by omega)).trans (hq q z))
      · exact (old7 a (by omega) (by omega) (by omega) (by omega)).trans ro'
      · exact (old7 (a + 1) (by omega) (by omega) (by omega) (by omega)).trans ry
      · rw [s7.2.2.2 _ (by omega), e6 _ (by omega), s5.2.2.2 _ (by omega), e4 _ (by omega), s3.2.2.1, Int.toNat_natCast]
      · rw [s7.2.2.2 _ (by omega), e6 _ (by omega), s5.2.2.1, Int.toNat_natCast]
      · rw [s7.2.2.1, Int.toNat_natCast]
      · unfold vup
        by_cases e : j = i
        · subst e
          simp only [if_true]
          exact ⟨congrArg some (by omega), congrArg some (by omega), congrArg some (by omega)⟩
        · simp only [if_neg e]
          exact hp j (by omega)
      · by_cases z0 : j < 3 * i
        · exact mv (hD j z0) (old7 _ (by omega) (by omega) (by omega) (by omega)) (old7 _ (by omega) (by omega) (by omega) (by omega))
        · by_cases z1 : j = 3 * i
          · rw [show a + 5 + 2 * j = a + 5 + 6 * i by omega]
            exact mv hD2 (by rw [s7.2.2.2 _ (by omega), e6 _ (by omega), s5.2.2.2 _ (by omega), e4 _ (by omega), s3.2.2.2 _ (by omega)]) (by rw [s7.2.2.2 _ (by omega), e6 _ (by omega), s5.2.2.2 _ (by omega), e4 _ (by omega), s3.2.2.2 _ (by omega)])
          · by_cases z2 : j = 3 * i + 1
            · rw [show a + 5 + 2 * j = a + 5 + 6 * i + 2 by omega]
              exact mv hD4 (by rw [s7.2.2.2 _ (by omega), e6 _ (by omega), s5.2.2.2 _ (by omega)]) (by rw [s7.2.2.2 _ (by omega), e6 _ (by omega), s5.2.2.2 _ (by omega)])
            · rw [show a + 5 + 2 * j = a + 5 + 6 * i + 2 + 2 by omega]
              exact mv hD6 (s7.2.2.2 _ (by omega)) (s7.2.2.2 _ (by omega))
  refine vin 2 [_, _] ml_32 rfl rfl ?_
  refine r_aload c32_0 rfl (r_obj c32_1 (Nat.le_of_ble_eq_true rfl) (r_aload c32_4 rfl (r_ci c32_5 ?_)))
  show vW (vCall (d + 1)) 32 Q 7 _ _ h (39 + 1) (252 + (80 : Int).toNat)
  refine r_newa c32_7 (by omega) (by omega) (fun h1 s1 => ?_)
  obtain ⟨n1, n2, n3, n4⟩ := vNw_at s1 hs
  have o1 := (n4 a (by omega)).trans ho
  rw [hs]
  refine r_putF c32_9 o1 (by rw [n1]; exact hlo) rfl ⟨rfl, rfl⟩ (fun h2 s2 => ?_)
  have m2 := s2.2.1.trans n2
  refine r_aload c32_12 rfl (r_ci c32_13 ?_)
  show vW (vCall (d + 1)) 32 Q 15 _ _ h2 (38 + 1) (246 + (6 : Int).toNat)
  refine r_anew c32_15 (by omega) (by omega) (fun h3 s3 => ?_)
  obtain ⟨p1, p2, p3, p4⟩ := vNw_at s3 m2
  have o3 := (p4 a (by omega)).trans s2.2.2.1
  rw [m2]
  refine r_putF c32_18 o3 (by rw [p1, s2.1, n1]; exact hlo) rfl ⟨rfl, rfl⟩ (fun h4 s4 => ?_)
  have m4 := s4.2.1.trans p2
  refine r_aload c32_21 rfl (r_ci c32_22 ?_)
  show vW (vCall (d + 1)) 32 Q 24 _ _ h4 (37 + 1) (240 + (6 : Int).toNat)
  refine r_anew c32_24 (by omega) (by omega) (fun h5 s5 => ?_)
  obtain ⟨q1, q2, q3, q4⟩ := vNw_at s5 m4
  have o5 := (q4 a (by omega)).trans s4.2.2.1
  rw [m4]
  refine r_putF c32_27 o5 (by rw [q1, s4.1, p1, s2.1, n1]; exact hlo) rfl ⟨rfl, rfl⟩ (fun h6 s6 => ?_)
  have m6 := s6.2.1.trans q2
  refine r_aload c32_30 rfl (r_ci c32_31 ?_)
  show vW (vCall (d + 1)) 32 Q 33 _ _ h6 (36 + 1) (234 + (6 : Int).toNat)
  refine r_anew c32_33 (by omega) (by omega) (fun h7 s7 => ?_)
  obtain ⟨t1, t2, t3, t4⟩ := vNw_at s7 m6
  have o7 := (t4 a (by omega)).trans s6.2.2.1
  rw [m6]
  refine r_putF c32_36 o7 (by rw [t1, s6.1, q1, s4.1, p1, s2.1, n1]; exact hlo) rfl ⟨rfl, rfl⟩ (fun h8 s8 => ?_)
  refine r_ci c32_39 (r_istore c32_40 rfl ?_)
  try dsimp only [vst]
  refine loop 6 0 rfl h8 (fun _ => none) (fun _ => none) (fun _ => none) (by rw [s8.1, t1, s6.1, q1, s4.1, p1, s2.1, n1]) (by rw [s8.2.1, t2]) s8.2.2.1 ?_ ?_ ?_ ?_ (fun j hj => absurd hj (by omega)) (fun j hj => absurd hj (by omega)) (fun q z => ?_)
  · show hg h8 _ = _
    rw [s8.2.2.2 _ (by omega), t4 _ (by omega), s6.2.2.2 _ (by omega), q4 _ (by omega), s4.2.2.2 _ (by omega), p4 _ (by omega), s2.2.2.2 _ (by omega), n3]
    rfl
  · rw [s8.2.2.2 _ (by omega), t4 _ (by omega), s6.2.2.2 _ (by omega), q4 _ (by omega), s4.2.2.2 _ (by omega)]
    exact p3
  · rw [s8.2.2.2 _ (by omega), t4 _ (by omega), s6.2.2.2 _ (by omega)]
    exact q3
  · rw [s8.2.2.2 _ (by omega)]
    exact t3
  · rw [s8.2.2.2 _ (by omega), t4 _ (by omega), s6.2.2.2 _ (by omega), q4 _ (by omega), s4.2.2.2 _ (by omega), p4 _ (by omega), s2.2.2.2 _ (by omega), n4 _ (by omega)]

