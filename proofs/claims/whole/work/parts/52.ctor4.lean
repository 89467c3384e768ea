theorem ml_54 : vml 54 = 2 := by decide +kernel
theorem c54_0 : vlk 54 0 = some (6, 0, 0, 0, 1) := by decide +kernel
theorem c54_1 : vlk 54 1 = some (61, 0, 0, 0, 4) := by decide +kernel
theorem c54_4 : vlk 54 4 = some (6, 0, 0, 0, 5) := by decide +kernel
theorem c54_5 : vlk 54 5 = some (1, 0, 0, 10, 7) := by decide +kernel
theorem c54_7 : vlk 54 7 = some (56, 3, 0, 0, 10) := by decide +kernel
theorem c54_10 : vlk 54 10 = some (68, 5, 0, 0, 13) := by decide +kernel
theorem c54_13 : vlk 54 13 = some (6, 0, 0, 0, 14) := by decide +kernel
theorem c54_14 : vlk 54 14 = some (1, 0, 0, 10, 16) := by decide +kernel
theorem c54_16 : vlk 54 16 = some (56, 3, 0, 0, 19) := by decide +kernel
theorem c54_19 : vlk 54 19 = some (68, 5, 1, 0, 22) := by decide +kernel
theorem c54_22 : vlk 54 22 = some (6, 0, 0, 0, 23) := by decide +kernel
theorem c54_23 : vlk 54 23 = some (54, 3, 6, 0, 26) := by decide +kernel
theorem c54_30 : vlk 54 30 = some (68, 5, 3, 0, 33) := by decide +kernel
theorem c54_33 : vlk 54 33 = some (6, 0, 0, 0, 34) := by decide +kernel
theorem c54_34 : vlk 54 34 = some (54, 1, 4, 0, 37) := by decide +kernel
theorem c54_41 : vlk 54 41 = some (68, 5, 4, 0, 44) := by decide +kernel
theorem c54_44 : vlk 54 44 = some (6, 0, 0, 0, 45) := by decide +kernel
theorem c54_45 : vlk 54 45 = some (1, 0, 0, 4, 46) := by decide +kernel
theorem c54_46 : vlk 54 46 = some (56, 5, 0, 0, 49) := by decide +kernel
theorem c54_49 : vlk 54 49 = some (68, 5, 5, 0, 52) := by decide +kernel
theorem c54_52 : vlk 54 52 = some (6, 0, 0, 0, 53) := by decide +kernel
theorem c54_60 : vlk 54 60 = some (68, 5, 6, 0, 63) := by decide +kernel
/-! the object is made -/
theorem vRe_mv {h h1 : vHp} {r n : Nat} {t : Nat → Int} (hR : vRe h r n t) (e : ∀ q, r ≤ q → q < r + 41 → hg h1 q = hg h q) : vRe h1 r n t :=
  vRe_fr (h1 := (h.1, h.2.1, h1.2.2)) (Z := fun q => ¬ (r ≤ q ∧ q < r + 41)) hR ⟨rfl, rfl, fun q hq => by
    have := Classical.not_not.1 hq
    exact e q this.1 this.2⟩ (fun q e1 e2 hq => hq ⟨e1, e2⟩)
theorem vMm_mv {h h1 : vHp} {a : Nat} {l : List vSp} {hi mi : Int} (hM : vMm h a l hi mi) (e : ∀ q, a ≤ q → q < a + 8 → hg h1 q = hg h q) : vMm h1 a l hi mi :=
  vMm_fr (h1 := (h.1, h.2.1, h1.2.2)) (Z := fun q => ¬ (a ≤ q ∧ q < a + 8)) hM ⟨rfl, rfl, fun q hq => by
    have := Classical.not_not.1 hq
    exact e q this.1 this.2⟩ (fun q e1 e2 hq => hq ⟨e1, e2⟩)
/-- from the reader on -/
theorem k_RD0m {d b : Nat} {h4 h7 : vHp} {Q : vQ} {x : Value} (hlo : h7.1.1 ≤ b) (m7 : h7.2.1 = b + 44) (o7 : hg h7 b = some (.inr (5, [.ref (b + 1), .ref (b + 2), .int (iI 0), .ref (b + 3), .null, .null, .null]))) (hR7 : vRe h7 (b + 3) 0 (fun _ => 0)) (hp7 : hg h7 (b + 1) = some (.inl (3, 10, .inr fun _ => none))) (hs7 : hg h7 (b + 2) = some (.inl (3, 10, .inr fun _ => none))) (hB : vBk h7) (k : ∀ h', vRD h' b vS0 → h'.1 = h7.1 → h'.2.1 = b + 243 → (∀ q, q < b → hg h' q = hg h7 q) → Q none h') : vW (vCall (d + 2)) 54 Q 33 [.ref b, x] [] h7 199 1323 := by
  refine r_aload c54_33 rfl ?_
  rw [show (199 : Nat) = 191 + 7 + 1 by decide, show (1323 : Nat) = 1289 + 30 + 4 by decide]
  refine r_new c54_34 (fun h8 s8 => ?_)
  obtain ⟨n8, m8, t8, e8⟩ := vNw_at s8 m7
  rw [m7]
  refine r_dup (by decide +kernel : vlk 54 37 = some (34, 0, 0, 0, 38)) rfl (r_ipN0 (by decide +kernel : vlk 54 38 = some (83, 20, 0, 0, 41)) (by decide +kernel : vrc 20 = some (1, 0)) rfl (k_Mem0 t8 m8 (by rw [n8]; omega) (fun h9 hM9 n9 m9 e9 => ?_)))
  dsimp only [vpush]
  have o9 := (e9 b (by omega)).trans ((e8 b (by omega)).trans o7)
  refine r_putF c54_41 o9 (by rw [n9, n8]; exact hlo) rfl ⟨rfl, rfl⟩ (fun h10 s10 => ?_)
  have n10 := (s10.1.trans n9).trans n8
  have m10 := s10.2.1.trans m9
  refine r_aload c54_44 rfl (r_ci c54_45 ?_)
  rw [show (191 : Nat) = 190 + 1 by decide, show (1289 : Nat) = 1285 + (4 : Int).toNat by decide]
  refine r_anew c54_46 (by omega) (by omega) (fun h11 s11 => ?_)
  obtain ⟨n11, m11, t11, e11⟩ := vNw_at s11 m10
  have o11 := (e11 b (by omega)).trans s10.2.2.1
  rw [m10]
  refine r_putF c54_49 o11 (by rw [n11, n10]; exact hlo) rfl ⟨rfl, rfl⟩ (fun h12 s12 => ?_)
  have n12 := (s12.1.trans n11).trans n10
  have m12 := s12.2.1.trans m11
  refine r_aload c54_52 rfl ?_
  rw [show (190 : Nat) = 188 + 2 by decide, show (1285 : Nat) = 1272 + 13 by decide]
  refine r_nD (by decide +kernel : vlk 54 53 = some (54, 0, 1, 0, 56)) (by decide +kernel : vlk 54 56 = some (34, 0, 0, 0, 57)) (by decide +kernel : vlk 54 57 = some (83, 0, 0, 0, 60)) (by rw [n12, m12]; omega) rfl (fun h13 hD13 g13 => ?_)
  rw [m12] at hD13 ⊢
  obtain ⟨n13, m13, e13⟩ := g13
  rw [m12] at m13 e13
  have o13 := (e13 b (by omega)).trans s12.2.2.1
  refine r_putF c54_60 o13 (by rw [n13, n12]; exact hlo) rfl ⟨rfl, rfl⟩ (fun h14 s14 => ?_)
  have n14 := (s14.1.trans n13).trans n12
  have m14 := s14.2.1.trans m13
  have c14 : ∀ q, q ≠ b → q < b + 53 → hg h14 q = hg h12 q := fun q z1 z2 => (s14.2.2.2 q z1).trans (e13 q (by omega))
  have c12 : ∀ q, q ≠ b → q < b + 52 → hg h14 q = hg h10 q := fun q z1 z2 => (c14 q z1 (by omega)).trans ((s12.2.2.2 q z1).trans (e11 q (by omega)))
  have c9 : ∀ q, q ≠ b → q < b + 52 → hg h14 q = hg h9 q := fun q z1 z2 => (c12 q z1 z2).trans (s10.2.2.2 q z1)
  have c7 : ∀ q, q ≠ b → q < b + 44 → hg h14 q = hg h7 q := fun q z1 z2 => (c9 q z1 (by omega)).trans ((e9 q (by omega)).trans (e8 q (by omega)))
  have hp1 : hg h14 (b + 1) = some (.inl (3, 10, .inr fun _ => none)) := by
    rw [c7 _ (by omega) (by omega)]; exact hp7
  have hs1 : hg h14 (b + 2) = some (.inl (3, 10, .inr fun _ => none)) := by
    rw [c7 _ (by omega) (by omega)]; exact hs7
  have hw1 : hg h14 (b + 52) = some (.inl (5, 4, .inr fun _ => none)) := by
    rw [c14 _ (by omega) (by omega), s12.2.2.2 _ (by omega)]; exact t11
  have hD14 := vDy_mv (h1 := h14) hD13 (s14.2.2.2 _ (by omega)) (s14.2.2.2 _ (by omega))
  rw [show (188 : Nat) = 8 + 180 by decide, show (1272 : Nat) = 132 + 1140 by decide]
  refine k_RD0b (d := d) (by rw [n14]; exact hlo) _ (by rw [m14]) s14.2.2.1 _ _ hp1 hs1 hw1 (fun h15 y1 y2 y3 y4 y5 y6 y7 y8 y9 => ?_)
  have n15 := y7.trans n14
  refine k h15 ⟨(y9 b (by omega) (by omega) (by omega) (by omega)).trans s14.2.2.1, y1, y2, y3, y5, y6, vRe_mv hR7 (fun q z1 z2 => (y9 q (by omega) (by omega) (by omega) (by omega)).trans (c7 q (by omega) (by omega))), vMm_mv hM9 (fun q z1 z2 => (y9 q (by omega) (by omega) (by omega) (by omega)).trans (c9 q (by omega) (by omega))), ⟨_, vDy_mv hD14 (y9 _ (by omega) (by omega) (by omega) (by omega)) (y9 _ (by omega) (by omega) (by omega) (by omega))⟩, y4, ?_, by rw [n15]; exact hlo⟩ n15 y8 (fun q z => ?_)
  · have low : ∀ q, q < b → hg h15 q = hg h7 q := fun q z => (y9 q (by omega) (by omega) (by omega) (by omega)).trans (c7 q (by omega) (by omega))
    obtain ⟨⟨f, f1, f2⟩, f3⟩ := hB
    unfold vBk
    rw [n15]
    exact ⟨⟨f, (low _ (by omega)).trans f1, f2⟩, f3⟩
  · exact (y9 q (by omega) (by omega) (by omega) (by omega)).trans (c7 q (by omega) (by omega))
theorem k_RD0 {d b : Nat} {h : vHp} {Q : vQ} (ho : hg h b = some (.inr (5, vblank 5 7))) (hs : h.2.1 = b + 1) (hlo : h.1.1 ≤ b) (hB : vBk h) (k : ∀ h', vRD h' b vS0 → h'.1 = h.1 → h'.2.1 = b + 243 → (∀ q, q < b → hg h' q = hg h q) → Q none h') : vCall (d + 3) 242 1681 54 [.ref b] h Q := by
  refine vin 2 [_, _] ml_54 rfl rfl ?_
  refine r_aload c54_0 rfl (r_obj c54_1 (Nat.le_of_ble_eq_true rfl) (r_aload c54_4 rfl (r_ci c54_5 ?_)))
  rw [show (242 : Nat) = 241 + 1 by decide, show (1681 : Nat) = 1671 + (10 : Int).toNat by decide]
  refine r_anew c54_7 (by omega) (by omega) (fun h1 s1 => ?_)
  obtain ⟨n1, m1, t1, e1⟩ := vNw_at s1 hs
  have o1 := (e1 b (by omega)).trans ho
  rw [hs]
  refine r_putF c54_10 o1 (by rw [n1]; exact hlo) rfl ⟨rfl, rfl⟩ (fun h2 s2 => ?_)
  have n2 := s2.1.trans n1
  have m2 := s2.2.1.trans m1
  refine r_aload c54_13 rfl (r_ci c54_14 ?_)
  rw [show (241 : Nat) = 240 + 1 by decide, show (1671 : Nat) = 1661 + (10 : Int).toNat by decide]
  refine r_anew c54_16 (by omega) (by omega) (fun h3 s3 => ?_)
  obtain ⟨n3, m3, t3, e3⟩ := vNw_at s3 m2
  have o3 := (e3 b (by omega)).trans s2.2.2.1
  rw [m2]
  refine r_putF c54_19 o3 (by rw [n3, n2]; exact hlo) rfl ⟨rfl, rfl⟩ (fun h4 s4 => ?_)
  have n4 := (s4.1.trans n3).trans n2
  have m4 := s4.2.1.trans m3
  refine r_aload c54_22 rfl ?_
  rw [show (240 : Nat) = 199 + 40 + 1 by decide, show (1661 : Nat) = 1323 + 332 + 6 by decide]
  refine r_new c54_23 (fun h5 s5 => ?_)
  obtain ⟨n5, m5, t5, e5⟩ := vNw_at s5 m4
  rw [m4]
  refine r_dup (by decide +kernel : vlk 54 26 = some (34, 0, 0, 0, 27)) rfl (r_ip0 (by decide +kernel : vlk 54 27 = some (60, 32, 0, 0, 30)) (by decide +kernel : vrc 32 = some (3, 0)) rfl (k_Reader0 t5 m5 (by rw [n5, n4]; omega) (fun h6 hR6 n6 m6 e6 => ?_)))
  dsimp only [vpush]
  have o6 := (e6 b (by omega)).trans ((e5 b (by omega)).trans s4.2.2.1)
  refine r_putF c54_30 o6 (by rw [n6, n5, n4]; exact hlo) rfl ⟨rfl, rfl⟩ (fun h7 s7 => ?_)
  have n7 := ((s7.1.trans n6).trans n5).trans n4
  have m7 := s7.2.1.trans m6
  have hR7 := vRe_mv (h1 := h7) hR6 (fun q z1 z2 => s7.2.2.2 q (by omega))
  have low : ∀ q, q < b → hg h7 q = hg h q := fun q z => by
    rw [s7.2.2.2 q (by omega), e6 q (by omega), e5 q (by omega), s4.2.2.2 q (by omega), e3 q (by omega), s2.2.2.2 q (by omega), e1 q (by omega)]
  refine k_RD0m (d := d) (h4 := h4) (by rw [n7]; exact hlo) (by rw [m7]) s7.2.2.1 hR7 ?_ ?_ ?_ (fun h' z1 z2 z3 z4 => k h' z1 (z2.trans n7) z3 (fun q z => (z4 q z).trans (low q z)))
  · rw [s7.2.2.2 _ (by omega), e6 _ (by omega), e5 _ (by omega), s4.2.2.2 _ (by omega), e3 _ (by omega), s2.2.2.2 _ (by omega)]; exact t1
  · rw [s7.2.2.2 _ (by omega), e6 _ (by omega), e5 _ (by omega), s4.2.2.2 _ (by omega)]; exact t3
  · obtain ⟨⟨f, f1, f2⟩, f3⟩ := hB
    unfold vBk
    rw [n7]
    exact ⟨⟨f, (low _ (by omega)).trans f1, f2⟩, f3⟩

