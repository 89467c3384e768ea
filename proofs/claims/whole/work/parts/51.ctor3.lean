theorem c54_63 : vlk 54 63 = some (1, 0, 0, 0, 64) := by decide +kernel
theorem c54_64 : vlk 54 64 = some (7, 1, 0, 0, 65) := by decide +kernel
theorem c54_65 : vlk 54 65 = some (4, 1, 0, 0, 66) := by decide +kernel
theorem c54_66 : vlk 54 66 = some (1, 0, 0, 10, 68) := by decide +kernel
theorem c54_68 : vlk 54 68 = some (79, 103, 0, 0, 71) := by decide +kernel
theorem c54_71 : vlk 54 71 = some (6, 0, 0, 0, 72) := by decide +kernel
theorem c54_72 : vlk 54 72 = some (42, 5, 0, 0, 75) := by decide +kernel
theorem c54_75 : vlk 54 75 = some (4, 1, 0, 0, 76) := by decide +kernel
theorem c54_83 : vlk 54 83 = some (52, 0, 0, 0, 84) := by decide +kernel
theorem c54_84 : vlk 54 84 = some (6, 0, 0, 0, 85) := by decide +kernel
theorem c54_85 : vlk 54 85 = some (42, 5, 1, 0, 88) := by decide +kernel
theorem c54_88 : vlk 54 88 = some (4, 1, 0, 0, 89) := by decide +kernel
theorem c54_96 : vlk 54 96 = some (52, 0, 0, 0, 97) := by decide +kernel
theorem c54_97 : vlk 54 97 = some (10, 1, 0, 1, 100) := by decide +kernel
theorem c54_100 : vlk 54 100 = some (37, 65, 0, 0, 103) := by decide +kernel
theorem c54_103 : vlk 54 103 = some (1, 0, 0, 0, 104) := by decide +kernel
theorem c54_104 : vlk 54 104 = some (7, 1, 0, 0, 105) := by decide +kernel
theorem c54_105 : vlk 54 105 = some (4, 1, 0, 0, 106) := by decide +kernel
theorem c54_106 : vlk 54 106 = some (1, 0, 0, 4, 107) := by decide +kernel
theorem c54_107 : vlk 54 107 = some (79, 129, 0, 0, 110) := by decide +kernel
theorem c54_110 : vlk 54 110 = some (6, 0, 0, 0, 111) := by decide +kernel
theorem c54_111 : vlk 54 111 = some (42, 5, 5, 0, 114) := by decide +kernel
theorem c54_114 : vlk 54 114 = some (4, 1, 0, 0, 115) := by decide +kernel
theorem c54_122 : vlk 54 122 = some (52, 0, 0, 0, 123) := by decide +kernel
theorem c54_123 : vlk 54 123 = some (10, 1, 0, 1, 126) := by decide +kernel
theorem c54_126 : vlk 54 126 = some (37, 105, 0, 0, 129) := by decide +kernel
theorem c54_129 : vlk 54 129 = some (66, 0, 0, 0, 130) := by decide +kernel
/-! the object's constructor -/
theorem r_nP {d m pc q1 q2 nx bc bs : Nat} {R : vQ} {lv st : List Value} {h : vHp} (hc1 : vlk m pc = some (54, 2, 5, 0, q1)) (hc2 : vlk m q1 = some (34, 0, 0, 0, q2)) (hc3 : vlk m q2 = some (83, 27, 0, 0, nx)) (hlo : h.1.1 ≤ h.2.1) (hw : Nat.ble (((Value.ref h.2.1 :: st).map fun v => v.category).sum) 8 = true) (k : ∀ h', vPl h' h.2.1 false (fun _ => false) (fun _ => false) (fun _ => false) → vGr h h' 9 → vW (vCall (d + 2)) m R nx lv (.ref h.2.1 :: st) h' bc bs) : vW (vCall (d + 2)) m R pc lv st h (bc + 9) (bs + 57) := by
  show vW (vCall (d + 2)) m R pc lv st h (bc + 8 + 1) (bs + 52 + 5)
  refine r_new hc1 (fun h1 s1 => ?_)
  obtain ⟨n1, n2, n3, n4⟩ := vNw_at s1 rfl
  refine r_dup hc2 rfl (r_ipN0 hc3 (by decide +kernel : vrc 27 = some (2, 0)) hw (k_Plan0 n3 n2 (by rw [n1]; exact hlo) (fun h2 hD g1 g2 g3 => ?_)))
  exact k h2 hD ⟨g1.trans n1, g2, fun q hq => (g3 q (by omega)).trans (n4 q (by omega))⟩
theorem r_nR {d m pc q1 q2 nx bc bs : Nat} {R : vQ} {lv st : List Value} {h : vHp} (hc1 : vlk m pc = some (54, 4, 3, 0, q1)) (hc2 : vlk m q1 = some (34, 0, 0, 0, q2)) (hc3 : vlk m q2 = some (83, 52, 0, 0, nx)) (hlo : h.1.1 ≤ h.2.1) (hw : Nat.ble (((Value.ref h.2.1 :: st).map fun v => v.category).sum) 8 = true) (k : ∀ h', vRow h' h.2.1 none → vGr h h' 2 → vW (vCall (d + 1)) m R nx lv (.ref h.2.1 :: st) h' bc bs) : vW (vCall (d + 1)) m R pc lv st h (bc + 2) (bs + 33) := by
  show vW (vCall (d + 1)) m R pc lv st h (bc + 1 + 1) (bs + 30 + 3)
  refine r_new hc1 (fun h1 s1 => ?_)
  obtain ⟨n1, n2, n3, n4⟩ := vNw_at s1 rfl
  refine r_dup hc2 rfl (r_ipN0 hc3 (by decide +kernel : vrc 52 = some (4, 0)) hw (k_Row0 n3 n2 (by rw [n1]; exact hlo) (fun h2 hD g1 g2 g3 => ?_)))
  exact k h2 hD ⟨g1.trans n1, g2, fun q hq => (g3 q (by omega) (by omega)).trans (n4 q (by omega))⟩
def vN0 : vNmS := (fun _ => false, fun _ _ => false, fun _ _ => false, fun _ _ => false)
def vS0 : vSg := (vN0, (false, vN0), ([], 0, 0), (0, fun _ => 0), fun _ => none)
theorem vOk0 : vOk vS0 := by
  have e : vcn (fun _ => false) 0 720 = 0 := vcn_0 (fun j _ => rfl)
  refine ⟨fun i j s t _ h => by simp [vS0] at h, fun s h => by simp [vS0] at h, by simp [vS0], ⟨by show 0 ≤ 80; omega, fun i hi => absurd (show i < 0 from hi) (by omega)⟩, fun i n p _ h => by simp [vS0] at h, fun i _ => ?_, fun i _ => ?_⟩
  · exact ⟨by show vcn (fun _ => false) 0 720 ≤ 7; rw [e]; omega, by show vcn (fun _ => false) 0 720 ≤ 7; rw [e]; omega⟩
  · exact ⟨by show vcn (fun _ => false) 0 720 ≤ 7; rw [e]; omega, by show vcn (fun _ => false) 0 720 ≤ 7; rw [e]; omega⟩
/-- the lists are made last -/
theorem k_RD0c {d b : Nat} {h0 h : vHp} {Q : vQ} {x : Value} (hlo : h.1.1 ≤ b) (w : Nat → Option Nat) (hm : h.2.1 = b + 235) (a1 : hg h b = some (.inr (5, [.ref (b + 1), .ref (b + 2), .int (iI 0), .ref (b + 3), .ref (b + 44), .ref (b + 52), .ref (b + 53)]))) (w1 : hg h (b + 52) = some (.inl (5, 4, .inr w))) (k : ∀ h', (∃ p, hg h' (b + 52) = some (.inl (5, 4, .inr p)) ∧ ∀ i, i < 4 → p i = some (vra b i)) → (∀ i, i < 4 → vRow h' (vra b i) none) → h'.1 = h.1 → h'.2.1 = b + 243 → (∀ q, q < b + 235 → q ≠ b + 52 → hg h' q = hg h q) → Q none h') : vW (vCall (d + 1)) 54 Q 103 [.ref b, x] [] h 8 132 := by
  have loop : ∀ u i : Nat, i + u = 4 → ∀ (h1 : vHp) (p : Nat → Option Nat), h1.1 = h.1 → h1.2.1 = b + 235 + 2 * i → hg h1 (b + 52) = some (.inl (5, 4, .inr p)) → (∀ j, j < i → p j = some (vra b j)) → (∀ j, j < i → vRow h1 (vra b j) none) → (∀ q, q < b + 235 → q ≠ b + 52 → hg h1 q = hg h q) → vW (vCall (d + 1)) 54 Q 105 [.ref b, .int (iI (i : Int))] [] h1 (2 * u) (33 * u) := by
    intro u
    induction u with
    | zero =>
      intro i hi h1 p l1 m1 r1 hp hR hq
      obtain rfl : i = 4 := by omega
      refine r_iload c54_105 rfl (r_ci c54_106 ?_)
      refine r_icge c54_107 (by omega) (by omega) (by omega) (by omega) (fun c_107 => ?_) (fun q => by exfalso; omega)
      refine r_vret (st := []) c54_129 ?_
      exact k h1 ⟨p, r1, hp⟩ hR l1 m1 hq
    | succ u ih =>
      intro i hi h1 p l1 m1 r1 hp hR hq
      have a1' := (hq b (by omega) (by omega)).trans a1
      refine r_iload c54_105 rfl (r_ci c54_106 ?_)
      refine r_icge c54_107 (by omega) (by omega) (by omega) (by omega) (fun q => by exfalso; omega) (fun c_107 => ?_)
      refine r_aload c54_110 rfl (r_get c54_111 a1' rfl (r_iload c54_114 rfl ?_))
      show vW (vCall (d + 1)) 54 Q 115 _ _ h1 (2 * u + 2) (33 * u + 33)
      refine r_nR (by decide +kernel : vlk 54 115 = some (54, 4, 3, 0, 118)) (by decide +kernel : vlk 54 118 = some (34, 0, 0, 0, 119)) (by decide +kernel : vlk 54 119 = some (83, 52, 0, 0, 122)) (by rw [l1, m1]; omega) rfl (fun h2 hR2 g2 => ?_)
      rw [m1] at hR2 ⊢
      obtain ⟨l2, m2, e2⟩ := g2
      rw [m1] at m2 e2
      have t2 := (e2 (b + 52) (by omega)).trans r1
      have hR2' := hR2
      obtain ⟨sz, f, r2, -, -⟩ := hR2'
      refine r_aast (ci := 0) c54_122 t2 (by omega) (by rw [l2, l1]; omega) (by omega) (by omega) r2 (fun h3 s3 => ?_)
      refine r_iinc c54_123 rfl rfl (r_goto c54_126 ?_)
      try dsimp only [vst]
      rw [vsu]
      refine ih (i + 1) (by omega) h3 _ ((s3.1.trans l2).trans l1) (by rw [s3.2.1, m2]; omega) s3.2.2.1 (fun j hj => ?_) (fun j hj => ?_) (fun q z1 z2 => by rw [s3.2.2.2 q z2, e2 q (by omega), hq q z1 z2])
      · unfold vup
        rw [Int.toNat_natCast]
        by_cases e : j = i
        · subst e; rw [if_pos rfl]; rfl
        · rw [if_neg e]; exact hp j (by omega)
      · by_cases e : j = i
        · subst e
          exact vRow_fr hR2 (vFr_st s3) (by unfold vra; omega) (by unfold vra; omega)
        · have hR1 := hR j (by omega)
          obtain ⟨sz, f, y1, y2, y3⟩ := hR1
          unfold vra at y1 y2 ⊢
          exact ⟨sz, f, by rw [s3.2.2.2 _ (by omega), e2 _ (by omega)]; exact y1, by rw [s3.2.2.2 _ (by omega), e2 _ (by omega)]; exact y2, y3⟩
  refine r_ci c54_103 (r_istore c54_104 rfl ?_)
  try dsimp only [vst]
  exact loop 4 0 rfl h w rfl hm w1 (fun j hj => absurd hj (by omega)) (fun j hj => absurd hj (by omega)) (fun q _ _ => rfl)
theorem vDy_mv {h h1 : vHp} {a : Nat} {S : Nat → Bool} (hD : vDy h a S) (e1 : hg h1 a = hg h a) (e2 : hg h1 (a + 1) = hg h (a + 1)) : vDy h1 a S := by
  obtain ⟨y1, f, y2, y3⟩ := hD
  exact ⟨e1.trans y1, f, e2.trans y2, y3⟩
theorem vP0_mv {h h1 : vHp} {p : Nat} {ru : Bool} {R O X D : Nat → Bool} (hP : vP0 h p ru R O X D) (e : ∀ q, p ≤ q → q < p + 9 → hg h1 q = hg h q) : vP0 h1 p ru R O X D :=
  ⟨(e _ (by omega) (by omega)).trans hP.1, vDy_mv hP.2.1 (e _ (by omega) (by omega)) (e _ (by omega) (by omega)), vDy_mv hP.2.2.1 (e _ (by omega) (by omega)) (e _ (by omega) (by omega)), vDy_mv hP.2.2.2.1 (e _ (by omega) (by omega)) (e _ (by omega) (by omega)), vDy_mv hP.2.2.2.2 (e _ (by omega) (by omega)) (e _ (by omega) (by omega))⟩
/-- the plans are made before them -/
theorem k_RD0b {d b : Nat} {h : vHp} {Q : vQ} {x : Value} (hlo : h.1.1 ≤ b) (w : Nat → Option Nat) (hm : h.2.1 = b + 55) (a1 : hg h b = some (.inr (5, [.ref (b + 1), .ref (b + 2), .int (iI 0), .ref (b + 3), .ref (b + 44), .ref (b + 52), .ref (b + 53)]))) (p0 s0 : Nat → Option Nat) (p1 : hg h (b + 1) = some (.inl (3, 10, .inr p0))) (s1 : hg h (b + 2) = some (.inl (3, 10, .inr s0))) (w1 : hg h (b + 52) = some (.inl (5, 4, .inr w))) (k : ∀ h', vAw2 h' (b + 1) 3 10 (vpa b) → vAw2 h' (b + 2) 3 10 (vsa b) → vAw2 h' (b + 52) 5 4 (vra b) → (∀ i, i < 4 → vRow h' (vra b i) none) → vPls h' (vpa b) vN0 → vPls h' (vsa b) vN0 → h'.1 = h.1 → h'.2.1 = b + 243 → (∀ q, q < b + 55 → q ≠ b + 1 → q ≠ b + 2 → q ≠ b + 52 → hg h' q = hg h q) → Q none h') : vW (vCall (d + 2)) 54 Q 63 [.ref b, x] [] h (8 + 180) (132 + 1140) := by
  have loop : ∀ u i : Nat, i + u = 10 → ∀ (h1 : vHp) (p s : Nat → Option Nat), h1.1 = h.1 → h1.2.1 = b + 55 + 18 * i → hg h1 (b + 1) = some (.inl (3, 10, .inr p)) → hg h1 (b + 2) = some (.inl (3, 10, .inr s)) → (∀ j, j < i → p j = some (vpa b j) ∧ s j = some (vsa b j)) → (∀ j, j < i → vPl h1 (vpa b j) false (fun _ => false) (fun _ => false) (fun _ => false) ∧ vPl h1 (vsa b j) false (fun _ => false) (fun _ => false) (fun _ => false)) → (∀ q, q < b + 55 → q ≠ b + 1 → q ≠ b + 2 → hg h1 q = hg h q) → vW (vCall (d + 2)) 54 Q 65 [.ref b, .int (iI (i : Int))] [] h1 (8 + 18 * u) (132 + 114 * u) := by
    intro u
    induction u with
    | zero =>
      intro i hi h1 p s l1 m1 r1 r2 hp hP hq
      obtain rfl : i = 10 := by omega
      refine r_iload c54_65 rfl (r_ci c54_66 ?_)
      refine r_icge c54_68 (by omega) (by omega) (by omega) (by omega) (fun c_68 => ?_) (fun q => by exfalso; omega)
      refine k_RD0c (d := d + 1) (h := h1) (h0 := h1) (by rw [l1]; exact hlo) w (by rw [m1]) ((hq b (by omega) (by omega) (by omega)).trans a1) ((hq (b + 52) (by omega) (by omega) (by omega)).trans w1) (fun h2 z1 z2 z3 z4 z5 => ?_)
      have mvP : ∀ c, c + 9 ≤ b + 235 → b + 53 ≤ c → vPl h1 c false (fun _ => false) (fun _ => false) (fun _ => false) → vPl h2 c false (fun _ => false) (fun _ => false) (fun _ => false) := fun c c3 c4 hc => vP0_mv hc (fun q e1 e2 => z5 q (by omega) (by omega))
      exact k h2 ⟨p, (z5 _ (by omega) (by omega)).trans r1, fun j hj => (hp j hj).1⟩ ⟨s, (z5 _ (by omega) (by omega)).trans r2, fun j hj => (hp j hj).2⟩ z1 z2 (fun j hj => mvP _ (by unfold vpa; omega) (by unfold vpa; omega) (hP j hj).1) (fun j hj => mvP _ (by unfold vsa; omega) (by unfold vsa; omega) (hP j hj).2) (z3.trans l1) z4 (fun q y1 y2 y3 y4 => (z5 q (by omega) y4).trans (hq q y1 y2 y3))
    | succ u ih =>
      intro i hi h1 p s l1 m1 r1 r2 hp hP hq
      have a1' := (hq b (by omega) (by omega) (by omega)).trans a1
      refine r_iload c54_65 rfl (r_ci c54_66 ?_)
      refine r_icge c54_68 (by omega) (by omega) (by omega) (by omega) (fun q => by exfalso; omega) (fun c_68 => ?_)
      refine r_aload c54_71 rfl (r_get c54_72 a1' rfl (r_iload c54_75 rfl ?_))
      rw [show 8 + 18 * (u + 1) = 8 + 18 * u + 9 + 9 by omega, show 132 + 114 * (u + 1) = 132 + 114 * u + 57 + 57 by omega]
      refine r_nP (by decide +kernel : vlk 54 76 = some (54, 2, 5, 0, 79)) (by decide +kernel : vlk 54 79 = some (34, 0, 0, 0, 80)) (by decide +kernel : vlk 54 80 = some (83, 27, 0, 0, 83)) (by rw [l1, m1]; omega) rfl (fun h2 hP2 g2 => ?_)
      rw [m1] at hP2 ⊢
      obtain ⟨l2, m2, e2⟩ := g2
      rw [m1] at m2 e2
      have t2 := (e2 (b + 1) (by omega)).trans r1
      refine r_aast (ci := 0) c54_83 t2 (by omega) (by rw [l2, l1]; omega) (by omega) (by omega) hP2.1 (fun h3 s3 => ?_)
      have l3 := (s3.1.trans l2).trans l1
      have m3 := s3.2.1.trans m2
      have a3 := ((s3.2.2.2 b (by omega)).trans (e2 b (by omega))).trans a1'
      refine r_aload c54_84 rfl (r_get c54_85 a3 rfl (r_iload c54_88 rfl ?_))
      refine r_nP (by decide +kernel : vlk 54 89 = some (54, 2, 5, 0, 92)) (by decide +kernel : vlk 54 92 = some (34, 0, 0, 0, 93)) (by decide +kernel : vlk 54 93 = some (83, 27, 0, 0, 96)) (by rw [l3, m3]; omega) rfl (fun h4 hP4 g4 => ?_)
      rw [m3] at hP4 ⊢
      obtain ⟨l4, m4, e4⟩ := g4
      rw [m3] at m4 e4
      have t4 := ((e4 (b + 2) (by omega)).trans (s3.2.2.2 _ (by omega))).trans ((e2 (b + 2) (by omega)).trans r2)
      refine r_aast (ci := 0) c54_96 t4 (by omega) (by rw [l4, l3]; omega) (by omega) (by omega) hP4.1 (fun h5 s5 => ?_)
      refine r_iinc c54_97 rfl rfl (r_goto c54_100 ?_)
      try dsimp only [vst]
      rw [vsu]
      have old : ∀ q, q < b + 55 + 18 * i → q ≠ b + 1 → q ≠ b + 2 → hg h5 q = hg h1 q := fun q z1 z2 z3 => by
        rw [s5.2.2.2 q z3, e4 q (by omega), s3.2.2.2 q z2, e2 q (by omega)]
      refine ih (i + 1) (by omega) h5 (vup p i (some (b + 55 + 18 * i))) (vup s i (some (b + 55 + 18 * i + 9))) ((s5.1.trans l4).trans l3) (by rw [s5.2.1, m4]; omega) ?_ ?_ (fun j hj => ?_) (fun j hj => ?_) (fun q z1 z2 z3 => (old q (by omega) z2 z3).trans (hq q z1 z2 z3))
      · rw [s5.2.2.2 _ (by omega), e4 _ (by omega), s3.2.2.1, Int.toNat_natCast]
      · rw [s5.2.2.1, Int.toNat_natCast]
      · unfold vup vpa vsa
        by_cases e : j = i
        · subst e
          simp only [if_true]
          exact ⟨trivial, congrArg some (by omega)⟩
        · simp only [if_neg e]
          exact hp j (by omega)
      · by_cases e : j = i
        · subst e
          refine ⟨vP0_mv hP2 (fun q z1 z2 => ?_), ?_⟩
          · unfold vpa at z1 z2
            rw [s5.2.2.2 q (by omega), e4 q (by omega), s3.2.2.2 q (by omega)]
          · rw [show vsa b j = b + 55 + 18 * j + 9 by unfold vsa; omega]
            exact vP0_mv hP4 (fun q z1 z2 => s5.2.2.2 q (by omega))
        · have hj2 := hP j (by omega)
          exact ⟨vP0_mv hj2.1 (fun q z1 z2 => by unfold vpa at z1 z2; exact old q (by omega) (by omega) (by omega)), vP0_mv hj2.2 (fun q z1 z2 => by unfold vsa at z1 z2; exact old q (by omega) (by omega) (by omega))⟩
  refine r_ci c54_63 (r_istore c54_64 rfl ?_)
  try dsimp only [vst]
  exact loop 10 0 rfl h p0 s0 rfl hm p1 s1 (fun j hj => absurd hj (by omega)) (fun j hj => absurd hj (by omega)) (fun q _ _ _ => rfl)

