theorem ml_0 : vml 0 = 1 := by decide +kernel
theorem ml_27 : vml 27 = 1 := by decide +kernel
theorem ml_52 : vml 52 = 1 := by decide +kernel
theorem c0_0 : vlk 0 0 = some (6, 0, 0, 0, 1) := by decide +kernel
theorem c0_1 : vlk 0 1 = some (61, 0, 0, 0, 4) := by decide +kernel
theorem c0_4 : vlk 0 4 = some (6, 0, 0, 0, 5) := by decide +kernel
theorem c0_5 : vlk 0 5 = some (1, 0, 0, 12, 7) := by decide +kernel
theorem c0_7 : vlk 0 7 = some (55, 1, 0, 0, 9) := by decide +kernel
theorem c0_9 : vlk 0 9 = some (68, 0, 0, 0, 12) := by decide +kernel
theorem c0_12 : vlk 0 12 = some (66, 0, 0, 0, 13) := by decide +kernel
theorem c27_0 : vlk 27 0 = some (6, 0, 0, 0, 1) := by decide +kernel
theorem c27_1 : vlk 27 1 = some (61, 0, 0, 0, 4) := by decide +kernel
theorem c27_4 : vlk 27 4 = some (6, 0, 0, 0, 5) := by decide +kernel
theorem c27_12 : vlk 27 12 = some (68, 2, 1, 0, 15) := by decide +kernel
theorem c27_15 : vlk 27 15 = some (6, 0, 0, 0, 16) := by decide +kernel
theorem c27_23 : vlk 27 23 = some (68, 2, 2, 0, 26) := by decide +kernel
theorem c27_26 : vlk 27 26 = some (6, 0, 0, 0, 27) := by decide +kernel
theorem c27_34 : vlk 27 34 = some (68, 2, 3, 0, 37) := by decide +kernel
theorem c27_37 : vlk 27 37 = some (6, 0, 0, 0, 38) := by decide +kernel
theorem c27_45 : vlk 27 45 = some (68, 2, 4, 0, 48) := by decide +kernel
theorem c27_48 : vlk 27 48 = some (66, 0, 0, 0, 49) := by decide +kernel
theorem c52_0 : vlk 52 0 = some (6, 0, 0, 0, 1) := by decide +kernel
theorem c52_1 : vlk 52 1 = some (61, 0, 0, 0, 4) := by decide +kernel
theorem c52_4 : vlk 52 4 = some (6, 0, 0, 0, 5) := by decide +kernel
theorem c52_5 : vlk 52 5 = some (1, 0, 0, 30, 7) := by decide +kernel
theorem c52_7 : vlk 52 7 = some (55, 0, 0, 0, 9) := by decide +kernel
theorem c52_9 : vlk 52 9 = some (68, 4, 2, 0, 12) := by decide +kernel
theorem c52_12 : vlk 52 12 = some (66, 0, 0, 0, 13) := by decide +kernel
/-! constructors -/
theorem vNw_at {h h1 : vHp} {e : vE} {a : Nat} (s : vNw h h1 e) (ha : h.2.1 = a) : h1.1 = h.1 ∧ h1.2.1 = a + 1 ∧ hg h1 a = some e ∧ ∀ q, q ≠ a → hg h1 q = hg h q := by
  subst ha
  exact s
/-- n cells more -/
def vGr (h h' : vHp) (n : Nat) : Prop := h'.1 = h.1 ∧ h'.2.1 = h.2.1 + n ∧ ∀ q, q < h.2.1 ∨ h.2.1 + n ≤ q → hg h' q = hg h q
theorem k_Days0 {d a : Nat} {h : vHp} {Q : vQ} (ho : hg h a = some (.inr (0, vblank 0 1))) (hs : h.2.1 = a + 1) (hlo : h.1.1 ≤ a) (k : ∀ h', vDy h' a (fun _ => false) → h'.1 = h.1 → h'.2.1 = a + 2 → (∀ q, q ≠ a → q ≠ a + 1 → hg h' q = hg h q) → Q none h') : vCall (d + 1) 1 12 0 [.ref a] h Q := by
  refine vin 1 [_] ml_0 rfl rfl ?_
  refine r_aload c0_0 rfl (r_obj c0_1 (Nat.le_of_ble_eq_true rfl) (r_aload c0_4 rfl (r_ci c0_5 ?_)))
  show vW (vCall d) 0 Q 7 _ _ h (0 + 1) (0 + (12 : Int).toNat)
  refine r_newa c0_7 (by omega) (by omega) (fun h1 s1 => ?_)
  obtain ⟨n1, n2, n3, n4⟩ := vNw_at s1 hs
  have o1 := (n4 a (by omega)).trans ho
  rw [hs]
  refine r_putF c0_9 o1 (by rw [n1]; exact hlo) rfl ⟨rfl, rfl⟩ (fun h2 s2 => ?_)
  refine r_vret (st := []) c0_12 ?_
  refine k h2 ⟨s2.2.2.1, fun _ => 0, (s2.2.2.2 _ (by omega)).trans n3, fun i hi => vWs_0 i⟩ (s2.1.trans n1) (by rw [s2.2.1, n2]) (fun q q1 q2 => (s2.2.2.2 q q1).trans (n4 q q2))
theorem k_Row0 {d a : Nat} {h : vHp} {Q : vQ} (ho : hg h a = some (.inr (4, vblank 4 3))) (hs : h.2.1 = a + 1) (hlo : h.1.1 ≤ a) (k : ∀ h', vRow h' a none → h'.1 = h.1 → h'.2.1 = a + 2 → (∀ q, q ≠ a → q ≠ a + 1 → hg h' q = hg h q) → Q none h') : vCall (d + 1) 1 30 52 [.ref a] h Q := by
  refine vin 1 [_] ml_52 rfl rfl ?_
  refine r_aload c52_0 rfl (r_obj c52_1 (Nat.le_of_ble_eq_true rfl) (r_aload c52_4 rfl (r_ci c52_5 ?_)))
  show vW (vCall d) 52 Q 7 _ _ h (0 + 1) (0 + (30 : Int).toNat)
  refine r_newa c52_7 (by omega) (by omega) (fun h1 s1 => ?_)
  obtain ⟨n1, n2, n3, n4⟩ := vNw_at s1 hs
  have o1 := (n4 a (by omega)).trans ho
  rw [hs]
  refine r_putF c52_9 o1 (by rw [n1]; exact hlo) rfl ⟨rfl, rfl⟩ (fun h2 s2 => ?_)
  refine r_vret (st := []) c52_12 ?_
  exact k h2 ⟨0, fun _ => 0, s2.2.2.1, (s2.2.2.2 _ (by omega)).trans n3, fun n p e => by cases e⟩ (s2.1.trans n1) (by rw [s2.2.1, n2]) (fun q q1 q2 => (s2.2.2.2 q q1).trans (n4 q q2))
theorem r_nD {d m pc q1 q2 nx bc bs : Nat} {R : vQ} {lv st : List Value} {h : vHp} (hc1 : vlk m pc = some (54, 0, 1, 0, q1)) (hc2 : vlk m q1 = some (34, 0, 0, 0, q2)) (hc3 : vlk m q2 = some (83, 0, 0, 0, nx)) (hlo : h.1.1 ≤ h.2.1) (hw : Nat.ble (((Value.ref h.2.1 :: st).map fun v => v.category).sum) 8 = true) (k : ∀ h', vDy h' h.2.1 (fun _ => false) → vGr h h' 2 → vW (vCall (d + 1)) m R nx lv (.ref h.2.1 :: st) h' bc bs) : vW (vCall (d + 1)) m R pc lv st h (bc + 2) (bs + 13) := by
  show vW (vCall (d + 1)) m R pc lv st h (bc + 1 + 1) (bs + 12 + 1)
  refine r_new hc1 (fun h1 s1 => ?_)
  obtain ⟨n1, n2, n3, n4⟩ := vNw_at s1 rfl
  refine r_dup hc2 rfl (r_ipN0 hc3 (by decide +kernel : vrc 0 = some (0, 0)) hw (k_Days0 n3 n2 (by rw [n1]; exact hlo) (fun h2 hD g1 g2 g3 => ?_)))
  exact k h2 hD ⟨g1.trans n1, g2, fun q hq => (g3 q (by omega) (by omega)).trans (n4 q (by omega))⟩
theorem k_Plan0 {d a : Nat} {h : vHp} {Q : vQ} (ho : hg h a = some (.inr (2, vblank 2 5))) (hs : h.2.1 = a + 1) (hlo : h.1.1 ≤ a) (k : ∀ h', vPl h' a false (fun _ => false) (fun _ => false) (fun _ => false) → h'.1 = h.1 → h'.2.1 = a + 9 → (∀ q, q < a ∨ a + 9 ≤ q → hg h' q = hg h q) → Q none h') : vCall (d + 2) 8 52 27 [.ref a] h Q := by
  refine vin 1 [_] ml_27 rfl rfl ?_
  refine r_aload c27_0 rfl (r_obj c27_1 (Nat.le_of_ble_eq_true rfl) (r_aload c27_4 rfl ?_))
  show vW (vCall (d + 1)) 27 Q 5 _ _ h (6 + 2) (39 + 13)
  refine r_nD (by decide +kernel : vlk 27 5 = some (54, 0, 1, 0, 8)) (by decide +kernel : vlk 27 8 = some (34, 0, 0, 0, 9)) (by decide +kernel : vlk 27 9 = some (83, 0, 0, 0, 12)) (by omega) rfl (fun h1 hD1 g1 => ?_)
  rw [hs] at hD1 ⊢
  obtain ⟨l1, m1, e1⟩ := g1
  rw [hs] at m1 e1
  have o1 := (e1 a (by omega)).trans ho
  refine r_putF c27_12 o1 (by rw [l1]; exact hlo) rfl ⟨rfl, rfl⟩ (fun h2 s2 => ?_)
  have l2 := s2.1.trans l1
  have m2 := s2.2.1.trans m1
  have hD1' := vDy_fr hD1 (vFr_st s2) (by omega) (by omega)
  refine r_aload c27_15 rfl ?_
  show vW (vCall (d + 1)) 27 Q 16 _ _ h2 (4 + 2) (26 + 13)
  refine r_nD (by decide +kernel : vlk 27 16 = some (54, 0, 1, 0, 19)) (by decide +kernel : vlk 27 19 = some (34, 0, 0, 0, 20)) (by decide +kernel : vlk 27 20 = some (83, 0, 0, 0, 23)) (by rw [l2, m2]; omega) rfl (fun h3 hD3 g3 => ?_)
  rw [m2] at hD3 ⊢
  obtain ⟨l3, m3, e3⟩ := g3
  rw [m2] at m3 e3
  have o3 := (e3 a (by omega)).trans s2.2.2.1
  refine r_putF c27_23 o3 (by rw [l3, l2]; exact hlo) rfl ⟨rfl, rfl⟩ (fun h4 s4 => ?_)
  have l4 := (s4.1.trans l3).trans l2
  have m4 := s4.2.1.trans m3
  have hD3' := vDy_fr hD3 (vFr_st s4) (by omega) (by omega)
  refine r_aload c27_26 rfl ?_
  show vW (vCall (d + 1)) 27 Q 27 _ _ h4 (2 + 2) (13 + 13)
  refine r_nD (by decide +kernel : vlk 27 27 = some (54, 0, 1, 0, 30)) (by decide +kernel : vlk 27 30 = some (34, 0, 0, 0, 31)) (by decide +kernel : vlk 27 31 = some (83, 0, 0, 0, 34)) (by rw [l4, m4]; omega) rfl (fun h5 hD5 g5 => ?_)
  rw [m4] at hD5 ⊢
  obtain ⟨l5, m5, e5⟩ := g5
  rw [m4] at m5 e5
  have o5 := (e5 a (by omega)).trans s4.2.2.1
  refine r_putF c27_34 o5 (by rw [l5, l4]; exact hlo) rfl ⟨rfl, rfl⟩ (fun h6 s6 => ?_)
  have l6 := (s6.1.trans l5).trans l4
  have m6 := s6.2.1.trans m5
  have hD5' := vDy_fr hD5 (vFr_st s6) (by omega) (by omega)
  refine r_aload c27_37 rfl ?_
  show vW (vCall (d + 1)) 27 Q 38 _ _ h6 (0 + 2) (0 + 13)
  refine r_nD (by decide +kernel : vlk 27 38 = some (54, 0, 1, 0, 41)) (by decide +kernel : vlk 27 41 = some (34, 0, 0, 0, 42)) (by decide +kernel : vlk 27 42 = some (83, 0, 0, 0, 45)) (by rw [l6, m6]; omega) rfl (fun h7 hD7 g7 => ?_)
  rw [m6] at hD7 ⊢
  obtain ⟨l7, m7, e7⟩ := g7
  rw [m6] at m7 e7
  have o7 := (e7 a (by omega)).trans s6.2.2.1
  refine r_putF c27_45 o7 (by rw [l7, l6]; exact hlo) rfl ⟨rfl, rfl⟩ (fun h8 s8 => ?_)
  refine r_vret (st := []) c27_48 ?_
  have keep : ∀ q, q ≠ a → (q < a + 3 ∨ a + 5 ≤ q) → (q < a + 5 ∨ a + 7 ≤ q) → (q < a + 7 ∨ a + 9 ≤ q) → hg h8 q = hg h2 q := fun q z1 z2 z3 z4 => by
    rw [s8.2.2.2 q z1, e7 q (by omega), s6.2.2.2 q z1, e5 q (by omega), s4.2.2.2 q z1, e3 q (by omega)]
  have keep4 : ∀ q, q ≠ a → (q < a + 5 ∨ a + 7 ≤ q) → (q < a + 7 ∨ a + 9 ≤ q) → hg h8 q = hg h4 q := fun q z1 z3 z4 => by
    rw [s8.2.2.2 q z1, e7 q (by omega), s6.2.2.2 q z1, e5 q (by omega)]
  have keep6 : ∀ q, q ≠ a → (q < a + 7 ∨ a + 9 ≤ q) → hg h8 q = hg h6 q := fun q z1 z4 => by
    rw [s8.2.2.2 q z1, e7 q (by omega)]
  have mv : ∀ {hh : vHp} {c : Nat} {S : Nat → Bool}, vDy hh c S → hg h8 c = hg hh c → hg h8 (c + 1) = hg hh (c + 1) → vDy h8 c S := fun hD z1 z2 => by
    obtain ⟨y1, f, y2, y3⟩ := hD
    exact ⟨z1.trans y1, f, z2.trans y2, y3⟩
  refine k h8 ⟨s8.2.2.1, mv hD1' (keep _ (by omega) (by omega) (by omega) (by omega)) (keep _ (by omega) (by omega) (by omega) (by omega)), mv hD3' (keep4 _ (by omega) (by omega) (by omega)) (keep4 _ (by omega) (by omega) (by omega)), mv hD5' (keep6 _ (by omega) (by omega)) (keep6 _ (by omega) (by omega)), vDy_cg (mv hD7 (s8.2.2.2 _ (by omega)) (s8.2.2.2 _ (by omega))) (fun n hn => rfl)⟩ ((s8.1.trans l7).trans l6) (s8.2.1.trans m7) (fun q hq => ?_)
  rw [keep q (by omega) (by omega) (by omega) (by omega), s2.2.2.2 q (by omega), e1 q (by omega)]

