theorem ml_101 : vml 101 = 1 := by decide +kernel
theorem c101_0 : vlk 101 0 = some (6, 0, 0, 0, 1) := by decide +kernel
theorem c101_1 : vlk 101 1 = some (61, 0, 0, 0, 4) := by decide +kernel
theorem c101_4 : vlk 101 4 = some (6, 0, 0, 0, 5) := by decide +kernel
theorem c101_5 : vlk 101 5 = some (1, 0, 0, 10, 7) := by decide +kernel
theorem c101_7 : vlk 101 7 = some (55, 2, 0, 0, 9) := by decide +kernel
theorem c101_9 : vlk 101 9 = some (68, 6, 0, 0, 12) := by decide +kernel
theorem c101_12 : vlk 101 12 = some (6, 0, 0, 0, 13) := by decide +kernel
theorem c101_13 : vlk 101 13 = some (1, 0, 0, 7200, 16) := by decide +kernel
theorem c101_16 : vlk 101 16 = some (55, 2, 0, 0, 18) := by decide +kernel
theorem c101_18 : vlk 101 18 = some (68, 6, 1, 0, 21) := by decide +kernel
theorem c101_21 : vlk 101 21 = some (6, 0, 0, 0, 22) := by decide +kernel
theorem c101_22 : vlk 101 22 = some (1, 0, 0, 7200, 25) := by decide +kernel
theorem c101_25 : vlk 101 25 = some (55, 2, 0, 0, 27) := by decide +kernel
theorem c101_27 : vlk 101 27 = some (68, 6, 2, 0, 30) := by decide +kernel
theorem c101_30 : vlk 101 30 = some (6, 0, 0, 0, 31) := by decide +kernel
theorem c101_31 : vlk 101 31 = some (1, 0, 0, 7200, 34) := by decide +kernel
theorem c101_34 : vlk 101 34 = some (55, 2, 0, 0, 36) := by decide +kernel
theorem c101_36 : vlk 101 36 = some (68, 6, 3, 0, 39) := by decide +kernel
theorem c101_39 : vlk 101 39 = some (6, 0, 0, 0, 40) := by decide +kernel
theorem c101_40 : vlk 101 40 = some (1, 0, 0, 10, 42) := by decide +kernel
theorem c101_42 : vlk 101 42 = some (55, 2, 0, 0, 44) := by decide +kernel
theorem c101_44 : vlk 101 44 = some (68, 6, 4, 0, 47) := by decide +kernel
theorem c101_47 : vlk 101 47 = some (6, 0, 0, 0, 48) := by decide +kernel
theorem c101_48 : vlk 101 48 = some (1, 0, 0, 7200, 51) := by decide +kernel
theorem c101_51 : vlk 101 51 = some (55, 2, 0, 0, 53) := by decide +kernel
theorem c101_53 : vlk 101 53 = some (68, 6, 5, 0, 56) := by decide +kernel
theorem c101_56 : vlk 101 56 = some (6, 0, 0, 0, 57) := by decide +kernel
theorem c101_57 : vlk 101 57 = some (1, 0, 0, 7200, 60) := by decide +kernel
theorem c101_60 : vlk 101 60 = some (55, 2, 0, 0, 62) := by decide +kernel
theorem c101_62 : vlk 101 62 = some (68, 6, 6, 0, 65) := by decide +kernel
theorem c101_65 : vlk 101 65 = some (6, 0, 0, 0, 66) := by decide +kernel
theorem c101_66 : vlk 101 66 = some (1, 0, 0, 7200, 69) := by decide +kernel
theorem c101_69 : vlk 101 69 = some (55, 2, 0, 0, 71) := by decide +kernel
theorem c101_71 : vlk 101 71 = some (68, 6, 7, 0, 74) := by decide +kernel
theorem c101_74 : vlk 101 74 = some (6, 0, 0, 0, 75) := by decide +kernel
theorem c101_75 : vlk 101 75 = some (1, 0, 0, 80, 77) := by decide +kernel
theorem c101_77 : vlk 101 77 = some (55, 0, 0, 0, 79) := by decide +kernel
theorem c101_79 : vlk 101 79 = some (68, 6, 9, 0, 82) := by decide +kernel
theorem c101_82 : vlk 101 82 = some (6, 0, 0, 0, 83) := by decide +kernel
theorem c101_83 : vlk 101 83 = some (1, 0, 0, 36000, 85) := by decide +kernel
theorem c101_85 : vlk 101 85 = some (55, 2, 0, 0, 87) := by decide +kernel
theorem c101_87 : vlk 101 87 = some (68, 6, 13, 0, 90) := by decide +kernel
theorem c101_90 : vlk 101 90 = some (6, 0, 0, 0, 91) := by decide +kernel
theorem c101_91 : vlk 101 91 = some (1, 0, 0, 7, 93) := by decide +kernel
theorem c101_93 : vlk 101 93 = some (55, 0, 0, 0, 95) := by decide +kernel
theorem c101_95 : vlk 101 95 = some (68, 6, 16, 0, 98) := by decide +kernel
theorem c101_98 : vlk 101 98 = some (6, 0, 0, 0, 99) := by decide +kernel
theorem c101_99 : vlk 101 99 = some (1, 0, 0, 7, 101) := by decide +kernel
theorem c101_101 : vlk 101 101 = some (55, 0, 0, 0, 103) := by decide +kernel
theorem c101_103 : vlk 101 103 = some (68, 6, 17, 0, 106) := by decide +kernel
theorem c101_106 : vlk 101 106 = some (6, 0, 0, 0, 107) := by decide +kernel
theorem c101_107 : vlk 101 107 = some (1, 0, 0, 7, 109) := by decide +kernel
theorem c101_109 : vlk 101 109 = some (55, 0, 0, 0, 111) := by decide +kernel
theorem c101_111 : vlk 101 111 = some (68, 6, 18, 0, 114) := by decide +kernel
theorem c101_114 : vlk 101 114 = some (6, 0, 0, 0, 115) := by decide +kernel
theorem c101_115 : vlk 101 115 = some (1, 0, 0, 7, 117) := by decide +kernel
theorem c101_117 : vlk 101 117 = some (55, 0, 0, 0, 119) := by decide +kernel
theorem c101_119 : vlk 101 119 = some (68, 6, 19, 0, 122) := by decide +kernel
theorem c101_122 : vlk 101 122 = some (6, 0, 0, 0, 123) := by decide +kernel
theorem c101_123 : vlk 101 123 = some (1, 0, 0, 4, 124) := by decide +kernel
theorem c101_124 : vlk 101 124 = some (55, 0, 0, 0, 126) := by decide +kernel
theorem c101_126 : vlk 101 126 = some (34, 0, 0, 0, 127) := by decide +kernel
theorem c101_127 : vlk 101 127 = some (1, 0, 0, 0, 128) := by decide +kernel
theorem c101_128 : vlk 101 128 = some (1, 0, 0, (-1), 129) := by decide +kernel
theorem c101_129 : vlk 101 129 = some (49, 0, 0, 0, 130) := by decide +kernel
theorem c101_130 : vlk 101 130 = some (34, 0, 0, 0, 131) := by decide +kernel
theorem c101_131 : vlk 101 131 = some (1, 0, 0, 1, 132) := by decide +kernel
theorem c101_132 : vlk 101 132 = some (1, 0, 0, (-1), 133) := by decide +kernel
theorem c101_133 : vlk 101 133 = some (49, 0, 0, 0, 134) := by decide +kernel
theorem c101_134 : vlk 101 134 = some (34, 0, 0, 0, 135) := by decide +kernel
theorem c101_135 : vlk 101 135 = some (1, 0, 0, 2, 136) := by decide +kernel
theorem c101_136 : vlk 101 136 = some (1, 0, 0, (-1), 137) := by decide +kernel
theorem c101_137 : vlk 101 137 = some (49, 0, 0, 0, 138) := by decide +kernel
theorem c101_138 : vlk 101 138 = some (34, 0, 0, 0, 139) := by decide +kernel
theorem c101_139 : vlk 101 139 = some (1, 0, 0, 3, 140) := by decide +kernel
theorem c101_140 : vlk 101 140 = some (1, 0, 0, (-1), 141) := by decide +kernel
theorem c101_141 : vlk 101 141 = some (49, 0, 0, 0, 142) := by decide +kernel
theorem c101_142 : vlk 101 142 = some (68, 6, 22, 0, 145) := by decide +kernel
theorem c101_145 : vlk 101 145 = some (6, 0, 0, 0, 146) := by decide +kernel
theorem c101_146 : vlk 101 146 = some (1, 0, 0, 120, 148) := by decide +kernel
theorem c101_148 : vlk 101 148 = some (55, 0, 0, 0, 150) := by decide +kernel
theorem c101_150 : vlk 101 150 = some (68, 6, 23, 0, 153) := by decide +kernel
theorem c101_153 : vlk 101 153 = some (6, 0, 0, 0, 154) := by decide +kernel
theorem c101_154 : vlk 101 154 = some (1, 0, 0, 30, 156) := by decide +kernel
theorem c101_156 : vlk 101 156 = some (55, 0, 0, 0, 158) := by decide +kernel
theorem c101_158 : vlk 101 158 = some (68, 6, 24, 0, 161) := by decide +kernel
theorem c101_161 : vlk 101 161 = some (66, 0, 0, 0, 162) := by decide +kernel
/-! the reference: its constructor -/
def vR0 : Nat → vE
  | 0 => .inl (2, 10, .inl (fun _ => 0))
  | 1 => .inl (2, 7200, .inl (fun _ => 0))
  | 2 => .inl (2, 7200, .inl (fun _ => 0))
  | 3 => .inl (2, 7200, .inl (fun _ => 0))
  | 4 => .inl (2, 10, .inl (fun _ => 0))
  | 5 => .inl (2, 7200, .inl (fun _ => 0))
  | 6 => .inl (2, 7200, .inl (fun _ => 0))
  | 7 => .inl (2, 7200, .inl (fun _ => 0))
  | 8 => .inl (0, 80, .inl (fun _ => 0))
  | 9 => .inl (2, 36000, .inl (fun _ => 0))
  | 10 => .inl (0, 7, .inl (fun _ => 0))
  | 11 => .inl (0, 7, .inl (fun _ => 0))
  | 12 => .inl (0, 7, .inl (fun _ => 0))
  | 13 => .inl (0, 7, .inl (fun _ => 0))
  | 14 => .inl (0, 4, .inl (vup (vup (vup (vup (fun _ => 0) 0 (-1)) 1 (-1)) 2 (-1)) 3 (-1)))
  | 15 => .inl (0, 120, .inl (fun _ => 0))
  | 16 => .inl (0, 30, .inl (fun _ => 0))
  | _ => .inl (0, 0, .inl fun _ => 0)
def vCi (h0 h : vHp) (c j : Nat) (fs : List Value) : Prop := h.1 = h0.1 ∧ h.2.1 = c + 1 + j ∧ hg h c = some (.inr (6, fs)) ∧ (∀ i, i < j → hg h (c + 1 + i) = some (vR0 i)) ∧ ∀ q, q < c → hg h q = hg h0 q
theorem vCi_st {h0 h h1 h2 : vHp} {c j a : Nat} {fs fs' : List Value} (hC : vCi h0 h c j fs) (s : vNw h h1 (vR0 j)) (t : vSt h1 h2 a (.inr (6, fs'))) (ha : a = c) : vCi h0 h2 c (j + 1) fs' := by
  subst ha
  obtain ⟨a1, a2, a3, a4, a5⟩ := hC
  obtain ⟨n1, m1, t1, e1⟩ := vNw_at s a2
  refine ⟨(t.1.trans n1).trans a1, t.2.1.trans m1, t.2.2.1, fun i hi => ?_, fun q hq => ?_⟩
  · rw [t.2.2.2 _ (by omega)]
    by_cases e : i = j
    · rw [e]; exact t1
    · rw [e1 _ (by omega)]; exact a4 i (by omega)
  · rw [t.2.2.2 _ (by omega), e1 _ (by omega)]; exact a5 q hq
theorem vCi_o {h0 h h1 : vHp} {c j : Nat} {fs : List Value} {e : vE} (hC : vCi h0 h c j fs) (s : vNw h h1 e) : hg h1 c = some (.inr (6, fs)) := by
  obtain ⟨a1, a2, a3, a4, a5⟩ := hC
  obtain ⟨n1, m1, t1, e1⟩ := vNw_at s a2
  exact (e1 c (by omega)).trans a3
theorem k_Mod0 {d c : Nat} {h : vHp} {Q : vQ} (ho : hg h c = some (.inr (6, vblank 6 25))) (hs : h.2.1 = c + 1) (hlo : h.1.1 ≤ c) (k : ∀ h', vMD h' c vS0 → h'.1 = h.1 → h'.2.1 = c + 18 → (∀ q, q < c → hg h' q = hg h q) → Q none h') : vCall (d + 1) 17 79482 101 [.ref c] h Q := by
  have hC0 : vCi h h c 0 [.null, .null, .null, .null, .null, .null, .null, .null, .int (iI 0), .null, .int (iI 0), .int (iI 0), .int (iI 0), .null, .int (iI 0), .int (iI 0), .null, .null, .null, .null, .int (iI 0), .int (iI 0), .null, .null, .null] := ⟨rfl, hs, ho, fun i hi => absurd hi (by omega), fun q _ => rfl⟩
  refine vin 1 [_] ml_101 rfl rfl ?_
  refine r_aload c101_0 rfl (r_obj c101_1 (Nat.le_of_ble_eq_true rfl) (r_aload c101_4 rfl (r_ci c101_5 ?_)))
  show vW (vCall d) 101 Q 7 _ _ h (16 + 1) (79472 + (10 : Int).toNat)
  refine r_newa c101_7 (by omega) (by omega) (fun g0 s0 => ?_)
  have o0 := vCi_o hC0 s0
  rw [hC0.2.1]
  refine r_putF c101_9 o0 (by rw [s0.1, hC0.1]; exact hlo) rfl ⟨rfl, rfl⟩ (fun h1 t0 => ?_)
  have hC1 : vCi h h1 c 1 [.ref (c + 1), .null, .null, .null, .null, .null, .null, .null, .int (iI 0), .null, .int (iI 0), .int (iI 0), .int (iI 0), .null, .int (iI 0), .int (iI 0), .null, .null, .null, .null, .int (iI 0), .int (iI 0), .null, .null, .null] := vCi_st hC0 s0 t0 rfl
  refine r_aload c101_12 rfl (r_ci c101_13 ?_)
  show vW (vCall d) 101 Q 16 _ _ h1 (15 + 1) (72272 + (7200 : Int).toNat)
  refine r_newa c101_16 (by omega) (by omega) (fun g1 s1 => ?_)
  have o1 := vCi_o hC1 s1
  rw [hC1.2.1]
  refine r_putF c101_18 o1 (by rw [s1.1, hC1.1]; exact hlo) rfl ⟨rfl, rfl⟩ (fun h2 t1 => ?_)
  have hC2 : vCi h h2 c 2 [.ref (c + 1), .ref (c + 2), .null, .null, .null, .null, .null, .null, .int (iI 0), .null, .int (iI 0), .int (iI 0), .int (iI 0), .null, .int (iI 0), .int (iI 0), .null, .null, .null, .null, .int (iI 0), .int (iI 0), .null, .null, .null] := vCi_st hC1 s1 t1 rfl
  refine r_aload c101_21 rfl (r_ci c101_22 ?_)
  show vW (vCall d) 101 Q 25 _ _ h2 (14 + 1) (65072 + (7200 : Int).toNat)
  refine r_newa c101_25 (by omega) (by omega) (fun g2 s2 => ?_)
  have o2 := vCi_o hC2 s2
  rw [hC2.2.1]
  refine r_putF c101_27 o2 (by rw [s2.1, hC2.1]; exact hlo) rfl ⟨rfl, rfl⟩ (fun h3 t2 => ?_)
  have hC3 : vCi h h3 c 3 [.ref (c + 1), .ref (c + 2), .ref (c + 3), .null, .null, .null, .null, .null, .int (iI 0), .null, .int (iI 0), .int (iI 0), .int (iI 0), .null, .int (iI 0), .int (iI 0), .null, .null, .null, .null, .int (iI 0), .int (iI 0), .null, .null, .null] := vCi_st hC2 s2 t2 rfl
  refine r_aload c101_30 rfl (r_ci c101_31 ?_)
  show vW (vCall d) 101 Q 34 _ _ h3 (13 + 1) (57872 + (7200 : Int).toNat)
  refine r_newa c101_34 (by omega) (by omega) (fun g3 s3 => ?_)
  have o3 := vCi_o hC3 s3
  rw [hC3.2.1]
  refine r_putF c101_36 o3 (by rw [s3.1, hC3.1]; exact hlo) rfl ⟨rfl, rfl⟩ (fun h4 t3 => ?_)
  have hC4 : vCi h h4 c 4 [.ref (c + 1), .ref (c + 2), .ref (c + 3), .ref (c + 4), .null, .null, .null, .null, .int (iI 0), .null, .int (iI 0), .int (iI 0), .int (iI 0), .null, .int (iI 0), .int (iI 0), .null, .null, .null, .null, .int (iI 0), .int (iI 0), .null, .null, .null] := vCi_st hC3 s3 t3 rfl
  refine r_aload c101_39 rfl (r_ci c101_40 ?_)
  show vW (vCall d) 101 Q 42 _ _ h4 (12 + 1) (57862 + (10 : Int).toNat)
  refine r_newa c101_42 (by omega) (by omega) (fun g4 s4 => ?_)
  have o4 := vCi_o hC4 s4
  rw [hC4.2.1]
  refine r_putF c101_44 o4 (by rw [s4.1, hC4.1]; exact hlo) rfl ⟨rfl, rfl⟩ (fun h5 t4 => ?_)
  have hC5 : vCi h h5 c 5 [.ref (c + 1), .ref (c + 2), .ref (c + 3), .ref (c + 4), .ref (c + 5), .null, .null, .null, .int (iI 0), .null, .int (iI 0), .int (iI 0), .int (iI 0), .null, .int (iI 0), .int (iI 0), .null, .null, .null, .null, .int (iI 0), .int (iI 0), .null, .null, .null] := vCi_st hC4 s4 t4 rfl
  refine r_aload c101_47 rfl (r_ci c101_48 ?_)
  show vW (vCall d) 101 Q 51 _ _ h5 (11 + 1) (50662 + (7200 : Int).toNat)
  refine r_newa c101_51 (by omega) (by omega) (fun g5 s5 => ?_)
  have o5 := vCi_o hC5 s5
  rw [hC5.2.1]
  refine r_putF c101_53 o5 (by rw [s5.1, hC5.1]; exact hlo) rfl ⟨rfl, rfl⟩ (fun h6 t5 => ?_)
  have hC6 : vCi h h6 c 6 [.ref (c + 1), .ref (c + 2), .ref (c + 3), .ref (c + 4), .ref (c + 5), .ref (c + 6), .null, .null, .int (iI 0), .null, .int (iI 0), .int (iI 0), .int (iI 0), .null, .int (iI 0), .int (iI 0), .null, .null, .null, .null, .int (iI 0), .int (iI 0), .null, .null, .null] := vCi_st hC5 s5 t5 rfl
  refine r_aload c101_56 rfl (r_ci c101_57 ?_)
  show vW (vCall d) 101 Q 60 _ _ h6 (10 + 1) (43462 + (7200 : Int).toNat)
  refine r_newa c101_60 (by omega) (by omega) (fun g6 s6 => ?_)
  have o6 := vCi_o hC6 s6
  rw [hC6.2.1]
  refine r_putF c101_62 o6 (by rw [s6.1, hC6.1]; exact hlo) rfl ⟨rfl, rfl⟩ (fun h7 t6 => ?_)
  have hC7 : vCi h h7 c 7 [.ref (c + 1), .ref (c + 2), .ref (c + 3), .ref (c + 4), .ref (c + 5), .ref (c + 6), .ref (c + 7), .null, .int (iI 0), .null, .int (iI 0), .int (iI 0), .int (iI 0), .null, .int (iI 0), .int (iI 0), .null, .null, .null, .null, .int (iI 0), .int (iI 0), .null, .null, .null] := vCi_st hC6 s6 t6 rfl
  refine r_aload c101_65 rfl (r_ci c101_66 ?_)
  show vW (vCall d) 101 Q 69 _ _ h7 (9 + 1) (36262 + (7200 : Int).toNat)
  refine r_newa c101_69 (by omega) (by omega) (fun g7 s7 => ?_)
  have o7 := vCi_o hC7 s7
  rw [hC7.2.1]
  refine r_putF c101_71 o7 (by rw [s7.1, hC7.1]; exact hlo) rfl ⟨rfl, rfl⟩ (fun h8 t7 => ?_)
  have hC8 : vCi h h8 c 8 [.ref (c + 1), .ref (c + 2), .ref (c + 3), .ref (c + 4), .ref (c + 5), .ref (c + 6), .ref (c + 7), .ref (c + 8), .int (iI 0), .null, .int (iI 0), .int (iI 0), .int (iI 0), .null, .int (iI 0), .int (iI 0), .null, .null, .null, .null, .int (iI 0), .int (iI 0), .null, .null, .null] := vCi_st hC7 s7 t7 rfl
  refine r_aload c101_74 rfl (r_ci c101_75 ?_)
  show vW (vCall d) 101 Q 77 _ _ h8 (8 + 1) (36182 + (80 : Int).toNat)
  refine r_newa c101_77 (by omega) (by omega) (fun g8 s8 => ?_)
  have o8 := vCi_o hC8 s8
  rw [hC8.2.1]
  refine r_putF c101_79 o8 (by rw [s8.1, hC8.1]; exact hlo) rfl ⟨rfl, rfl⟩ (fun h9 t8 => ?_)
  have hC9 : vCi h h9 c 9 [.ref (c + 1), .ref (c + 2), .ref (c + 3), .ref (c + 4), .ref (c + 5), .ref (c + 6), .ref (c + 7), .ref (c + 8), .int (iI 0), .ref (c + 9), .int (iI 0), .int (iI 0), .int (iI 0), .null, .int (iI 0), .int (iI 0), .null, .null, .null, .null, .int (iI 0), .int (iI 0), .null, .null, .null] := vCi_st hC8 s8 t8 rfl
  refine r_aload c101_82 rfl (r_ci c101_83 ?_)
  show vW (vCall d) 101 Q 85 _ _ h9 (7 + 1) (182 + (36000 : Int).toNat)
  refine r_newa c101_85 (by omega) (by omega) (fun g9 s9 => ?_)
  have o9 := vCi_o hC9 s9
  rw [hC9.2.1]
  refine r_putF c101_87 o9 (by rw [s9.1, hC9.1]; exact hlo) rfl ⟨rfl, rfl⟩ (fun h10 t9 => ?_)
  have hC10 : vCi h h10 c 10 [.ref (c + 1), .ref (c + 2), .ref (c + 3), .ref (c + 4), .ref (c + 5), .ref (c + 6), .ref (c + 7), .ref (c + 8), .int (iI 0), .ref (c + 9), .int (iI 0), .int (iI 0), .int (iI 0), .ref (c + 10), .int (iI 0), .int (iI 0), .null, .null, .null, .null, .int (iI 0), .int (iI 0), .null, .null, .null] := vCi_st hC9 s9 t9 rfl
  refine r_aload c101_90 rfl (r_ci c101_91 ?_)
  show vW (vCall d) 101 Q 93 _ _ h10 (6 + 1) (175 + (7 : Int).toNat)
  refine r_newa c101_93 (by omega) (by omega) (fun g10 s10 => ?_)
  have o10 := vCi_o hC10 s10
  rw [hC10.2.1]
  refine r_putF c101_95 o10 (by rw [s10.1, hC10.1]; exact hlo) rfl ⟨rfl, rfl⟩ (fun h11 t10 => ?_)
  have hC11 : vCi h h11 c 11 [.ref (c + 1), .ref (c + 2), .ref (c + 3), .ref (c + 4), .ref (c + 5), .ref (c + 6), .ref (c + 7), .ref (c + 8), .int (iI 0), .ref (c + 9), .int (iI 0), .int (iI 0), .int (iI 0), .ref (c + 10), .int (iI 0), .int (iI 0), .ref (c + 11), .null, .null, .null, .int (iI 0), .int (iI 0), .null, .null, .null] := vCi_st hC10 s10 t10 rfl
  refine r_aload c101_98 rfl (r_ci c101_99 ?_)
  show vW (vCall d) 101 Q 101 _ _ h11 (5 + 1) (168 + (7 : Int).toNat)
  refine r_newa c101_101 (by omega) (by omega) (fun g11 s11 => ?_)
  have o11 := vCi_o hC11 s11
  rw [hC11.2.1]
  refine r_putF c101_103 o11 (by rw [s11.1, hC11.1]; exact hlo) rfl ⟨rfl, rfl⟩ (fun h12 t11 => ?_)
  have hC12 : vCi h h12 c 12 [.ref (c + 1), .ref (c + 2), .ref (c + 3), .ref (c + 4), .ref (c + 5), .ref (c + 6), .ref (c + 7), .ref (c + 8), .int (iI 0), .ref (c + 9), .int (iI 0), .int (iI 0), .int (iI 0), .ref (c + 10), .int (iI 0), .int (iI 0), .ref (c + 11), .ref (c + 12), .null, .null, .int (iI 0), .int (iI 0), .null, .null, .null] := vCi_st hC11 s11 t11 rfl
  refine r_aload c101_106 rfl (r_ci c101_107 ?_)
  show vW (vCall d) 101 Q 109 _ _ h12 (4 + 1) (161 + (7 : Int).toNat)
  refine r_newa c101_109 (by omega) (by omega) (fun g12 s12 => ?_)
  have o12 := vCi_o hC12 s12
  rw [hC12.2.1]
  refine r_putF c101_111 o12 (by rw [s12.1, hC12.1]; exact hlo) rfl ⟨rfl, rfl⟩ (fun h13 t12 => ?_)
  have hC13 : vCi h h13 c 13 [.ref (c + 1), .ref (c + 2), .ref (c + 3), .ref (c + 4), .ref (c + 5), .ref (c + 6), .ref (c + 7), .ref (c + 8), .int (iI 0), .ref (c + 9), .int (iI 0), .int (iI 0), .int (iI 0), .ref (c + 10), .int (iI 0), .int (iI 0), .ref (c + 11), .ref (c + 12), .ref (c + 13), .null, .int (iI 0), .int (iI 0), .null, .null, .null] := vCi_st hC12 s12 t12 rfl
  refine r_aload c101_114 rfl (r_ci c101_115 ?_)
  show vW (vCall d) 101 Q 117 _ _ h13 (3 + 1) (154 + (7 : Int).toNat)
  refine r_newa c101_117 (by omega) (by omega) (fun g13 s13 => ?_)
  have o13 := vCi_o hC13 s13
  rw [hC13.2.1]
  refine r_putF c101_119 o13 (by rw [s13.1, hC13.1]; exact hlo) rfl ⟨rfl, rfl⟩ (fun h14 t13 => ?_)
  have hC14 : vCi h h14 c 14 [.ref (c + 1), .ref (c + 2), .ref (c + 3), .ref (c + 4), .ref (c + 5), .ref (c + 6), .ref (c + 7), .ref (c + 8), .int (iI 0), .ref (c + 9), .int (iI 0), .int (iI 0), .int (iI 0), .ref (c + 10), .int (iI 0), .int (iI 0), .ref (c + 11), .ref (c + 12), .ref (c + 13), .ref (c + 14), .int (iI 0), .int (iI 0), .null, .null, .null] := vCi_st hC13 s13 t13 rfl
  refine r_aload c101_122 rfl (r_ci c101_123 ?_)
  show vW (vCall d) 101 Q 124 _ _ h14 (2 + 1) (150 + (4 : Int).toNat)
  refine r_newa c101_124 (by omega) (by omega) (fun g14 s14 => ?_)
  have o14 := vCi_o hC14 s14
  obtain ⟨n1, m1, t1, e1⟩ := vNw_at s14 hC14.2.1
  rw [hC14.2.1]
  refine r_dup c101_126 rfl (r_ci c101_127 (r_ci c101_128 ?_))
  refine r_iast c101_129 t1 (by rw [n1, hC14.1]; omega) (by omega) (by omega) (fun w0 u0 => ?_)
  refine r_dup c101_130 rfl (r_ci c101_131 (r_ci c101_132 ?_))
  refine r_iast c101_133 u0.2.2.1 (by rw [u0.1, n1, hC14.1]; omega) (by omega) (by omega) (fun w1 u1 => ?_)
  refine r_dup c101_134 rfl (r_ci c101_135 (r_ci c101_136 ?_))
  refine r_iast c101_137 u1.2.2.1 (by rw [u1.1, u0.1, n1, hC14.1]; omega) (by omega) (by omega) (fun w2 u2 => ?_)
  refine r_dup c101_138 rfl (r_ci c101_139 (r_ci c101_140 ?_))
  refine r_iast c101_141 u2.2.2.1 (by rw [u2.1, u1.1, u0.1, n1, hC14.1]; omega) (by omega) (by omega) (fun w3 u3 => ?_)
  have o14w := (u3.2.2.2 c (by omega)).trans ((u2.2.2.2 c (by omega)).trans ((u1.2.2.2 c (by omega)).trans ((u0.2.2.2 c (by omega)).trans o14)))
  refine r_putF c101_142 o14w (by rw [u3.1, u2.1, u1.1, u0.1, n1, hC14.1]; exact hlo) rfl ⟨rfl, rfl⟩ (fun h15 t14 => ?_)
  have hC15 : vCi h h15 c 15 [.ref (c + 1), .ref (c + 2), .ref (c + 3), .ref (c + 4), .ref (c + 5), .ref (c + 6), .ref (c + 7), .ref (c + 8), .int (iI 0), .ref (c + 9), .int (iI 0), .int (iI 0), .int (iI 0), .ref (c + 10), .int (iI 0), .int (iI 0), .ref (c + 11), .ref (c + 12), .ref (c + 13), .ref (c + 14), .int (iI 0), .int (iI 0), .ref (c + 15), .null, .null] := by
    refine ⟨by rw [t14.1, u3.1, u2.1, u1.1, u0.1, n1, hC14.1], by rw [t14.2.1, u3.2.1, u2.2.1, u1.2.1, u0.2.1, m1], t14.2.2.1, fun i hi => ?_, fun q hq => ?_⟩
    · rw [t14.2.2.2 _ (by omega)]
      by_cases e : i = 14
      · subst e; exact u3.2.2.1
      · rw [u3.2.2.2 _ (by omega), u2.2.2.2 _ (by omega), u1.2.2.2 _ (by omega), u0.2.2.2 _ (by omega), e1 _ (by omega)]; exact hC14.2.2.2.1 i (by omega)
    · rw [t14.2.2.2 _ (by omega), u3.2.2.2 _ (by omega), u2.2.2.2 _ (by omega), u1.2.2.2 _ (by omega), u0.2.2.2 _ (by omega), e1 _ (by omega)]; exact hC14.2.2.2.2 q hq
  refine r_aload c101_145 rfl (r_ci c101_146 ?_)
  show vW (vCall d) 101 Q 148 _ _ h15 (1 + 1) (30 + (120 : Int).toNat)
  refine r_newa c101_148 (by omega) (by omega) (fun g15 s15 => ?_)
  have o15 := vCi_o hC15 s15
  rw [hC15.2.1]
  refine r_putF c101_150 o15 (by rw [s15.1, hC15.1]; exact hlo) rfl ⟨rfl, rfl⟩ (fun h16 t15 => ?_)
  have hC16 : vCi h h16 c 16 [.ref (c + 1), .ref (c + 2), .ref (c + 3), .ref (c + 4), .ref (c + 5), .ref (c + 6), .ref (c + 7), .ref (c + 8), .int (iI 0), .ref (c + 9), .int (iI 0), .int (iI 0), .int (iI 0), .ref (c + 10), .int (iI 0), .int (iI 0), .ref (c + 11), .ref (c + 12), .ref (c + 13), .ref (c + 14), .int (iI 0), .int (iI 0), .ref (c + 15), .ref (c + 16), .null] := vCi_st hC15 s15 t15 rfl
  refine r_aload c101_153 rfl (r_ci c101_154 ?_)
  show vW (vCall d) 101 Q 156 _ _ h16 (0 + 1) (0 + (30 : Int).toNat)
  refine r_newa c101_156 (by omega) (by omega) (fun g16 s16 => ?_)
  have o16 := vCi_o hC16 s16
  rw [hC16.2.1]
  refine r_putF c101_158 o16 (by rw [s16.1, hC16.1]; exact hlo) rfl ⟨rfl, rfl⟩ (fun h17 t16 => ?_)
  have hC17 : vCi h h17 c 17 [.ref (c + 1), .ref (c + 2), .ref (c + 3), .ref (c + 4), .ref (c + 5), .ref (c + 6), .ref (c + 7), .ref (c + 8), .int (iI 0), .ref (c + 9), .int (iI 0), .int (iI 0), .int (iI 0), .ref (c + 10), .int (iI 0), .int (iI 0), .ref (c + 11), .ref (c + 12), .ref (c + 13), .ref (c + 14), .int (iI 0), .int (iI 0), .ref (c + 15), .ref (c + 16), .ref (c + 17)] := vCi_st hC16 s16 t16 rfl
  refine r_vret (st := []) c101_161 ?_
  obtain ⟨z1, z2, z3, z4, z5⟩ := hC17
  have br : ∀ i n, i < 17 → vR0 i = .inl (2, n, .inl fun _ => 0) → ∀ S : Nat → Bool, (∀ k, S k = false) → vBr h17 (c + 1 + i) n S := fun i n hi e S hS => ⟨fun _ => 0, (z4 i hi).trans (by rw [e]), fun k _ => by rw [hS k]; rfl⟩
  refine k h17 ⟨⟨0, false, 0, fun _ => false, z3, br 9 36000 (by omega) rfl _ (fun _ => rfl), z4 8 (by omega), ⟨br 1 7200 (by omega) rfl _ (fun _ => rfl), br 2 7200 (by omega) rfl _ (fun _ => rfl), br 3 7200 (by omega) rfl _ (fun _ => rfl)⟩, by rw [z1]; exact hlo, Nat.zero_le 80, fun i hi => absurd hi (Nat.not_lt_zero i)⟩, br 0 10 (by omega) rfl _ (fun _ => rfl), ⟨br 4 10 (by omega) rfl _ (fun _ => rfl), br 5 7200 (by omega) rfl _ (fun _ => rfl), br 6 7200 (by omega) rfl _ (fun _ => rfl), br 7 7200 (by omega) rfl _ (fun _ => rfl)⟩, ⟨fun _ => (0, 0, 0, 0), ⟨z4 10 (by omega), z4 11 (by omega), z4 12 (by omega), z4 13 (by omega)⟩, fun i s e => nomatch (show (none : Option vSp) = some s from e)⟩, ⟨_, _, _, z4 14 (by omega), z4 15 (by omega), z4 16 (by omega), fun i hi => ?_⟩⟩ z1 z2 z5
  show vup (vup (vup (vup (fun _ => (0 : Int)) 0 (-1)) 1 (-1)) 2 (-1)) 3 (-1) i = -1
  unfold vup
  rcases (by omega : i = 0 ∨ i = 1 ∨ i = 2 ∨ i = 3) with rfl | rfl | rfl | rfl <;> rfl

