theorem ml_10 : vml 10 = 3 := by decide +kernel
theorem ml_11 : vml 11 = 5 := by decide +kernel
theorem ml_12 : vml 12 = 6 := by decide +kernel
theorem ml_13 : vml 13 = 4 := by decide +kernel
theorem vr_1 : vrc 1 = some (0, 1) := by decide +kernel
theorem vr_2 : vrc 2 = some (0, 1) := by decide +kernel
theorem vr_170 : vrc 170 = some (99, 1) := by decide +kernel
theorem c10_0 : vlk 10 0 = some (1, 0, 0, 0, 1) := by decide +kernel
theorem c10_1 : vlk 10 1 = some (7, 1, 0, 0, 2) := by decide +kernel
theorem c10_2 : vlk 10 2 = some (1, 0, 0, 0, 3) := by decide +kernel
theorem c10_3 : vlk 10 3 = some (7, 2, 0, 0, 4) := by decide +kernel
theorem c10_4 : vlk 10 4 = some (4, 2, 0, 0, 5) := by decide +kernel
theorem c10_5 : vlk 10 5 = some (1, 0, 0, 12, 7) := by decide +kernel
theorem c10_7 : vlk 10 7 = some (79, 28, 0, 0, 10) := by decide +kernel
theorem c10_10 : vlk 10 10 = some (4, 1, 0, 0, 11) := by decide +kernel
theorem c10_11 : vlk 10 11 = some (6, 0, 0, 0, 12) := by decide +kernel
theorem c10_12 : vlk 10 12 = some (42, 0, 0, 0, 15) := by decide +kernel
theorem c10_15 : vlk 10 15 = some (4, 2, 0, 0, 16) := by decide +kernel
theorem c10_16 : vlk 10 16 = some (46, 0, 0, 0, 17) := by decide +kernel
theorem c10_17 : vlk 10 17 = some (59, 170, 0, 0, 20) := by decide +kernel
theorem c10_20 : vlk 10 20 = some (11, 0, 0, 0, 21) := by decide +kernel
theorem c10_21 : vlk 10 21 = some (7, 1, 0, 0, 22) := by decide +kernel
theorem c10_22 : vlk 10 22 = some (10, 2, 0, 1, 25) := by decide +kernel
theorem c10_25 : vlk 10 25 = some (37, 4, 0, 0, 28) := by decide +kernel
theorem c10_28 : vlk 10 28 = some (4, 1, 0, 0, 29) := by decide +kernel
theorem c10_29 : vlk 10 29 = some (63, 0, 0, 0, 30) := by decide +kernel
theorem c11_0 : vlk 11 0 = some (1, 0, 0, 0, 1) := by decide +kernel
theorem c11_1 : vlk 11 1 = some (7, 3, 0, 0, 2) := by decide +kernel
theorem c11_2 : vlk 11 2 = some (4, 1, 0, 0, 3) := by decide +kernel
theorem c11_3 : vlk 11 3 = some (7, 4, 0, 0, 5) := by decide +kernel
theorem c11_5 : vlk 11 5 = some (4, 4, 0, 0, 7) := by decide +kernel
theorem c11_7 : vlk 11 7 = some (4, 2, 0, 0, 8) := by decide +kernel
theorem c11_8 : vlk 11 8 = some (80, 37, 0, 0, 11) := by decide +kernel
theorem c11_11 : vlk 11 11 = some (4, 4, 0, 0, 13) := by decide +kernel
theorem c11_13 : vlk 11 13 = some (1, 0, 0, 720, 16) := by decide +kernel
theorem c11_16 : vlk 11 16 = some (79, 37, 0, 0, 19) := by decide +kernel
theorem c11_19 : vlk 11 19 = some (6, 0, 0, 0, 20) := by decide +kernel
theorem c11_20 : vlk 11 20 = some (4, 4, 0, 0, 22) := by decide +kernel
theorem c11_22 : vlk 11 22 = some (58, 1, 0, 0, 25) := by decide +kernel
theorem c11_25 : vlk 11 25 = some (70, 31, 0, 0, 28) := by decide +kernel
theorem c11_28 : vlk 11 28 = some (10, 3, 0, 1, 31) := by decide +kernel
theorem c11_31 : vlk 11 31 = some (10, 4, 0, 1, 34) := by decide +kernel
theorem c11_34 : vlk 11 34 = some (37, 5, 0, 0, 37) := by decide +kernel
theorem c11_37 : vlk 11 37 = some (4, 3, 0, 0, 38) := by decide +kernel
theorem c11_38 : vlk 11 38 = some (63, 0, 0, 0, 39) := by decide +kernel
theorem c12_0 : vlk 12 0 = some (4, 3, 0, 0, 1) := by decide +kernel
theorem c12_1 : vlk 12 1 = some (7, 4, 0, 0, 3) := by decide +kernel
theorem c12_3 : vlk 12 3 = some (4, 3, 0, 0, 4) := by decide +kernel
theorem c12_4 : vlk 12 4 = some (72, 53, 0, 0, 7) := by decide +kernel
theorem c12_7 : vlk 12 7 = some (4, 1, 0, 0, 8) := by decide +kernel
theorem c12_8 : vlk 12 8 = some (7, 5, 0, 0, 10) := by decide +kernel
theorem c12_10 : vlk 12 10 = some (4, 5, 0, 0, 12) := by decide +kernel
theorem c12_12 : vlk 12 12 = some (4, 2, 0, 0, 13) := by decide +kernel
theorem c12_13 : vlk 12 13 = some (80, 50, 0, 0, 16) := by decide +kernel
theorem c12_16 : vlk 12 16 = some (4, 5, 0, 0, 18) := by decide +kernel
theorem c12_18 : vlk 12 18 = some (1, 0, 0, 720, 21) := by decide +kernel
theorem c12_21 : vlk 12 21 = some (79, 50, 0, 0, 24) := by decide +kernel
theorem c12_24 : vlk 12 24 = some (6, 0, 0, 0, 25) := by decide +kernel
theorem c12_25 : vlk 12 25 = some (4, 5, 0, 0, 27) := by decide +kernel
theorem c12_27 : vlk 12 27 = some (58, 1, 0, 0, 30) := by decide +kernel
theorem c12_30 : vlk 12 30 = some (70, 44, 0, 0, 33) := by decide +kernel
theorem c12_33 : vlk 12 33 = some (4, 4, 0, 0, 35) := by decide +kernel
theorem c12_35 : vlk 12 35 = some (10, 4, 0, (-1), 38) := by decide +kernel
theorem c12_38 : vlk 12 38 = some (71, 44, 0, 0, 41) := by decide +kernel
theorem c12_41 : vlk 12 41 = some (4, 5, 0, 0, 43) := by decide +kernel
theorem c12_43 : vlk 12 43 = some (63, 0, 0, 0, 44) := by decide +kernel
theorem c12_44 : vlk 12 44 = some (10, 5, 0, 1, 47) := by decide +kernel
theorem c12_47 : vlk 12 47 = some (37, 10, 0, 0, 50) := by decide +kernel
theorem c12_50 : vlk 12 50 = some (1, 0, 0, (-5), 52) := by decide +kernel
theorem c12_52 : vlk 12 52 = some (63, 0, 0, 0, 53) := by decide +kernel
theorem c12_53 : vlk 12 53 = some (4, 2, 0, 0, 54) := by decide +kernel
theorem c12_54 : vlk 12 54 = some (7, 5, 0, 0, 56) := by decide +kernel
theorem c12_56 : vlk 12 56 = some (4, 5, 0, 0, 58) := by decide +kernel
theorem c12_58 : vlk 12 58 = some (4, 1, 0, 0, 59) := by decide +kernel
theorem c12_59 : vlk 12 59 = some (78, 93, 0, 0, 62) := by decide +kernel
theorem c12_62 : vlk 12 62 = some (4, 5, 0, 0, 64) := by decide +kernel
theorem c12_64 : vlk 12 64 = some (72, 93, 0, 0, 67) := by decide +kernel
theorem c12_67 : vlk 12 67 = some (6, 0, 0, 0, 68) := by decide +kernel
theorem c12_68 : vlk 12 68 = some (4, 5, 0, 0, 70) := by decide +kernel
theorem c12_70 : vlk 12 70 = some (58, 1, 0, 0, 73) := by decide +kernel
theorem c12_73 : vlk 12 73 = some (70, 87, 0, 0, 76) := by decide +kernel
theorem c12_76 : vlk 12 76 = some (10, 4, 0, 1, 79) := by decide +kernel
theorem c12_79 : vlk 12 79 = some (4, 4, 0, 0, 81) := by decide +kernel
theorem c12_81 : vlk 12 81 = some (71, 87, 0, 0, 84) := by decide +kernel
theorem c12_84 : vlk 12 84 = some (4, 5, 0, 0, 86) := by decide +kernel
theorem c12_86 : vlk 12 86 = some (63, 0, 0, 0, 87) := by decide +kernel
theorem c12_87 : vlk 12 87 = some (10, 5, 0, (-1), 90) := by decide +kernel
theorem c12_90 : vlk 12 90 = some (37, 56, 0, 0, 93) := by decide +kernel
theorem c12_93 : vlk 12 93 = some (1, 0, 0, (-5), 95) := by decide +kernel
theorem c12_95 : vlk 12 95 = some (63, 0, 0, 0, 96) := by decide +kernel
theorem c13_0 : vlk 13 0 = some (4, 1, 0, 0, 1) := by decide +kernel
theorem c13_1 : vlk 13 1 = some (7, 3, 0, 0, 2) := by decide +kernel
theorem c13_2 : vlk 13 2 = some (4, 3, 0, 0, 3) := by decide +kernel
theorem c13_3 : vlk 13 3 = some (4, 2, 0, 0, 4) := by decide +kernel
theorem c13_4 : vlk 13 4 = some (80, 25, 0, 0, 7) := by decide +kernel
theorem c13_7 : vlk 13 7 = some (4, 3, 0, 0, 8) := by decide +kernel
theorem c13_8 : vlk 13 8 = some (1, 0, 0, 720, 11) := by decide +kernel
theorem c13_11 : vlk 13 11 = some (79, 25, 0, 0, 14) := by decide +kernel
theorem c13_14 : vlk 13 14 = some (6, 0, 0, 0, 15) := by decide +kernel
theorem c13_15 : vlk 13 15 = some (4, 3, 0, 0, 16) := by decide +kernel
theorem c13_16 : vlk 13 16 = some (58, 2, 0, 0, 19) := by decide +kernel
theorem c13_19 : vlk 13 19 = some (10, 3, 0, 1, 22) := by decide +kernel
theorem c13_22 : vlk 13 22 = some (37, 2, 0, 0, 25) := by decide +kernel
theorem c13_25 : vlk 13 25 = some (66, 0, 0, 0, 26) := by decide +kernel
/-! Days: how many, the k-th, spans and the like -/
theorem vcn_0 {S : Nat → Bool} {lo : Nat} : ∀ {n : Nat}, (∀ j, j < n → S (lo + j) = false) → vcn S lo n = 0
  | 0, _ => rfl
  | n + 1, h => by
    show vcn S lo n + _ = 0
    rw [vcn_0 (fun j hj => h j (by omega)), h n (by omega)]
    rfl
theorem vWs_pop {S : Nat → Bool} {i : Nat} {w : Int} (h : vWs S i w) : ∃ n : Nat, w = (n : Int) ∧ n < 2 ^ 60 ∧ vcn (fun j => n.testBit j) 0 64 = vcn S (60 * i) 60 := by
  obtain ⟨r1, r2⟩ := vWs_range h
  obtain ⟨n, rfl⟩ := Int.eq_ofNat_of_zero_le r1
  refine ⟨n, rfl, by omega, ?_⟩
  have e : ∀ j, j < 64 → n.testBit j = vbt (n : Int) j := fun j hj => by
    unfold vbt
    rw [lZ_nat]
    show _ = (BitVec.ofNat 64 n).getLsbD j
    rw [BitVec.getLsbD_ofNat]; simp [hj]
  rw [show 64 = 60 + 4 by rfl, vcn_add, vcn_0 (n := 4) (fun j hj => by rw [e _ (by omega)]; exact h.2.2 _ (by omega)), Nat.add_zero]
  exact vcn_cg (fun j hj => by rw [Nat.zero_add, e j (by omega)]; exact h.2.1 j hj)
theorem k_size {d a : Nat} {S : Nat → Bool} {h : vHp} {Q : vQ} (hD : vDy h a S) (k : Q (some (.int (iI (vcn S 0 720 : Nat)))) h) : vCall (d + 2) 0 0 10 [.ref a] h Q := by
  obtain ⟨f, hw, hf⟩ := hD.2
  have hd := hD.1
  have loop : ∀ n i : Nat, i + n = 12 → vW (vCall (d + 1)) 10 Q 4 [.ref a, .int (iI (vcn S 0 (60 * i) : Nat)), .int (iI (i : Int))] [] h 0 0 := by
    intro n
    induction n with
    | zero =>
      intro i hi
      refine r_iload c10_4 rfl (r_ci c10_5 ?_)
      refine r_icge c10_7 (by omega) (by omega) (by omega) (by omega) (fun c_7 => ?_) (fun q => by exfalso; omega)
      refine r_iload c10_28 rfl ?_
      refine r_iret (st := []) c10_29 ?_
      rw [show 60 * i = 720 by omega]
      exact k
    | succ n ih =>
      intro i hi
      refine r_iload c10_4 rfl (r_ci c10_5 ?_)
      refine r_icge c10_7 (by omega) (by omega) (by omega) (by omega) (fun q => by exfalso; omega) (fun c_7 => ?_)
      refine r_iload c10_10 rfl (r_aload c10_11 rfl (r_get c10_12 hd rfl (r_iload c10_15 rfl (r_lald c10_16 hw (by omega) (by omega) ?_))))
      obtain ⟨m, e1, e2, e3⟩ := vWs_pop (hf i (by omega))
      rw [Int.toNat_natCast, e1]
      refine r_is1 c10_17 vr_170 rfl (k_bitCountL e2 ?_)
      dsimp only [vpush]
      rw [e3]
      refine r_iadd c10_20 (r_istore c10_21 rfl (r_iinc c10_22 rfl rfl (r_goto c10_25 ?_)))
      try dsimp only [vst]
      have e4 : ((vcn S 0 (60 * i) : Nat) : Int) + ((vcn S (60 * i) 60 : Nat) : Int) = ((vcn S 0 (60 * (i + 1)) : Nat) : Int) := by
        rw [show 60 * (i + 1) = 60 * i + 60 by omega, vcn_add, Nat.zero_add]; omega
      rw [e4, vsu]
      exact ih (i + 1) (by omega)
  refine vin 3 [_, _, _] ml_10 rfl rfl ?_
  refine r_ci c10_0 (r_istore c10_1 rfl (r_ci c10_2 (r_istore c10_3 rfl ?_)))
  try dsimp only [vst]
  exact loop 12 0 rfl
theorem k_heldWithin {d a lo hi : Nat} {S : Nat → Bool} {h : vHp} {Q : vQ} (hD : vDy h a S) (h1 : lo ≤ hi + 1) (h2 : hi < 720) (k : Q (some (.int (iI (vcn S lo (hi + 1 - lo) : Nat)))) h) : vCall (d + 3) 0 0 11 [.ref a, .int (iI (lo : Int)), .int (iI (hi : Int))] h Q := by
  obtain ⟨f, hw, hf⟩ := hD.2
  have hd := hD.1
  have loop : ∀ n i : Nat, lo + i + n = hi + 1 → vW (vCall (d + 2)) 11 Q 5 [.ref a, .int (iI (lo : Int)), .int (iI (hi : Int)), .int (iI (vcn S lo i : Nat)), .int (iI ((lo + i : Nat) : Int))] [] h 0 0 := by
    intro n
    induction n with
    | zero =>
      intro i hi'
      refine r_iload c11_5 rfl (r_iload c11_7 rfl ?_)
      refine r_icgt c11_8 (by omega) (by omega) (by omega) (by omega) (fun c_8 => ?_) (fun q => by exfalso; omega)
      refine r_iload c11_37 rfl ?_
      refine r_iret (st := []) c11_38 ?_
      rw [show hi + 1 - lo = i by omega] at k
      exact k
    | succ n ih =>
      intro i hi'
      have hvc := vcn_le S lo i
      refine r_iload c11_5 rfl (r_iload c11_7 rfl ?_)
      refine r_icgt c11_8 (by omega) (by omega) (by omega) (by omega) (fun q => by exfalso; omega) (fun c_8 => ?_)
      refine r_iload c11_11 rfl (r_ci c11_13 ?_)
      refine r_icge c11_16 (by omega) (by omega) (by omega) (by omega) (fun q => by exfalso; omega) (fun c_16 => ?_)
      refine r_aload c11_19 rfl (r_iload c11_20 rfl ?_)
      refine r_iv1 c11_22 vr_1 hd rfl (k_holdsN hD (by omega) (fun q => ?_) (fun q => ?_))
      · dsimp only [vpush]
        refine r_ifeq c11_25 (by omega) (by omega) (fun q => by exfalso; omega) (fun c_25 => ?_)
        refine r_iinc c11_28 rfl rfl (r_iinc c11_31 rfl rfl (r_goto c11_34 ?_))
        try dsimp only [vst]
        have e : vcn S lo (i + 1) = vcn S lo i + 1 := by show vcn S lo i + (if S (lo + i) = true then 1 else 0) = _; rw [if_pos q]
        rw [vsu, vsu, ← e]
        exact ih (i + 1) (by omega)
      · dsimp only [vpush]
        refine r_ifeq c11_25 (by omega) (by omega) (fun c_25 => ?_) (fun q => by exfalso; omega)
        refine r_iinc c11_31 rfl rfl (r_goto c11_34 ?_)
        try dsimp only [vst]
        have e : vcn S lo (i + 1) = vcn S lo i := by show vcn S lo i + (if S (lo + i) = true then 1 else 0) = _; rw [if_neg (by rw [q]; decide), Nat.add_zero]
        rw [vsu, ← e]
        exact ih (i + 1) (by omega)
  refine vin 5 [_, _, _, _, _] ml_11 rfl rfl ?_
  refine r_ci c11_0 (r_istore c11_1 rfl (r_iload c11_2 rfl (r_istore c11_3 rfl ?_)))
  try dsimp only [vst]
  exact loop (hi + 1 - lo) 0 (by omega)
/-- the k-th (0 the first) from a day on, among so many days -/
def vfw (S : Nat → Bool) : Nat → Nat → Nat → Int
  | 0, _, _ => -5
  | n + 1, d, k => if S d = true then (if k = 0 then (d : Int) else vfw S n (d + 1) (k - 1)) else vfw S n (d + 1) k
/-- the k-th (0 the last) among so many days from lo on -/
def vbw (S : Nat → Bool) (lo : Nat) : Nat → Nat → Int
  | 0, _ => -5
  | n + 1, k => if S (lo + n) = true then (if k = 0 then ((lo + n : Nat) : Int) else vbw S lo n (k - 1)) else vbw S lo n k
def vpk (S : Nat → Bool) (lo hi : Nat) (k : Int) : Int := if 0 ≤ k then vfw S (hi + 1 - lo) lo k.toNat else vbw S lo (hi + 1 - lo) (-k - 1).toNat
theorem k_pick {d a lo hi : Nat} {S : Nat → Bool} {kk : Int} {h : vHp} {Q : vQ} (hD : vDy h a S) (h1 : lo ≤ hi + 1) (h2 : hi < 720) (h3 : -2147483648 ≤ kk) (h4 : kk ≤ 2147483647) (k : Q (some (.int (iI (vpk S lo hi kk)))) h) : vCall (d + 3) 0 0 12 [.ref a, .int (iI (lo : Int)), .int (iI (hi : Int)), .int (iI kk)] h Q := by
  obtain ⟨f, hw, hf⟩ := hD.2
  have hd := hD.1
  unfold vpk at k
  have fw : ∀ n i j : Nat, i + n = hi + 1 → lo ≤ i → (j : Int) ≤ 2147483647 → Q (some (.int (iI (vfw S n i j)))) h → vW (vCall (d + 2)) 12 Q 10 [.ref a, .int (iI (lo : Int)), .int (iI (hi : Int)), .int (iI kk), .int (iI (j : Int)), .int (iI (i : Int))] [] h 0 0 := by
    intro n
    induction n with
    | zero =>
      intro i j hi' hlo hj hk
      refine r_iload c12_10 rfl (r_iload c12_12 rfl ?_)
      refine r_icgt c12_13 (by omega) (by omega) (by omega) (by omega) (fun c_13 => ?_) (fun q => by exfalso; omega)
      refine r_ci c12_50 ?_
      refine r_iret (st := []) c12_52 ?_
      exact hk
    | succ n ih =>
      intro i j hi' hlo hj hk
      refine r_iload c12_10 rfl (r_iload c12_12 rfl ?_)
      refine r_icgt c12_13 (by omega) (by omega) (by omega) (by omega) (fun q => by exfalso; omega) (fun c_13 => ?_)
      refine r_iload c12_16 rfl (r_ci c12_18 ?_)
      refine r_icge c12_21 (by omega) (by omega) (by omega) (by omega) (fun q => by exfalso; omega) (fun c_21 => ?_)
      refine r_aload c12_24 rfl (r_iload c12_25 rfl ?_)
      refine r_iv1 c12_27 vr_1 hd rfl (k_holdsN hD (by omega) (fun q => ?_) (fun q => ?_))
      · dsimp only [vpush]
        refine r_ifeq c12_30 (by omega) (by omega) (fun q => by exfalso; omega) (fun c_30 => ?_)
        refine r_iload c12_33 rfl (r_iinc c12_35 rfl rfl ?_)
        try dsimp only [vst]
        unfold vfw at hk
        rw [if_pos q] at hk
        refine r_ifne c12_38 (by omega) (by omega) (fun c_38 => ?_) (fun c_38 => ?_)
        · refine r_iinc c12_44 rfl rfl (r_goto c12_47 ?_)
          try dsimp only [vst]
          rw [if_neg (by omega)] at hk
          rw [vsu, show (j : Int) + -1 = ((j - 1 : Nat) : Int) by omega]
          exact ih (i + 1) (j - 1) (by omega) (by omega) (by omega) hk
        · refine r_iload c12_41 rfl ?_
          refine r_iret (st := []) c12_43 ?_
          rw [if_pos (by omega)] at hk
          exact hk
      · dsimp only [vpush]
        refine r_ifeq c12_30 (by omega) (by omega) (fun c_30 => ?_) (fun q => by exfalso; omega)
        refine r_iinc c12_44 rfl rfl (r_goto c12_47 ?_)
        try dsimp only [vst]
        unfold vfw at hk
        rw [if_neg (by rw [q]; decide)] at hk
        rw [vsu]
        exact ih (i + 1) j (by omega) (by omega) hj hk
  have bw : ∀ n j : Nat, lo + n ≤ hi + 1 → (j : Int) ≤ 2147483647 → Q (some (.int (iI (vbw S lo n j)))) h → vW (vCall (d + 2)) 12 Q 56 [.ref a, .int (iI (lo : Int)), .int (iI (hi : Int)), .int (iI kk), .int (iI (-(j : Int) - 1)), .int (iI ((lo + n : Nat) - 1))] [] h 0 0 := by
    intro n
    induction n with
    | zero =>
      intro j hi' hj hk
      refine r_iload c12_56 rfl (r_iload c12_58 rfl ?_)
      refine r_iclt c12_59 (by omega) (by omega) (by omega) (by omega) (fun c_59 => ?_) (fun q => by exfalso; omega)
      refine r_ci c12_93 ?_
      refine r_iret (st := []) c12_95 ?_
      exact hk
    | succ n ih =>
      intro j hi' hj hk
      rw [show ((lo + (n + 1) : Nat) : Int) - 1 = ((lo + n : Nat) : Int) by omega]
      refine r_iload c12_56 rfl (r_iload c12_58 rfl ?_)
      refine r_iclt c12_59 (by omega) (by omega) (by omega) (by omega) (fun q => by exfalso; omega) (fun c_59 => ?_)
      refine r_iload c12_62 rfl ?_
      refine r_iflt c12_64 (by omega) (by omega) (fun q => by exfalso; omega) (fun c_64 => ?_)
      refine r_aload c12_67 rfl (r_iload c12_68 rfl ?_)
      refine r_iv1 c12_70 vr_1 hd rfl (k_holdsN hD (by omega) (fun q => ?_) (fun q => ?_))
      · dsimp only [vpush]
        refine r_ifeq c12_73 (by omega) (by omega) (fun q => by exfalso; omega) (fun c_73 => ?_)
        refine r_iinc c12_76 rfl rfl (r_iload c12_79 rfl ?_)
        try dsimp only [vst]
        unfold vbw at hk
        rw [if_pos q] at hk
        refine r_ifne c12_81 (by omega) (by omega) (fun c_81 => ?_) (fun c_81 => ?_)
        · refine r_iinc c12_87 rfl rfl (r_goto c12_90 ?_)
          try dsimp only [vst]
          rw [if_neg (by omega)] at hk
          rw [show ((lo + n : Nat) : Int) + -1 = ((lo + n : Nat) : Int) - 1 by omega, show -(j : Int) - 1 + 1 = -((j - 1 : Nat) : Int) - 1 by omega]
          exact ih (j - 1) (by omega) (by omega) hk
        · refine r_iload c12_84 rfl ?_
          refine r_iret (st := []) c12_86 ?_
          rw [if_pos (by omega)] at hk
          exact hk
      · dsimp only [vpush]
        refine r_ifeq c12_73 (by omega) (by omega) (fun c_73 => ?_) (fun q => by exfalso; omega)
        refine r_iinc c12_87 rfl rfl (r_goto c12_90 ?_)
        try dsimp only [vst]
        unfold vbw at hk
        rw [if_neg (by rw [q]; decide)] at hk
        rw [show ((lo + n : Nat) : Int) + -1 = ((lo + n : Nat) : Int) - 1 by omega]
        exact ih j (by omega) hj hk
  refine vin 6 [_, _, _, _, _, _] ml_12 rfl rfl ?_
  refine r_iload c12_0 rfl (r_istore c12_1 rfl (r_iload c12_3 rfl ?_))
  try dsimp only [vst]
  refine r_iflt c12_4 (by omega) (by omega) (fun c_4 => ?_) (fun c_4 => ?_)
  · refine r_iload c12_53 rfl (r_istore c12_54 rfl ?_)
    try dsimp only [vst]
    rw [if_neg (by omega)] at k
    have := bw (hi + 1 - lo) (-kk - 1).toNat (by omega) (by omega) k
    rw [show -(((-kk - 1).toNat : Nat) : Int) - 1 = kk by omega, show ((lo + (hi + 1 - lo) : Nat) : Int) - 1 = (hi : Int) by omega] at this
    exact this
  · refine r_iload c12_7 rfl (r_istore c12_8 rfl ?_)
    try dsimp only [vst]
    rw [if_pos c_4] at k
    have := fw (hi + 1 - lo) lo kk.toNat (by omega) (by omega) (by omega) k
    rw [show ((kk.toNat : Nat) : Int) = kk by omega] at this
    exact this
theorem k_addSpan {d a lo : Nat} {hi : Int} {S : Nat → Bool} {h : vHp} {Q : vQ} (hD : vDy h a S) (hlo : h.1.1 ≤ a) (h1 : lo ≤ 720) (h2 : -2147483648 ≤ hi) (h3 : hi ≤ 2147483647) (k : ∀ h', vDy h' a (fun n => S n || decide ((lo : Int) ≤ n ∧ (n : Int) ≤ hi)) → vFr (fun q => q = a + 1) h h' → Q none h') : vCall (d + 3) 0 0 13 [.ref a, .int (iI (lo : Int)), .int (iI hi)] h Q := by
  have loop : ∀ n i : Nat, i + n = 720 → lo ≤ i → ∀ h1 : vHp, vDy h1 a (fun n => S n || decide ((lo : Int) ≤ n ∧ (n : Int) ≤ hi ∧ n < i)) → vFr (fun q => q = a + 1) h h1 → vW (vCall (d + 2)) 13 Q 2 [.ref a, .int (iI (lo : Int)), .int (iI hi), .int (iI (i : Int))] [] h1 0 0 := by
    intro n
    induction n with
    | zero =>
      intro i hi' hl h1 hD1 fr
      have fin := k h1 (vDy_cg hD1 (fun m hm => by congr 1; exact decide_eq_decide.mpr (by omega))) fr
      refine r_iload c13_2 rfl (r_iload c13_3 rfl ?_)
      refine r_icgt c13_4 (by omega) (by omega) (by omega) (by omega) (fun c_4 => ?_) (fun c_4 => ?_)
      · refine r_vret (st := []) c13_25 ?_
        exact fin
      · refine r_iload c13_7 rfl (r_ci c13_8 ?_)
        refine r_icge c13_11 (by omega) (by omega) (by omega) (by omega) (fun c_11 => ?_) (fun q => by exfalso; omega)
        refine r_vret (st := []) c13_25 ?_
        exact fin
    | succ n ih =>
      intro i hi' hl h1 hD1 fr
      refine r_iload c13_2 rfl (r_iload c13_3 rfl ?_)
      refine r_icgt c13_4 (by omega) (by omega) (by omega) (by omega) (fun c_4 => ?_) (fun c_4 => ?_)
      · refine r_vret (st := []) c13_25 ?_
        exact k h1 (vDy_cg hD1 (fun m hm => by congr 1; exact decide_eq_decide.mpr (by omega))) fr
      · refine r_iload c13_7 rfl (r_ci c13_8 ?_)
        refine r_icge c13_11 (by omega) (by omega) (by omega) (by omega) (fun q => by exfalso; omega) (fun c_11 => ?_)
        refine r_aload c13_14 rfl (r_iload c13_15 rfl ?_)
        refine r_iv1 c13_16 vr_2 hD1.1 rfl (k_add hD1 (vFr_lo fr hlo) (by omega) (by omega) (fun h2 hD2 fr2 => ?_))
        dsimp only [vpush]
        refine r_iinc c13_19 rfl rfl (r_goto c13_22 ?_)
        try dsimp only [vst]
        rw [vsu]
        refine ih (i + 1) (by omega) (by omega) h2 (vDy_cg hD2 (fun m hm => ?_)) (vFr_tr fr fr2)
        rw [Bool.or_assoc]
        congr 1
        rw [← Bool.decide_or]
        exact decide_eq_decide.mpr (by omega)
  refine vin 4 [_, _, _, _] ml_13 rfl rfl ?_
  refine r_iload c13_0 rfl (r_istore c13_1 rfl ?_)
  try dsimp only [vst]
  exact loop (720 - lo) lo (by omega) (by omega) h (vDy_cg hD (fun m hm => by simp; omega)) vFr_rf

