theorem ml_170 : vml 170 = 2 := by decide +kernel
theorem c170_0 : vlk 170 0 = some (5, 0, 0, 0, 1) := by decide +kernel
theorem c170_1 : vlk 170 1 = some (5, 0, 0, 0, 2) := by decide +kernel
theorem c170_2 : vlk 170 2 = some (1, 0, 0, 1, 3) := by decide +kernel
theorem c170_3 : vlk 170 3 = some (30, 0, 0, 0, 4) := by decide +kernel
theorem c170_4 : vlk 170 4 = some (2, 0, 0, 6148914691236517205, 7) := by decide +kernel
theorem c170_7 : vlk 170 7 = some (25, 0, 0, 0, 8) := by decide +kernel
theorem c170_8 : vlk 170 8 = some (23, 0, 0, 0, 9) := by decide +kernel
theorem c170_9 : vlk 170 9 = some (8, 0, 0, 0, 10) := by decide +kernel
theorem c170_10 : vlk 170 10 = some (5, 0, 0, 0, 11) := by decide +kernel
theorem c170_11 : vlk 170 11 = some (2, 0, 0, 3689348814741910323, 14) := by decide +kernel
theorem c170_14 : vlk 170 14 = some (25, 0, 0, 0, 15) := by decide +kernel
theorem c170_15 : vlk 170 15 = some (5, 0, 0, 0, 16) := by decide +kernel
theorem c170_16 : vlk 170 16 = some (1, 0, 0, 2, 17) := by decide +kernel
theorem c170_17 : vlk 170 17 = some (30, 0, 0, 0, 18) := by decide +kernel
theorem c170_18 : vlk 170 18 = some (2, 0, 0, 3689348814741910323, 21) := by decide +kernel
theorem c170_21 : vlk 170 21 = some (25, 0, 0, 0, 22) := by decide +kernel
theorem c170_22 : vlk 170 22 = some (22, 0, 0, 0, 23) := by decide +kernel
theorem c170_23 : vlk 170 23 = some (8, 0, 0, 0, 24) := by decide +kernel
theorem c170_24 : vlk 170 24 = some (5, 0, 0, 0, 25) := by decide +kernel
theorem c170_25 : vlk 170 25 = some (5, 0, 0, 0, 26) := by decide +kernel
theorem c170_26 : vlk 170 26 = some (1, 0, 0, 4, 27) := by decide +kernel
theorem c170_27 : vlk 170 27 = some (30, 0, 0, 0, 28) := by decide +kernel
theorem c170_28 : vlk 170 28 = some (22, 0, 0, 0, 29) := by decide +kernel
theorem c170_29 : vlk 170 29 = some (2, 0, 0, 1085102592571150095, 32) := by decide +kernel
theorem c170_32 : vlk 170 32 = some (25, 0, 0, 0, 33) := by decide +kernel
theorem c170_33 : vlk 170 33 = some (8, 0, 0, 0, 34) := by decide +kernel
theorem c170_34 : vlk 170 34 = some (5, 0, 0, 0, 35) := by decide +kernel
theorem c170_35 : vlk 170 35 = some (5, 0, 0, 0, 36) := by decide +kernel
theorem c170_36 : vlk 170 36 = some (1, 0, 0, 8, 38) := by decide +kernel
theorem c170_38 : vlk 170 38 = some (30, 0, 0, 0, 39) := by decide +kernel
theorem c170_39 : vlk 170 39 = some (22, 0, 0, 0, 40) := by decide +kernel
theorem c170_40 : vlk 170 40 = some (8, 0, 0, 0, 41) := by decide +kernel
theorem c170_41 : vlk 170 41 = some (5, 0, 0, 0, 42) := by decide +kernel
theorem c170_42 : vlk 170 42 = some (5, 0, 0, 0, 43) := by decide +kernel
theorem c170_43 : vlk 170 43 = some (1, 0, 0, 16, 45) := by decide +kernel
theorem c170_45 : vlk 170 45 = some (30, 0, 0, 0, 46) := by decide +kernel
theorem c170_46 : vlk 170 46 = some (22, 0, 0, 0, 47) := by decide +kernel
theorem c170_47 : vlk 170 47 = some (8, 0, 0, 0, 48) := by decide +kernel
theorem c170_48 : vlk 170 48 = some (5, 0, 0, 0, 49) := by decide +kernel
theorem c170_49 : vlk 170 49 = some (5, 0, 0, 0, 50) := by decide +kernel
theorem c170_50 : vlk 170 50 = some (1, 0, 0, 32, 52) := by decide +kernel
theorem c170_52 : vlk 170 52 = some (30, 0, 0, 0, 53) := by decide +kernel
theorem c170_53 : vlk 170 53 = some (22, 0, 0, 0, 54) := by decide +kernel
theorem c170_54 : vlk 170 54 = some (8, 0, 0, 0, 55) := by decide +kernel
theorem c170_55 : vlk 170 55 = some (5, 0, 0, 0, 56) := by decide +kernel
theorem c170_56 : vlk 170 56 = some (33, 0, 0, 0, 57) := by decide +kernel
theorem c170_57 : vlk 170 57 = some (1, 0, 0, 127, 59) := by decide +kernel
theorem c170_59 : vlk 170 59 = some (17, 0, 0, 0, 60) := by decide +kernel
theorem c170_60 : vlk 170 60 = some (63, 0, 0, 0, 61) := by decide +kernel
theorem vandI127 {n : Nat} : vandI (n : Int) 127 = ((n % 128 : Nat) : Int) := by
  unfold vandI
  have e := pk_and (iI (n : Int)) (m := iI 127) 7 (by decide)
  rw [e]
  have e2 : (iI (n : Int)).toBitVec.toNat = n % 2 ^ 32 := by
    show (BitVec.ofInt 32 (n : Int)).toNat = _
    rw [BitVec.ofInt_natCast, BitVec.toNat_ofNat]
  rw [e2, show 2 ^ 7 = 128 by rfl]
  have e3 : nI (n % 2 ^ 32 % 128) = iI ((n % 128 : Nat) : Int) := by
    rw [show n % 2 ^ 32 % 128 = n % 128 by omega]
    exact Int32.ofInt_eq_ofNat.symm
  rw [e3, iI_toInt (by omega) (by omega)]
theorem vpop_all {n x : Nat} (hn : n < 256 ^ 8) (hx : vVw 8 n = x) : x < 2 ^ 61 ∧ x + x / 256 < 2 ^ 62 ∧ (x + x / 256) + (x + x / 256) / 65536 < 2 ^ 62 ∧ (((x + x / 256) + (x + x / 256) / 65536) + ((x + x / 256) + (x + x / 256) / 65536) / 4294967296) % 128 = vcn (fun j => n.testBit j) 0 64 := by
  obtain ⟨p0, p1, p2, p3, p4, p5, p6, p7, h0, h1, h2, h3, h4, h5, h6, h7, hV, hP⟩ := vpop8 hn
  rw [hx] at hV
  obtain ⟨f1, f2, f3⟩ := vpop_fin h0 h1 h2 h3 h4 h5 h6 h7 hV
  rw [hP]
  have hxb : x ≤ 8 * (1 + 256 * (1 + 256 * (1 + 256 * (1 + 256 * (1 + 256 * (1 + 256 * (1 + 256 * 1))))))) := by
    rw [hV]
    exact vnest h0 (vnest h1 (vnest h2 (vnest h3 (vnest h4 (vnest h5 (vnest h6 (Nat.le_trans h7 (Nat.le_of_ble_eq_true rfl))))))))
  exact ⟨Nat.lt_of_le_of_lt hxb (Nat.lt_of_lt_of_le (Nat.lt_succ_self _) (Nat.le_of_ble_eq_true rfl)), f1, f2, f3⟩
theorem k_bitCountL {d n : Nat} {h : vHp} {Q : vQ} (hn : n < 2 ^ 60) (k : Q (some (.int (iI (vcn (fun j => n.testBit j) 0 64 : Nat)))) h) : vCall (d + 1) 0 0 170 [.long (lZ (n : Int))] h Q := by
  refine vin 2 [_, _] ml_170 rfl rfl ?_
  refine r_lload c170_0 rfl (r_lload c170_1 rfl (r_ci c170_2 (r_lushr c170_3 (r_cl c170_4 (r_land c170_7 ?_)))))
  have m1 : vmsk 85 8 = 6148914691236517205 := by decide +kernel
  have m2 : vmsk 51 8 = 3689348814741910323 := by decide +kernel
  have m3 : vmsk 15 8 = 1085102592571150095 := by decide +kernel
  have hn2 : n < 256 ^ 8 := by omega
  obtain ⟨f0, f1, f2, f3⟩ := vpop_all hn2 rfl
  have a1 : vandL (vushrL (n : Int) 1) 6148914691236517205 = ((n / 2 &&& vmsk 85 8 : Nat) : Int) := by
    have e := vushrL_nat (a := n) (s := 1) (by omega) (by omega)
    rw [show ((1 : Nat) : Int) = 1 by rfl, show 2 ^ 1 = 2 by rfl] at e
    rw [e, m1]
    exact vandL_nat (by omega)
  have l1 : n / 2 &&& vmsk 85 8 ≤ n / 2 := Nat.and_le_left
  rw [a1]
  have b1 : ((n : Int) - ((n / 2 &&& vmsk 85 8 : Nat) : Int)) = ((vT1w 8 n : Nat) : Int) := by unfold vT1w; omega
  have r1 : vT1w 8 n < 2 ^ 60 := by unfold vT1w; omega
  refine r_lsub c170_8 (r_lstore c170_9 rfl rfl (r_lload c170_10 rfl (r_cl c170_11 (r_land c170_14 (r_lload c170_15 rfl (r_ci c170_16 (r_lushr c170_17 (r_cl c170_18 (r_land c170_21 ?_)))))))))
  try dsimp only [vst]
  rw [b1]
  generalize hx1 : vT1w 8 n = x1 at r1
  have a2 : vandL (x1 : Int) 3689348814741910323 = ((x1 &&& vmsk 51 8 : Nat) : Int) := by rw [m2]; exact vandL_nat (by omega)
  have a3 : vandL (vushrL (x1 : Int) 2) 3689348814741910323 = ((x1 / 4 &&& vmsk 51 8 : Nat) : Int) := by
    have e := vushrL_nat (a := x1) (s := 2) (by omega) (by omega)
    rw [show ((2 : Nat) : Int) = 2 by rfl, show 2 ^ 2 = 4 by rfl] at e
    rw [e, m2]
    exact vandL_nat (by omega)
  rw [a2, a3]
  have l2 : x1 &&& vmsk 51 8 ≤ x1 := Nat.and_le_left
  have l3 : x1 / 4 &&& vmsk 51 8 ≤ x1 / 4 := Nat.and_le_left
  have b2 : (((x1 &&& vmsk 51 8 : Nat) : Int) + ((x1 / 4 &&& vmsk 51 8 : Nat) : Int)) = ((vT2w 8 x1 : Nat) : Int) := by unfold vT2w; omega
  have r2 : vT2w 8 x1 < 2 ^ 61 := by unfold vT2w; omega
  refine r_ladd c170_22 (r_lstore c170_23 rfl rfl (r_lload c170_24 rfl (r_lload c170_25 rfl (r_ci c170_26 (r_lushr c170_27 (r_ladd c170_28 (r_cl c170_29 ?_)))))))
  try dsimp only [vst]
  rw [b2]
  generalize hx2 : vT2w 8 x1 = x2 at r2
  have a4 : vandL ((x2 : Int) + vushrL (x2 : Int) 4) 1085102592571150095 = ((vT3w 8 x2 : Nat) : Int) := by
    have e := vushrL_nat (a := x2) (s := 4) (by omega) (by omega)
    rw [show ((4 : Nat) : Int) = 4 by rfl, show 2 ^ 4 = 16 by rfl] at e
    rw [e, show (x2 : Int) + ((x2 / 16 : Nat) : Int) = ((x2 + x2 / 16 : Nat) : Int) by omega]
    unfold vT3w
    rw [m3]
    exact vandL_nat (by omega)
  refine r_land c170_32 (r_lstore c170_33 rfl rfl (r_lload c170_34 rfl (r_lload c170_35 rfl (r_ci c170_36 (r_lushr c170_38 (r_ladd c170_39 (r_lstore c170_40 rfl rfl (r_lload c170_41 rfl (r_lload c170_42 rfl (r_ci c170_43 (r_lushr c170_45 (r_ladd c170_46 (r_lstore c170_47 rfl rfl (r_lload c170_48 rfl (r_lload c170_49 rfl (r_ci c170_50 (r_lushr c170_52 (r_ladd c170_53 (r_lstore c170_54 rfl rfl (r_lload c170_55 rfl (r_l2i c170_56 (r_ci c170_57 ?_))))))))))))))))))))))
  try dsimp only [vst]
  rw [a4]
  have hx3 : vT3w 8 x2 = vVw 8 n := by rw [← hx2, ← hx1]; rfl
  rw [hx3]
  generalize vVw 8 n = x3 at f0 f1 f2 f3 ⊢
  have s8 := vushrL_nat (a := x3) (s := 8) (by omega) (by omega)
  have s16 := vushrL_nat (a := x3 + x3 / 256) (s := 16) (by omega) (by omega)
  have s32 := vushrL_nat (a := (x3 + x3 / 256) + (x3 + x3 / 256) / 65536) (s := 32) (by omega) (by omega)
  rw [show ((8 : Nat) : Int) = 8 by rfl, show 2 ^ 8 = 256 by rfl] at s8
  rw [show ((16 : Nat) : Int) = 16 by rfl, show 2 ^ 16 = 65536 by rfl] at s16
  rw [show ((32 : Nat) : Int) = 32 by rfl, show 2 ^ 32 = 4294967296 by rfl] at s32
  rw [s8, show (x3 : Int) + ((x3 / 256 : Nat) : Int) = ((x3 + x3 / 256 : Nat) : Int) by omega, s16, show ((x3 + x3 / 256 : Nat) : Int) + (((x3 + x3 / 256) / 65536 : Nat) : Int) = (((x3 + x3 / 256) + (x3 + x3 / 256) / 65536 : Nat) : Int) by omega, s32, show (((x3 + x3 / 256) + (x3 + x3 / 256) / 65536 : Nat) : Int) + ((((x3 + x3 / 256) + (x3 + x3 / 256) / 65536) / 4294967296 : Nat) : Int) = ((((x3 + x3 / 256) + (x3 + x3 / 256) / 65536) + ((x3 + x3 / 256) + (x3 + x3 / 256) / 65536) / 4294967296 : Nat) : Int) by omega]
  refine r_iand c170_59 ?_
  rw [vandI127, f3]
  refine r_iret (st := []) c170_60 ?_
  exact k

