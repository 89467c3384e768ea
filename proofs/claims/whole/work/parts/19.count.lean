/-! how many bits: the JDK's counting, byte by byte -/
def vcn (S : Nat → Bool) (lo : Nat) : Nat → Nat
  | 0 => 0
  | n + 1 => vcn S lo n + (if S (lo + n) = true then 1 else 0)
theorem vcn_add (S : Nat → Bool) (lo a : Nat) : ∀ b, vcn S lo (a + b) = vcn S lo a + vcn S (lo + a) b
  | 0 => rfl
  | b + 1 => by
    show vcn S lo (a + b) + (if S (lo + (a + b)) = true then 1 else 0) = vcn S lo a + (vcn S (lo + a) b + (if S (lo + a + b) = true then 1 else 0))
    rw [vcn_add S lo a b, Nat.add_assoc lo a b]
    omega
theorem vcn_cg {S T : Nat → Bool} {lo lo' : Nat} : ∀ {n : Nat}, (∀ j, j < n → S (lo + j) = T (lo' + j)) → vcn S lo n = vcn T lo' n
  | 0, _ => rfl
  | n + 1, h => by
    show vcn S lo n + _ = vcn T lo' n + _
    rw [vcn_cg (fun j hj => h j (by omega)), h n (by omega)]
theorem vcn_le (S : Nat → Bool) (lo : Nat) : ∀ n, vcn S lo n ≤ n
  | 0 => Nat.le_refl _
  | n + 1 => by
    have := vcn_le S lo n
    show vcn S lo n + _ ≤ n + 1
    split <;> omega
theorem lZ_nat (n : Nat) : lZ (n : Int) = Int64.ofNat n := Int64.ofInt_eq_ofNat
theorem vandL_nat {a b : Nat} (ha : a < 2 ^ 63) : vandL (a : Int) (b : Int) = ((a &&& b : Nat) : Int) := by
  have e : Int64.ofNat a &&& Int64.ofNat b = Int64.ofNat (a &&& b) := by
    apply Int64.toBitVec_inj.1
    show BitVec.ofNat 64 a &&& BitVec.ofNat 64 b = BitVec.ofNat 64 (a &&& b)
    apply BitVec.eq_of_getLsbD_eq
    intro i hi
    simp [hi]
  have h : a &&& b ≤ a := Nat.and_le_left
  unfold vandL
  rw [lZ_nat, lZ_nat, e, ← lZ_nat, lZ_toInt (by omega) (by omega)]
theorem vushrL_nat {a s : Nat} (ha : a < 2 ^ 62) (hs : s < 64) : vushrL (a : Int) (s : Int) = ((a / 2 ^ s : Nat) : Int) := by
  have hD : ∀ t : Nat, t < 64 → ((iI (t : Int)).toInt64.toUInt64 &&& Int64.toUInt64 63).toNat % 64 = t := by decide +kernel
  have hd : a / 2 ^ s ≤ a := Nat.div_le_self _ _
  unfold vushrL
  rw [lZ_nat]
  have e : (Int64.ofNat a).toUInt64 >>> ((iI (s : Int)).toInt64.toUInt64 &&& Int64.toUInt64 63) = UInt64.ofNat (a / 2 ^ s) := UInt64.toNat_inj.mp (by
    rw [UInt64.toNat_shiftRight, hD s hs, Nat.shiftRight_eq_div_pow, UInt64.toNat_ofNat']
    show (UInt64.ofNat a).toNat / 2 ^ s = _
    rw [UInt64.toNat_ofNat', Nat.mod_eq_of_lt (by omega), Nat.mod_eq_of_lt (by omega)])
  rw [e]
  show (Int64.ofNat (a / 2 ^ s)).toInt = _
  generalize a / 2 ^ s = q at hd ⊢
  rw [← lZ_nat, lZ_toInt (by omega) (by omega)]
def vmsk (m : Nat) : Nat → Nat
  | 0 => 0
  | k + 1 => 256 * vmsk m k + m
theorem vand256 {q b M m : Nat} (hb : b < 256) (hm : m < 256) : (256 * q + b) &&& (256 * M + m) = 256 * (q &&& M) + (b &&& m) := by
  apply Nat.eq_of_testBit_eq
  intro j
  have hbm : b &&& m < 2 ^ 8 := Nat.lt_of_le_of_lt Nat.and_le_left hb
  rw [Nat.testBit_and, show 256 = 2 ^ 8 by rfl, Nat.testBit_two_pow_mul_add q (show b < 2 ^ 8 from hb) j, Nat.testBit_two_pow_mul_add M (show m < 2 ^ 8 from hm) j, Nat.testBit_two_pow_mul_add (q &&& M) hbm j]
  by_cases h : j < 8
  · simp only [if_pos h, Nat.testBit_and]
  · simp only [if_neg h, Nat.testBit_and]
def vT1w (k n : Nat) : Nat := n - ((n / 2) &&& vmsk 85 k)
def vT2w (k n : Nat) : Nat := (n &&& vmsk 51 k) + ((n / 4) &&& vmsk 51 k)
def vT3w (k n : Nat) : Nat := (n + n / 16) &&& vmsk 15 k
def vb1 (b : Nat) : Nat := b - ((b / 2) &&& 85)
def vb2 (b : Nat) : Nat := (vb1 b &&& 51) + ((vb1 b / 4) &&& 51)
def vb3 (b : Nat) : Nat := (vb2 b + vb2 b / 16) &&& 15
theorem vbyte1 : ∀ b : Nat, b < 256 → ∀ e : Nat, e < 2 → (128 * e + b / 2) &&& 85 = (b / 2) &&& 85 := by decide +kernel
theorem vbyte2 : ∀ b : Nat, b < 256 → ∀ e : Nat, e < 4 → (64 * e + b / 4) &&& 51 = (b / 4) &&& 51 := by decide +kernel
theorem vbyte3 : ∀ b : Nat, b < 256 → vb1 b < 256 ∧ vb2 b ≤ 68 ∧ vb2 b % 16 ≤ 4 ∧ vb3 b = vcn (fun j => b.testBit j) 0 8 := by decide +kernel
theorem vT1_st (k q b : Nat) (hb : b < 256) : vT1w (k + 1) (256 * q + b) = 256 * vT1w k q + vb1 b := by
  unfold vT1w vb1
  rw [show vmsk 85 (k + 1) = 256 * vmsk 85 k + 85 by rfl]
  have e1 : (256 * q + b) / 2 = 256 * (q / 2) + (128 * (q % 2) + b / 2) := by omega
  rw [e1, vand256 (by omega) (by omega), vbyte1 b hb _ (by omega)]
  have h1 : q / 2 &&& vmsk 85 k ≤ q / 2 := Nat.and_le_left
  have h2 : b / 2 &&& 85 ≤ b / 2 := Nat.and_le_left
  omega
theorem vT2_st (k q b : Nat) (hb : b < 256) : vT2w (k + 1) (256 * q + b) = 256 * vT2w k q + ((b &&& 51) + ((b / 4) &&& 51)) := by
  unfold vT2w
  rw [show vmsk 51 (k + 1) = 256 * vmsk 51 k + 51 by rfl]
  have e1 : (256 * q + b) / 4 = 256 * (q / 4) + (64 * (q % 4) + b / 4) := by omega
  have e2 : 256 * (q / 4) + (64 * (q % 4) + b / 4) &&& 256 * vmsk 51 k + 51 = 256 * ((q / 4) &&& vmsk 51 k) + ((64 * (q % 4) + b / 4) &&& 51) := vand256 (by omega) (by omega)
  have e3 : 256 * q + b &&& 256 * vmsk 51 k + 51 = 256 * (q &&& vmsk 51 k) + (b &&& 51) := vand256 hb (by omega)
  rw [e1, e2, e3, vbyte2 b hb _ (by omega)]
  omega
theorem vT3_st (k q b : Nat) (hb : b ≤ 68) (hq : q % 16 ≤ 4) : vT3w (k + 1) (256 * q + b) = 256 * vT3w k q + ((b + b / 16) &&& 15) := by
  unfold vT3w
  rw [show vmsk 15 (k + 1) = 256 * vmsk 15 k + 15 by rfl]
  have e1 : 256 * q + b + (256 * q + b) / 16 = 256 * (q + q / 16) + (16 * (q % 16) + b + b / 16) := by omega
  rw [e1, vand256 (by omega) (by omega)]
  have e2 : ∀ x : Nat, x &&& 15 = x % 16 := fun x => Nat.and_two_pow_sub_one_eq_mod x 4
  rw [e2, e2]
  omega
def vVw (k n : Nat) : Nat := vT3w k (vT2w k (vT1w k n))
theorem vT2_lo (k n : Nat) (hn : n < 256 ^ k) : vT2w k (vT1w k n) % 16 ≤ 4 := by
  cases k with
  | zero => simp [vT2w, vmsk]
  | succ k =>
    have e : n = 256 * (n / 256) + n % 256 := by omega
    rw [e, vT1_st _ _ _ (by omega), vT2_st _ _ _ (vbyte3 _ (by omega)).1]
    have := (vbyte3 (n % 256) (by omega)).2.2.1
    unfold vb2 at this
    omega
theorem vVw_st (k n : Nat) (hn : n < 256 ^ (k + 1)) : vVw (k + 1) n = 256 * vVw k (n / 256) + vb3 (n % 256) := by
  have hq : n / 256 < 256 ^ k := Nat.div_lt_of_lt_mul (by rw [Nat.pow_succ] at hn; omega)
  unfold vVw
  have e : n = 256 * (n / 256) + n % 256 := by omega
  have g := vbyte3 (n % 256) (by omega)
  have h1 : vT1w (k + 1) n = 256 * vT1w k (n / 256) + vb1 (n % 256) := by
    rw [← vT1_st _ _ _ (by omega), ← e]
  rw [h1, vT2_st _ _ _ g.1]
  have h2 : (vb1 (n % 256) &&& 51) + (vb1 (n % 256) / 4 &&& 51) = vb2 (n % 256) := rfl
  rw [h2, vT3_st _ _ _ g.2.1 (vT2_lo k _ hq)]
  rfl
/-- the sum of the bytes' counts -/
theorem vpop_st (n k : Nat) : vcn (fun j => n.testBit j) 0 (8 * (k + 1)) = vcn (fun j => (n / 256).testBit j) 0 (8 * k) + vb3 (n % 256) := by
  rw [show 8 * (k + 1) = 8 + 8 * k by omega, vcn_add, (vbyte3 (n % 256) (by omega)).2.2.2]
  have e1 : vcn (fun j => n.testBit j) 0 8 = vcn (fun j => (n % 256).testBit j) 0 8 := vcn_cg (fun j hj => by
    rw [show n % 256 = n % 2 ^ 8 by rfl, Nat.testBit_mod_two_pow]; simp [hj])
  have e2 : vcn (fun j => n.testBit j) (0 + 8) (8 * k) = vcn (fun j => (n / 256).testBit j) 0 (8 * k) := vcn_cg (fun j hj => by
    rw [show n / 256 = n / 2 ^ 8 by rfl, Nat.testBit_div_two_pow]
    congr 1; omega)
  rw [e1, e2, Nat.add_comm]
theorem vpop8 {n : Nat} (hn : n < 256 ^ 8) : ∃ p0 p1 p2 p3 p4 p5 p6 p7 : Nat, p0 ≤ 8 ∧ p1 ≤ 8 ∧ p2 ≤ 8 ∧ p3 ≤ 8 ∧ p4 ≤ 8 ∧ p5 ≤ 8 ∧ p6 ≤ 8 ∧ p7 ≤ 8 ∧ vVw 8 n = p0 + 256 * (p1 + 256 * (p2 + 256 * (p3 + 256 * (p4 + 256 * (p5 + 256 * (p6 + 256 * p7)))))) ∧ vcn (fun j => n.testBit j) 0 64 = p0 + p1 + p2 + p3 + p4 + p5 + p6 + p7 := by
  have hp : ∀ m : Nat, vb3 (m % 256) ≤ 8 := fun m => by
    rw [(vbyte3 (m % 256) (by omega)).2.2.2]; exact vcn_le _ _ 8
  have q1 : n / 256 < 256 ^ 7 := by omega
  have q2 : n / 256 / 256 < 256 ^ 6 := by omega
  have q3 : n / 256 / 256 / 256 < 256 ^ 5 := by omega
  have q4 : n / 256 / 256 / 256 / 256 < 256 ^ 4 := by omega
  have q5 : n / 256 / 256 / 256 / 256 / 256 < 256 ^ 3 := by omega
  have q6 : n / 256 / 256 / 256 / 256 / 256 / 256 < 256 ^ 2 := by omega
  have q7 : n / 256 / 256 / 256 / 256 / 256 / 256 / 256 < 256 ^ 1 := by omega
  refine ⟨_, _, _, _, _, _, _, _, hp n, hp (n / 256), hp (n / 256 / 256), hp (n / 256 / 256 / 256), hp (n / 256 / 256 / 256 / 256), hp (n / 256 / 256 / 256 / 256 / 256), hp (n / 256 / 256 / 256 / 256 / 256 / 256), hp (n / 256 / 256 / 256 / 256 / 256 / 256 / 256), ?_, ?_⟩
  · rw [vVw_st 7 _ hn, vVw_st 6 _ q1, vVw_st 5 _ q2, vVw_st 4 _ q3, vVw_st 3 _ q4, vVw_st 2 _ q5, vVw_st 1 _ q6, vVw_st 0 _ q7]
    have e : ∀ m, vVw 0 m = 0 := fun m => by simp [vVw, vT3w, vmsk]
    rw [e]
    omega
  · rw [show 64 = 8 * (7 + 1) by rfl, vpop_st, vpop_st _ 6, vpop_st _ 5, vpop_st _ 4, vpop_st _ 3, vpop_st _ 2, vpop_st _ 1, vpop_st _ 0]
    show 0 + _ + _ + _ + _ + _ + _ + _ + _ = _
    omega

