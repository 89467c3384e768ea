/-! bits of longs; words of days -/
def vbt (x : Int) (j : Nat) : Bool := (lZ x).toBitVec.getLsbD j
theorem lZ_norm (X : Int64) : (lZ X.toInt).toInt = X.toInt := by rw [lZ_of]
theorem vbt_and (x y : Int) (j : Nat) : vbt (vandL x y) j = (vbt x j && vbt y j) := by
  unfold vbt vandL; rw [lZ_of, Int64.toBitVec_and, BitVec.getLsbD_and]
theorem vbt_or (x y : Int) (j : Nat) : vbt (vorL x y) j = (vbt x j || vbt y j) := by
  unfold vbt vorL; rw [lZ_of, Int64.toBitVec_or, BitVec.getLsbD_or]
theorem vbt_xor (x y : Int) (j : Nat) : vbt (vxorL x y) j = (vbt x j ^^ vbt y j) := by
  unfold vbt vxorL; rw [lZ_of, Int64.toBitVec_xor, BitVec.getLsbD_xor]
theorem vbt_ge (x : Int) {j : Nat} (h : 64 ≤ j) : vbt x j = false := BitVec.getLsbD_of_ge _ _ h
theorem vbt_m1 (j : Nat) : vbt (-1) j = decide (j < 64) := by
  have e : (lZ (-1)).toBitVec = BitVec.allOnes 64 := by decide
  unfold vbt; rw [e, BitVec.getLsbD_allOnes]
theorem vbt_0 (j : Nat) : vbt 0 j = false := by
  have e : (lZ 0).toBitVec = 0#64 := by decide
  unfold vbt; rw [e, BitVec.getLsbD_zero]
theorem vbt_1 (j : Nat) : vbt 1 j = decide (j = 0) := by
  have e : (lZ 1).toBitVec = 1#64 := by decide
  unfold vbt; rw [e, BitVec.getLsbD_one]; simp
theorem vbt_all (j : Nat) : vbt 1152921504606846975 j = decide (j < 60) := by
  by_cases h : j < 64
  · have e : ∀ k, k < 64 → vbt 1152921504606846975 k = decide (k < 60) := by decide +kernel
    exact e j h
  · rw [vbt_ge _ (by omega)]; simp; omega
theorem vbt_bit {s : Nat} (hs : s < 64) (j : Nat) : vbt (vshlL 1 (s : Int)) j = decide (j = s) := by
  by_cases h : j < 64
  · have e : ∀ t : Nat, t < 64 → ∀ k : Nat, k < 64 → vbt (vshlL 1 (t : Int)) k = decide (k = t) := by decide +kernel
    exact e s hs j h
  · rw [vbt_ge _ (by omega)]; simp; omega
theorem vbt_shr {s : Nat} (hs : s < 64) (x : Int) (j : Nat) (hm : vbt x 63 = false) : vbt (vshrL x (s : Int)) j = vbt x (s + j) := by
  have e : ∀ t : Nat, t < 64 → ((iI (t : Int)).toInt64 &&& 63).toBitVec.smod 64 = BitVec.ofNat 64 t := by decide +kernel
  unfold vbt vshrL
  rw [lZ_of, Int64.toBitVec_shiftRight]
  rw [e s hs]
  rw [BitVec.sshiftRight_eq', BitVec.getLsbD_sshiftRight, BitVec.msb_eq_getLsbD_last]
  have e2 : (BitVec.ofNat 64 s).toNat = s := by rw [BitVec.toNat_ofNat]; exact Nat.mod_eq_of_lt (by omega)
  rw [e2]
  have hm' : (lZ x).toBitVec.getLsbD 63 = false := hm
  by_cases h : 64 ≤ j
  · rw [BitVec.getLsbD_of_ge _ (s + j) (by omega)]; simp [h]
  · by_cases h2 : s + j < 64
    · simp [h2, h]
    · rw [BitVec.getLsbD_of_ge _ (s + j) (by omega), if_neg h2, show (64 - 1) = 63 from rfl, hm', Bool.and_false]
theorem vbt_shl {s : Nat} (hs : s < 64) (x : Int) (j : Nat) : vbt (vshlL x (s : Int)) j = (decide (j < 64) && decide (s ≤ j) && vbt x (j - s)) := by
  have e : ∀ t : Nat, t < 64 → ((iI (t : Int)).toInt64 &&& 63).toBitVec.smod 64 = BitVec.ofNat 64 t := by decide +kernel
  unfold vbt vshlL
  rw [lZ_of, Int64.toBitVec_shiftLeft]
  rw [e s hs]
  have e2 : (BitVec.ofNat 64 s).toNat = s := by rw [BitVec.toNat_ofNat]; exact Nat.mod_eq_of_lt (by omega)
  rw [BitVec.shiftLeft_eq', BitVec.getLsbD_shiftLeft, e2]
  by_cases h : s ≤ j
  · simp [h, Nat.not_lt.mpr h]
  · simp [h, Nat.not_le.mp h]
theorem vbt_ext {x y : Int} (hx : (lZ x).toInt = x) (hy : (lZ y).toInt = y) (h : ∀ j, j < 64 → vbt x j = vbt y j) : x = y := by
  have e : lZ x = lZ y := Int64.toBitVec_inj.1 (BitVec.eq_of_getLsbD_eq (fun j hj => h j hj))
  rw [← hx, ← hy, e]
theorem vand1 (x : Int) : vandL x 1 = if vbt x 0 = true then 1 else 0 := by
  refine vbt_ext (lZ_norm _) (by split <;> decide) (fun j _ => ?_)
  rw [vbt_and, vbt_1]
  by_cases h : j = 0
  · subst h
    cases hb : vbt x 0
    · simp [vbt_0]
    · simp [vbt_1]
  · cases hb : vbt x 0
    · simp [vbt_0, h]
    · simp [vbt_1, h]
/-- w is the i-th word of a set -/
def vWs (S : Nat → Bool) (i : Nat) (w : Int) : Prop := (lZ w).toInt = w ∧ (∀ j, j < 60 → vbt w j = S (60 * i + j)) ∧ ∀ j, 60 ≤ j → vbt w j = false
theorem vWs_or {S T : Nat → Bool} {i : Nat} {w v : Int} (h : vWs S i w) (g : vWs T i v) : vWs (fun d => S d || T d) i (vorL w v) :=
  ⟨lZ_norm _, fun j hj => by rw [vbt_or, h.2.1 j hj, g.2.1 j hj], fun j hj => by rw [vbt_or, h.2.2 j hj, g.2.2 j hj]; rfl⟩
theorem vWs_and {S T : Nat → Bool} {i : Nat} {w v : Int} (h : vWs S i w) (g : vWs T i v) : vWs (fun d => S d && T d) i (vandL w v) :=
  ⟨lZ_norm _, fun j hj => by rw [vbt_and, h.2.1 j hj, g.2.1 j hj], fun j hj => by rw [vbt_and, h.2.2 j hj, g.2.2 j hj]; rfl⟩
theorem vWs_andn {S T : Nat → Bool} {i : Nat} {w v : Int} (h : vWs S i w) (g : vWs T i v) : vWs (fun d => S d && !T d) i (vandL w (vxorL v (-1))) :=
  ⟨lZ_norm _, fun j hj => by rw [vbt_and, vbt_xor, vbt_m1, h.2.1 j hj, g.2.1 j hj]; simp [show j < 64 by omega], fun j hj => by rw [vbt_and, h.2.2 j hj]; rfl⟩
theorem vWs_inv {S : Nat → Bool} {i : Nat} {w : Int} (h : vWs S i w) : vWs (fun d => !S d) i (vxorL w 1152921504606846975) :=
  ⟨lZ_norm _, fun j hj => by rw [vbt_xor, vbt_all, h.2.1 j hj]; simp [hj], fun j hj => by rw [vbt_xor, vbt_all, h.2.2 j hj]; simp; omega⟩
theorem vWs_0 (i : Nat) : vWs (fun _ => false) i 0 := ⟨by decide, fun j _ => vbt_0 j, fun j _ => vbt_0 j⟩
theorem vWs_set {S : Nat → Bool} {i s : Nat} {w : Int} (h : vWs S i w) (hs : s < 60) : vWs (vup S (60 * i + s) true) i (vorL w (vshlL 1 (s : Int))) := by
  refine ⟨lZ_norm _, fun j hj => ?_, fun j hj => ?_⟩
  · rw [vbt_or, vbt_bit (by omega), h.2.1 j hj]
    unfold vup
    by_cases e : j = s
    · subst e; simp
    · rw [if_neg (by omega)]; simp [e]
  · rw [vbt_or, vbt_bit (by omega), h.2.2 j hj]; simp; omega
theorem vWs_clr {S : Nat → Bool} {i s : Nat} {w : Int} (h : vWs S i w) (hs : s < 60) : vWs (vup S (60 * i + s) false) i (vandL w (vxorL (vshlL 1 (s : Int)) (-1))) := by
  refine ⟨lZ_norm _, fun j hj => ?_, fun j hj => ?_⟩
  · rw [vbt_and, vbt_xor, vbt_m1, vbt_bit (by omega), h.2.1 j hj]
    unfold vup
    by_cases e : j = s
    · subst e; simp; omega
    · rw [if_neg (by omega)]; simp [e, show j < 64 by omega]
  · rw [vbt_and, h.2.2 j hj]; rfl
theorem vWs_up {S : Nat → Bool} {i k : Nat} {b : Bool} {w : Int} (h : vWs S i w) (hk : k / 60 ≠ i) : vWs (vup S k b) i w :=
  ⟨h.1, fun j hj => by rw [h.2.1 j hj]; unfold vup; rw [if_neg (by omega)], h.2.2⟩
theorem vWs_bit {S : Nat → Bool} {i s : Nat} {w : Int} (h : vWs S i w) (hs : s < 60) : vandL (vshrL w (s : Int)) 1 = if S (60 * i + s) = true then 1 else 0 := by
  rw [vand1, vbt_shr (by omega) w 0 (h.2.2 63 (by omega)), Nat.add_zero, h.2.1 s hs]
theorem vWs_cong {S T : Nat → Bool} {i : Nat} {w : Int} (h : vWs S i w) (e : ∀ j, j < 60 → S (60 * i + j) = T (60 * i + j)) : vWs T i w := ⟨h.1, fun j hj => by rw [h.2.1 j hj, e j hj], h.2.2⟩
theorem vWs_uniq {S : Nat → Bool} {i : Nat} {w v : Int} (h : vWs S i w) (g : vWs S i v) : w = v := by
  refine vbt_ext h.1 g.1 (fun j _ => ?_)
  by_cases e : j < 60
  · rw [h.2.1 j e, g.2.1 j e]
  · rw [h.2.2 j (by omega), g.2.2 j (by omega)]
/-- words of no bit above the 60th are small -/
theorem vWs_range {S : Nat → Bool} {i : Nat} {w : Int} (h : vWs S i w) : 0 ≤ w ∧ w < 1152921504606846976 := by
  have hm : (lZ w).toBitVec.msb = false := by rw [BitVec.msb_eq_getLsbD_last]; exact h.2.2 63 (by omega)
  have e : (lZ w).toInt = ((lZ w).toBitVec.toNat : Int) := BitVec.toInt_eq_toNat_of_msb hm
  have hl : (lZ w).toBitVec.toNat < 2 ^ 60 := (BitVec.toNat_lt_iff_getLsbD_eq_false 60 (by omega)).2 (fun k => h.2.2 (60 + k) (by omega))
  have := h.1
  omega

