/-! the last step of the count -/
theorem vlin1 (p0 p1 p2 p3 p4 p5 p6 p7 : Nat) : p0 + 256 * (p1 + 256 * (p2 + 256 * (p3 + 256 * (p4 + 256 * (p5 + 256 * (p6 + 256 * p7)))))) + (p1 + 256 * (p2 + 256 * (p3 + 256 * (p4 + 256 * (p5 + 256 * (p6 + 256 * p7)))))) = ((p0 + p1) + 256 * (p1 + p2)) + 65536 * ((p2 + p3) + 256 * ((p3 + p4) + 256 * ((p4 + p5) + 256 * ((p5 + p6) + 256 * ((p6 + p7) + 256 * p7))))) := by omega
theorem vlin2 (p0 p1 p2 p3 p4 p5 p6 p7 : Nat) : ((p0 + p1) + 256 * (p1 + p2)) + 65536 * ((p2 + p3) + 256 * ((p3 + p4) + 256 * ((p4 + p5) + 256 * ((p5 + p6) + 256 * ((p6 + p7) + 256 * p7))))) + ((p2 + p3) + 256 * ((p3 + p4) + 256 * ((p4 + p5) + 256 * ((p5 + p6) + 256 * ((p6 + p7) + 256 * p7))))) = ((p0 + p1 + p2 + p3) + 256 * ((p1 + p2 + p3 + p4) + 256 * ((p2 + p3 + p4 + p5) + 256 * (p3 + p4 + p5 + p6)))) + 4294967296 * ((p4 + p5 + p6 + p7) + 256 * ((p5 + p6 + p7) + 256 * ((p6 + p7) + 256 * p7))) := by omega
theorem vlin3 {a b : Nat} (ha : a ≤ 16) (hb : b < 2 ^ 53) : a + 256 * b < 2 ^ 62 := by omega
theorem vdvm {a b m : Nat} (h : a < m) : (a + m * b) / m = b := by
  rw [Nat.add_mul_div_left _ _ (by omega), Nat.div_eq_of_lt h, Nat.zero_add]
theorem vnest {c a b k : Nat} (ha : a ≤ c) (hb : b ≤ c * k) : a + 256 * b ≤ c * (1 + 256 * k) := by
  have : c * (1 + 256 * k) = c + 256 * (c * k) := by rw [Nat.mul_add, Nat.mul_one, Nat.mul_left_comm]
  omega
theorem vpop_fin {x p0 p1 p2 p3 p4 p5 p6 p7 : Nat} (h0 : p0 ≤ 8) (h1 : p1 ≤ 8) (h2 : p2 ≤ 8) (h3 : p3 ≤ 8) (h4 : p4 ≤ 8) (h5 : p5 ≤ 8) (h6 : p6 ≤ 8) (h7 : p7 ≤ 8) (hx : x = p0 + 256 * (p1 + 256 * (p2 + 256 * (p3 + 256 * (p4 + 256 * (p5 + 256 * (p6 + 256 * p7))))))) :
    x + x / 256 < 2 ^ 62 ∧ (x + x / 256) + (x + x / 256) / 65536 < 2 ^ 62 ∧ (((x + x / 256) + (x + x / 256) / 65536) + ((x + x / 256) + (x + x / 256) / 65536) / 4294967296) % 128 = p0 + p1 + p2 + p3 + p4 + p5 + p6 + p7 := by
  have hxb : x ≤ 8 * (1 + 256 * (1 + 256 * (1 + 256 * (1 + 256 * (1 + 256 * (1 + 256 * (1 + 256 * 1))))))) := by
    rw [hx]
    exact vnest h0 (vnest h1 (vnest h2 (vnest h3 (vnest h4 (vnest h5 (vnest h6 (by omega)))))))
  have hxb2 : x < 2 ^ 60 := Nat.lt_of_le_of_lt hxb (Nat.lt_of_lt_of_le (Nat.lt_succ_self _) (Nat.le_of_ble_eq_true rfl))
  have hyb : x + x / 256 < 2 ^ 61 := by clear hx hxb; omega
  have hzb : (x + x / 256) + (x + x / 256) / 65536 < 2 ^ 62 := by clear hx hxb; omega
  have e1 : x / 256 = p1 + 256 * (p2 + 256 * (p3 + 256 * (p4 + 256 * (p5 + 256 * (p6 + 256 * p7))))) := by rw [hx]; exact vdvm (by omega)
  have hy : x + x / 256 = ((p0 + p1) + 256 * (p1 + p2)) + 65536 * ((p2 + p3) + 256 * ((p3 + p4) + 256 * ((p4 + p5) + 256 * ((p5 + p6) + 256 * ((p6 + p7) + 256 * p7))))) := by rw [e1, hx]; exact vlin1 ..
  have e2 : (x + x / 256) / 65536 = (p2 + p3) + 256 * ((p3 + p4) + 256 * ((p4 + p5) + 256 * ((p5 + p6) + 256 * ((p6 + p7) + 256 * p7)))) := by rw [hy]; exact vdvm (by clear hx hxb e1 hy hxb2 hyb hzb; omega)
  have hz : (x + x / 256) + (x + x / 256) / 65536 = ((p0 + p1 + p2 + p3) + 256 * ((p1 + p2 + p3 + p4) + 256 * ((p2 + p3 + p4 + p5) + 256 * (p3 + p4 + p5 + p6)))) + 4294967296 * ((p4 + p5 + p6 + p7) + 256 * ((p5 + p6 + p7) + 256 * ((p6 + p7) + 256 * p7))) := by rw [e2, hy]; exact vlin2 ..
  have e3 : ((x + x / 256) + (x + x / 256) / 65536) / 4294967296 = (p4 + p5 + p6 + p7) + 256 * ((p5 + p6 + p7) + 256 * ((p6 + p7) + 256 * p7)) := by rw [hz]; exact vdvm (by clear hx hxb e1 hy e2 hz hxb2 hyb hzb; omega)
  refine ⟨Nat.lt_trans hyb (Nat.lt_of_lt_of_le (Nat.lt_succ_self _) (Nat.le_of_ble_eq_true rfl)), hzb, ?_⟩
  rw [e3, hz]
  generalize hr : (p1 + p2 + p3 + p4) + 256 * ((p2 + p3 + p4 + p5) + 256 * (p3 + p4 + p5 + p6)) = r1
  generalize hs : (p5 + p6 + p7) + 256 * ((p6 + p7) + 256 * p7) = r2
  clear hr hs e1 e2 e3 hy hz hx hxb hxb2 hyb hzb
  omega

