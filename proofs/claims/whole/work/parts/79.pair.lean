/-! the two objects side by side: b .. b + 242, and from b + 243 on -/
theorem vRD_fr {Z : Nat → Prop} {h h1 : vHp} {b : Nat} {σ : vSg} (hR : vRD h b σ) (f : vFr Z h h1) (nz : ∀ q, q < b + 243 → ¬ Z q) : vRD h1 b σ := by
  obtain ⟨a1, a2, a3, a4, a5, a6, a7, a8, ⟨J, a9⟩, b1, b2, b3⟩ := hR
  exact ⟨(f.2.2 _ (nz _ (by omega))).trans a1, vAw2_fr a2 f (nz _ (by omega)), vAw2_fr a3 f (nz _ (by omega)), vAw2_fr a4 f (nz _ (by omega)), vPls_fr a5 f (fun j hj q e1 e2 => nz q (by unfold vpa at e2; omega)), vPls_fr a6 f (fun j hj q e1 e2 => nz q (by unfold vsa at e2; omega)), vRe_fr a7 f (fun q e1 e2 => nz q (by omega)), vMm_fr a8 f (fun q e1 e2 => nz q (by omega)), ⟨J, vDy_fr a9 f (nz _ (by omega)) (nz _ (by omega))⟩, fun j hj => vRow_fr (b1 j hj) f (nz _ (by unfold vra; omega)) (nz _ (by unfold vra; omega)), vBk_fr b2 f (fun q e => Classical.byContradiction fun w => nz q (by omega) e), by rw [f.1]; exact b3⟩
theorem vRD_frc {h h1 : vHp} {b : Nat} {σ : vSg} (hR : vRD h b σ) (f : vFr (vZd (b + 243)) h h1) : vRD h1 b σ :=
  vRD_fr hR f (fun q e z => by
    obtain ⟨z1, z2⟩ := z
    omega)
theorem vRD_mv {h h1 : vHp} {b : Nat} {σ : vSg} (hR : vRD h b σ) (e1 : h1.1 = h.1) (e2 : ∀ q, q < b + 243 → hg h1 q = hg h q) : vRD h1 b σ :=
  vRD_fr (h1 := (h1.1, h.2.1, h1.2.2)) (Z := fun q => ¬ q < b + 243) hR ⟨e1, rfl, fun q hq => e2 q (Classical.not_not.1 hq)⟩ (fun q e z => z e)
theorem vMD_frb {h h1 : vHp} {b : Nat} {σ : vSg} (hD : vMD h (b + 243) σ) (f : vFr (fun q => b ≤ q ∧ q < b + 243) h h1) : vMD h1 (b + 243) σ := by
  obtain ⟨⟨a, w, tp, G, d1⟩, d2, d3, d4, d5⟩ := hD
  exact ⟨⟨a, w, tp, G, vRp_fr d1 f (by omega) (by omega) (by omega) (by omega) (by omega) (by omega)⟩, vBr_fr d2 f (by omega), vMt_fr d3 f (fun q e1 e2 => by omega), vMs_fr d4 f (fun q e1 e2 => by omega), vMl_fr d5 f (fun q e1 e2 => by omega)⟩
/-- the law's own picture: the script, the class's object, the reference's -/
def vLw (h : vHp) (a b n : Nat) (f : Nat → Int) (σ : vSg) : Prop := hg h a = some (.inl (0, n, .inl f)) ∧ a < b ∧ vRD h b σ ∧ vMD h (b + 243) σ ∧ vOk σ
abbrev vIr (n : Nat) (f : Nat → Int) : Prop := ∀ k, k < n → -2147483648 ≤ f k ∧ f k ≤ 2147483647
theorem r_same {d_ m : Nat} {R : vQ} {pc nx : Nat} {lv st : List Value} {h : vHp} {bc bs a : Nat} {X : Int32} (hc : vlk m pc = some (76, a, 0, 0, nx)) (k : vW (vCall d_) m R a lv st h bc bs) : vW (vCall d_) m R pc lv (.int X :: .int X :: st) h bc bs := by
  rw [← iI_of X]
  exact r_iceq hc (iI_lo X) (iI_hi X) (iI_lo X) (iI_hi X) (fun _ => k) (fun q => absurd rfl q)
theorem vand31 (x : Int) : ∃ k : Nat, k < 32 ∧ vandI x 31 = (k : Int) := by
  have e31 : (iI 31).toBitVec.toNat = 31 := by decide
  have h : (iI x &&& iI 31).toBitVec.toNat = (iI x).toBitVec.toNat % 32 := by
    rw [Int32.toBitVec_and, BitVec.toNat_and, e31]
    exact Nat.and_two_pow_sub_one_eq_mod _ 5
  have h2 : (iI x).toBitVec.toNat % 32 < 32 := Nat.mod_lt _ (by decide)
  refine ⟨(iI x).toBitVec.toNat % 32, h2, ?_⟩
  show (iI x &&& iI 31).toBitVec.toInt = _
  rw [BitVec.toInt_eq_toNat_of_lt (by rw [h]; omega), h]
def vs6 : List (Int × Nat) := [(0, 176), (1, 199), (2, 212), (3, 235), (4, 258), (5, 291), (6, 324), (7, 357), (8, 390), (9, 423), (10, 456), (11, 489), (12, 532), (13, 555), (14, 578), (15, 621), (16, 654), (17, 687), (18, 720), (19, 763), (20, 806), (21, 849), (22, 902), (23, 925), (24, 958), (25, 991), (26, 1034), (27, 1067), (28, 1130), (29, 1183), (30, 1236), (31, 1249)]
theorem vs6_ok : vsw[6]? = some (vs6, 1262) := rfl
def vlp (k : Nat) : Nat := [176, 199, 212, 235, 258, 291, 324, 357, 390, 423, 456, 489, 532, 555, 578, 621, 654, 687, 720, 763, 806, 849, 902, 925, 958, 991, 1034, 1067, 1130, 1183, 1236, 1249].getD k 0
theorem vs6_at : ∀ k : Nat, k < 32 → vfd vs6 1262 (k : Int) = vlp k := by decide +kernel

