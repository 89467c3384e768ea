/-! the state of the whole: names, their image, spans, the tape, lists; and the object that holds it, 243 cells from b on -/
abbrev vNmS : Type := (Nat → Bool) × (Nat → vSt1) × (Nat → vSt1) × (Nat → vSt1)
abbrev vLst : Type := Nat → Option (Nat × (Nat → Int))
abbrev vSg : Type := vNmS × (Bool × vNmS) × (List vSp × Int × Int) × (Nat × (Nat → Int)) × vLst
def vpa (b i : Nat) : Nat := b + 55 + 18 * i
def vsa (b i : Nat) : Nat := b + 64 + 18 * i
def vra (b i : Nat) : Nat := b + 235 + 2 * i
def vPls (h : vHp) (pa : Nat → Nat) (N : vNmS) : Prop := ∀ i, i < 10 → vPl h (pa i) (N.1 i) (N.2.1 i) (N.2.2.1 i) (N.2.2.2 i)
def vRow (h : vHp) (a : Nat) (o : Option (Nat × (Nat → Int))) : Prop := ∃ (sz : Int) (f : Nat → Int), hg h a = some (.inr (4, [.int (iI (vBi o.isSome)), .int (iI sz), .ref (a + 1)])) ∧ hg h (a + 1) = some (.inl (0, 30, .inl f)) ∧ ∀ n p, o = some (n, p) → sz = (n : Int) ∧ ∀ i, i < 30 → f i = p i
def vAw2 (h : vHp) (a k n : Nat) (g : Nat → Nat) : Prop := ∃ p, hg h a = some (.inl (k, n, .inr p)) ∧ ∀ i, i < n → p i = some (g i)
def vRe (h : vHp) (r n : Nat) (t : Nat → Int) : Prop := (∃ pl, vRo h r n pl) ∧ vRz h r t ∧ vRk h r
def vRD (h : vHp) (b : Nat) (σ : vSg) : Prop :=
  hg h b = some (.inr (5, [.ref (b + 1), .ref (b + 2), .int (iI (vBi σ.2.1.1)), .ref (b + 3), .ref (b + 44), .ref (b + 52), .ref (b + 53)])) ∧
  vAw2 h (b + 1) 3 10 (vpa b) ∧ vAw2 h (b + 2) 3 10 (vsa b) ∧ vAw2 h (b + 52) 5 4 (vra b) ∧
  vPls h (vpa b) σ.1 ∧ vPls h (vsa b) σ.2.1.2 ∧
  vRe h (b + 3) σ.2.2.2.1.1 σ.2.2.2.1.2 ∧ vMm h (b + 44) σ.2.2.1.1 σ.2.2.1.2.1 σ.2.2.1.2.2 ∧
  (∃ J, vDy h (b + 53) J) ∧ (∀ i, i < 4 → vRow h (vra b i) (σ.2.2.2.2 i)) ∧ vBk h ∧ h.1.1 ≤ b
/-- what holds of every state that is reached -/
def vOk (σ : vSg) : Prop :=
  vdis σ.2.2.1.1 ∧ (∀ s, s ∈ σ.2.2.1.1 → (0 ≤ s.1 ∧ s.1 ≤ 1000) ∧ (0 ≤ s.2.1 ∧ s.2.1 ≤ 1000) ∧ (0 ≤ s.2.2.1 ∧ s.2.2.1 ≤ 1000) ∧ (0 ≤ s.2.2.2 ∧ s.2.2.2 ≤ 1000)) ∧ σ.2.2.1.1.length ≤ 6 ∧
  vTp σ.2.2.2.1.1 σ.2.2.2.1.2 ∧ (∀ i n p, i < 4 → σ.2.2.2.2 i = some (n, p) → n ≤ 30 ∧ ∀ j, j < 30 → -2147483648 ≤ p j ∧ p j ≤ 2147483647) ∧
  (∀ i, i < 10 → vcn (σ.1.2.2.1 i) 0 720 ≤ 7 ∧ vcn (σ.1.2.2.2 i) 0 720 ≤ 7) ∧ ∀ i, i < 10 → vcn (σ.2.1.2.2.2.1 i) 0 720 ≤ 7 ∧ vcn (σ.2.1.2.2.2.2 i) 0 720 ≤ 7
def vNup (N : vNmS) (i : Nat) (ru : Bool) (R O X : vSt1) : vNmS := (vup N.1 i ru, vup N.2.1 i R, vup N.2.2.1 i O, vup N.2.2.2 i X)
theorem vAw2_fr {Z : Nat → Prop} {h h1 : vHp} {a k n : Nat} {g : Nat → Nat} (hA : vAw2 h a k n g) (f : vFr Z h h1) (nz : ¬ Z a) : vAw2 h1 a k n g := by
  obtain ⟨p, p1, p2⟩ := hA
  exact ⟨p, (f.2.2 _ nz).trans p1, p2⟩
theorem vPls_fr {Z : Nat → Prop} {h h1 : vHp} {pa : Nat → Nat} {N : vNmS} (hP : vPls h pa N) (f : vFr Z h h1) (nz : ∀ i, i < 10 → ∀ q, pa i ≤ q → q < pa i + 9 → ¬ Z q) : vPls h1 pa N := fun i hi => vP0_fr (hP i hi) f (nz i hi)
theorem vRow_fr {Z : Nat → Prop} {h h1 : vHp} {a : Nat} {o : Option (Nat × (Nat → Int))} (hR : vRow h a o) (f : vFr Z h h1) (n1 : ¬ Z a) (n2 : ¬ Z (a + 1)) : vRow h1 a o := by
  obtain ⟨sz, g, g1, g2, g3⟩ := hR
  exact ⟨sz, g, (f.2.2 _ n1).trans g1, (f.2.2 _ n2).trans g2, g3⟩
theorem vRe_fr {Z : Nat → Prop} {h h1 : vHp} {r n : Nat} {t : Nat → Int} (hR : vRe h r n t) (f : vFr Z h h1) (nz : ∀ q, r ≤ q → q < r + 41 → ¬ Z q) : vRe h1 r n t := by
  obtain ⟨⟨pl, a1⟩, a2, a3⟩ := hR
  refine ⟨⟨pl, (f.2.2 _ (nz _ (by omega) (by omega))).trans a1⟩, vRz_fr a2 f (fun q e1 e2 => nz q (by omega) (by omega)), fun j hj => ?_⟩
  obtain ⟨S, hS⟩ := a3 j hj
  exact ⟨S, vDy_fr hS f (nz _ (by omega) (by omega)) (nz _ (by omega) (by omega))⟩
theorem vNup_pl {h h1 : vHp} {pa : Nat → Nat} {N : vNmS} {i : Nat} {ru : Bool} {R O X : vSt1} {Z : Nat → Prop} (hP : vPls h pa N) (hn : vPl h1 (pa i) ru R O X) (f : vFr Z h h1) (nz : ∀ j, j < 10 → j ≠ i → ∀ q, pa j ≤ q → q < pa j + 9 → ¬ Z q) : vPls h1 pa (vNup N i ru R O X) := by
  intro j hj
  unfold vNup
  by_cases e : j = i
  · subst e
    simp only [vup, if_true]
    exact hn
  · simp only [vup, if_neg e]
    exact vP0_fr (hP j hj) f (nz j hj e)
/-- a plan changes -/
theorem vRD_plan {h h1 : vHp} {b i : Nat} {σ : vSg} {ru : Bool} {R O X : vSt1} (hR : vRD h b σ) (hi : i < 10) (hn : vPl h1 (vpa b i) ru R O X) (f : vFr (fun q => vpa b i ≤ q ∧ q < vpa b i + 9) h h1) : vRD h1 b (vNup σ.1 i ru R O X, σ.2) := by
  obtain ⟨a1, a2, a3, a4, a5, a6, a7, a8, ⟨J, a9⟩, b1, b2, b3⟩ := hR
  unfold vpa at f
  refine ⟨(f.2.2 _ (by omega)).trans a1, vAw2_fr a2 f (by omega), vAw2_fr a3 f (by omega), vAw2_fr a4 f (by omega), vNup_pl a5 hn f (fun j hj e q e1 e2 => by unfold vpa at e1 e2; omega), vPls_fr a6 f (fun j hj q e1 e2 => by unfold vsa at e1 e2; omega), vRe_fr a7 f (fun q e1 e2 => by omega), vMm_fr a8 f (fun q e1 e2 => by omega), ⟨J, vDy_fr a9 f (by omega) (by omega)⟩, fun j hj => vRow_fr (b1 j hj) f (by unfold vra; omega) (by unfold vra; omega), vBk_fr b2 f (fun q e => by omega), by rw [f.1]; exact b3⟩
/-- a saved plan changes -/
theorem vRD_saved {h h1 : vHp} {b i : Nat} {σ : vSg} {ru : Bool} {R O X : vSt1} (hR : vRD h b σ) (hi : i < 10) (hn : vPl h1 (vsa b i) ru R O X) (f : vFr (fun q => vsa b i ≤ q ∧ q < vsa b i + 9) h h1) : vRD h1 b (σ.1, (σ.2.1.1, vNup σ.2.1.2 i ru R O X), σ.2.2) := by
  obtain ⟨a1, a2, a3, a4, a5, a6, a7, a8, ⟨J, a9⟩, b1, b2, b3⟩ := hR
  unfold vsa at f
  refine ⟨(f.2.2 _ (by omega)).trans a1, vAw2_fr a2 f (by omega), vAw2_fr a3 f (by omega), vAw2_fr a4 f (by omega), vPls_fr a5 f (fun j hj q e1 e2 => by unfold vpa at e1 e2; omega), vNup_pl a6 hn f (fun j hj e q e1 e2 => by unfold vsa at e1 e2; omega), vRe_fr a7 f (fun q e1 e2 => by omega), vMm_fr a8 f (fun q e1 e2 => by omega), ⟨J, vDy_fr a9 f (by omega) (by omega)⟩, fun j hj => vRow_fr (b1 j hj) f (by unfold vra; omega) (by unfold vra; omega), vBk_fr b2 f (fun q e => by omega), by rw [f.1]; exact b3⟩
/-- the memory changes -/
theorem vRD_mem {h h1 : vHp} {b : Nat} {σ : vSg} {l : List vSp} {hi mi : Int} (hR : vRD h b σ) (hn : vMm h1 (b + 44) l hi mi) (f : vFr (fun q => b + 44 ≤ q ∧ q < b + 44 + 8) h h1) : vRD h1 b (σ.1, σ.2.1, (l, hi, mi), σ.2.2.2) := by
  obtain ⟨a1, a2, a3, a4, a5, a6, a7, a8, ⟨J, a9⟩, b1, b2, b3⟩ := hR
  refine ⟨(f.2.2 _ (by omega)).trans a1, vAw2_fr a2 f (by omega), vAw2_fr a3 f (by omega), vAw2_fr a4 f (by omega), vPls_fr a5 f (fun j hj q e1 e2 => by unfold vpa at e1 e2; omega), vPls_fr a6 f (fun j hj q e1 e2 => by unfold vsa at e1 e2; omega), vRe_fr a7 f (fun q e1 e2 => by omega), hn, ⟨J, vDy_fr a9 f (by omega) (by omega)⟩, fun j hj => vRow_fr (b1 j hj) f (by unfold vra; omega) (by unfold vra; omega), vBk_fr b2 f (fun q e => by omega), by rw [f.1]; exact b3⟩
/-- the reader changes -/
theorem vRD_rea {h h1 : vHp} {b n : Nat} {σ : vSg} {t : Nat → Int} (hR : vRD h b σ) (hn : vRe h1 (b + 3) n t) (f : vFr (fun q => b + 3 ≤ q ∧ q < b + 3 + 41) h h1) : vRD h1 b (σ.1, σ.2.1, σ.2.2.1, (n, t), σ.2.2.2.2) := by
  obtain ⟨a1, a2, a3, a4, a5, a6, a7, a8, ⟨J, a9⟩, b1, b2, b3⟩ := hR
  refine ⟨(f.2.2 _ (by omega)).trans a1, vAw2_fr a2 f (by omega), vAw2_fr a3 f (by omega), vAw2_fr a4 f (by omega), vPls_fr a5 f (fun j hj q e1 e2 => by unfold vpa at e1 e2; omega), vPls_fr a6 f (fun j hj q e1 e2 => by unfold vsa at e1 e2; omega), hn, vMm_fr a8 f (fun q e1 e2 => by omega), ⟨J, vDy_fr a9 f (by omega) (by omega)⟩, fun j hj => vRow_fr (b1 j hj) f (by unfold vra; omega) (by unfold vra; omega), vBk_fr b2 f (fun q e => by omega), by rw [f.1]; exact b3⟩
/-- the joined days change -/
theorem vRD_joi {h h1 : vHp} {b : Nat} {σ : vSg} {J : vSt1} (hR : vRD h b σ) (hn : vDy h1 (b + 53) J) (f : vFr (fun q => q = b + 53 + 1) h h1) : vRD h1 b σ := by
  obtain ⟨a1, a2, a3, a4, a5, a6, a7, a8, -, b1, b2, b3⟩ := hR
  refine ⟨(f.2.2 _ (by omega)).trans a1, vAw2_fr a2 f (by omega), vAw2_fr a3 f (by omega), vAw2_fr a4 f (by omega), vPls_fr a5 f (fun j hj q e1 e2 => by unfold vpa at e1 e2; omega), vPls_fr a6 f (fun j hj q e1 e2 => by unfold vsa at e1 e2; omega), vRe_fr a7 f (fun q e1 e2 => by omega), vMm_fr a8 f (fun q e1 e2 => by omega), ⟨J, hn⟩, fun j hj => vRow_fr (b1 j hj) f (by unfold vra; omega) (by unfold vra; omega), vBk_fr b2 f (fun q e => by omega), by rw [f.1]; exact b3⟩
/-- a list changes -/
theorem vRD_row {h h1 : vHp} {b i : Nat} {σ : vSg} {o : Option (Nat × (Nat → Int))} (hR : vRD h b σ) (hi : i < 4) (hn : vRow h1 (vra b i) o) (f : vFr (fun q => vra b i ≤ q ∧ q < vra b i + 2) h h1) : vRD h1 b (σ.1, σ.2.1, σ.2.2.1, σ.2.2.2.1, vup σ.2.2.2.2 i o) := by
  obtain ⟨a1, a2, a3, a4, a5, a6, a7, a8, ⟨J, a9⟩, b1, b2, b3⟩ := hR
  unfold vra at f
  refine ⟨(f.2.2 _ (by omega)).trans a1, vAw2_fr a2 f (by omega), vAw2_fr a3 f (by omega), vAw2_fr a4 f (by omega), vPls_fr a5 f (fun j hj q e1 e2 => by unfold vpa at e1 e2; omega), vPls_fr a6 f (fun j hj q e1 e2 => by unfold vsa at e1 e2; omega), vRe_fr a7 f (fun q e1 e2 => by omega), vMm_fr a8 f (fun q e1 e2 => by omega), ⟨J, vDy_fr a9 f (by omega) (by omega)⟩, fun j hj => ?_, vBk_fr b2 f (fun q e => by omega), by rw [f.1]; exact b3⟩
  by_cases e : j = i
  · subst e
    simp only [vup, if_true]
    exact hn
  · simp only [vup, if_neg e]
    exact vRow_fr (b1 j hj) f (by unfold vra; omega) (by unfold vra; omega)
/-- the mark of the image changes -/
theorem vRD_ima {h h1 : vHp} {b : Nat} {σ : vSg} {i : Bool} (hR : vRD h b σ) (hn : hg h1 b = some (.inr (5, [.ref (b + 1), .ref (b + 2), .int (iI (vBi i)), .ref (b + 3), .ref (b + 44), .ref (b + 52), .ref (b + 53)]))) (f : vFr (fun q => q = b) h h1) : vRD h1 b (σ.1, (i, σ.2.1.2), σ.2.2) := by
  obtain ⟨a1, a2, a3, a4, a5, a6, a7, a8, ⟨J, a9⟩, b1, b2, b3⟩ := hR
  refine ⟨hn, vAw2_fr a2 f (by omega), vAw2_fr a3 f (by omega), vAw2_fr a4 f (by omega), vPls_fr a5 f (fun j hj q e1 e2 => by unfold vpa at e1; omega), vPls_fr a6 f (fun j hj q e1 e2 => by unfold vsa at e1; omega), vRe_fr a7 f (fun q e1 e2 => by omega), vMm_fr a8 f (fun q e1 e2 => by omega), ⟨J, vDy_fr a9 f (by omega) (by omega)⟩, fun j hj => vRow_fr (b1 j hj) f (by unfold vra; omega) (by unfold vra; omega), vBk_fr b2 f (fun q e => by omega), by rw [f.1]; exact b3⟩

