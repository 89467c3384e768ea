/-! Reader: places of the reading; pairs, brackets and what has one -/
def vok (n p : Nat) (r : vPr) : Prop := p ≤ r.1 ∧ r.1 ≤ n ∧ (r.2 ≠ none → p < r.1)
theorem vth_ok {n p : Nat} {r : vPr} {g : Nat → vSt1 → vPr} (h : vok n p r) (k : ∀ S, r.2 = some S → r.1 ≤ (g r.1 S).1 ∧ (g r.1 S).1 ≤ n) : vok n p (vth r g) := by
  obtain ⟨q, s⟩ := r
  cases s with
  | none => exact h
  | some S =>
    have k1 := k S rfl
    have h1 := h.2.2 (fun e => nomatch e)
    have h2 := h.1
    exact ⟨Nat.le_trans h2 k1.1, k1.2, fun _ => Nat.lt_of_lt_of_le h1 k1.1⟩
theorem vok_up {n p q : Nat} {r : vPr} (h : vok n q r) (hq : p ≤ q) : vok n p r := ⟨Nat.le_trans hq h.1, h.2.1, fun e => Nat.lt_of_le_of_lt hq (h.2.2 e)⟩
theorem vbr_ok {n : Nat} {t : Nat → Int} {f : Nat → vPr} (hf : ∀ p, p ≤ n → vok n p (f p)) {p : Nat} (hp : p ≤ n) : vok n p (vbr n t f p) := by
  unfold vbr
  split
  · rename_i q
    have := vch_lt (n := n) (t := t) (p := p) (by omega)
    have h1 := hf (p + 1) (by omega)
    refine vth_ok (vok_up h1 (by omega)) (fun S hS => ?_)
    split
    · rename_i q2
      have := vch_lt (n := n) (t := t) (p := (f (p + 1)).1) (by omega)
      exact ⟨by dsimp only; omega, by dsimp only; omega⟩
    · exact ⟨Nat.le_refl _, h1.2.1⟩
  · exact ⟨Nat.le_refl p, hp, fun e => absurd rfl e⟩
theorem vpu_ok {n : Nat} {t : Nat → Int} {c : Int} {p : Nat} (hp : p ≤ n) : vok n p (vpu n t c p) := by
  have rg := vnm_rg (n := n) (t := t) (lo := (if c = 119 ∨ c = 121 then 0 else 1)) (hi := vmo c) (p := p) hp
  unfold vpu
  generalize (if c = 119 ∨ c = 121 then (0 : Int) else 1) = lo at rg ⊢
  split
  · exact ⟨rg.2.1, rg.2.2, fun e => absurd rfl e⟩
  · exact ⟨rg.2.1, rg.2.2, fun _ => by dsimp only; omega⟩
theorem vpp_ok {n : Nat} {t : Nat → Int} {c : Int} {p : Nat} (hp : p ≤ n) : vok n p (vpp n t c p) := by
  have rg := vnm_rg (n := n) (t := t) (lo := (if c = 101 then 1 else 0)) (hi := 719) (p := p) hp
  unfold vpp
  generalize (if c = 101 then (1 : Int) else 0) = lo at rg ⊢
  split
  · exact ⟨rg.2.1, rg.2.2, fun e => absurd rfl e⟩
  · split
    · rename_i q
      have := vch_lt (n := n) (t := t) (p := (vnm n t lo 719 p).1) (by omega)
      have rg2 := vnm_rg (n := n) (t := t) (lo := (if c = 101 then 0 else (vnm n t lo 719 p).2)) (hi := 719) (p := (vnm n t lo 719 p).1 + 1) this
      unfold vpp2
      generalize (if c = 101 then (0 : Int) else (vnm n t lo 719 p).2) = lo2 at rg2 ⊢
      split
      · exact ⟨by dsimp only; omega, rg2.2.2, fun e => absurd rfl e⟩
      · exact ⟨by dsimp only; omega, rg2.2.2, fun _ => by dsimp only; omega⟩
    · exact ⟨rg.2.1, rg.2.2, fun e => absurd rfl e⟩
theorem vpb_ok {n : Nat} {t : Nat → Int} {f : Nat → vPr} (hf : ∀ p, p ≤ n → vok n p (f p)) {c : Int} {p : Nat} (hp : p ≤ n) : vok n p (vpb n t f c p) := by
  have rg := vnm_rg (n := n) (t := t) (lo := 1) (hi := 99) (p := p) hp
  unfold vpb
  split
  · exact ⟨rg.2.1, rg.2.2, fun e => absurd rfl e⟩
  · split
    · exact ⟨rg.2.1, rg.2.2, fun e => absurd rfl e⟩
    · rename_i q
      have hc : 0 ≤ vch n t (vnm n t 1 99 p).1 := by
        unfold vbo at q
        split at q
        · omega
        · split at q
          · omega
          · split at q
            · omega
            · omega
      have hl := vch_lt hc
      have h1 := vbr_ok (t := t) hf (p := (vnm n t 1 99 p).1 + 1) hl
      exact vth_ok (vok_up h1 (by omega)) (fun S _ => ⟨Nat.le_refl _, h1.2.1⟩)
theorem vpc_ok {n : Nat} {t : Nat → Int} {f : Nat → vPr} (hf : ∀ p, p ≤ n → vok n p (f p)) {c : Int} {p : Nat} (hp : p ≤ n) : vok n p (vpc n t f c p) := by
  have rg := vnm_rg (n := n) (t := t) (lo := (if c = 120 then 0 else 1)) (hi := vmo c) (p := p) hp
  unfold vpc
  generalize (if c = 120 then (0 : Int) else 1) = lo at rg ⊢
  split
  · exact ⟨rg.2.1, rg.2.2, fun e => absurd rfl e⟩
  · have h1 := vbr_ok (t := t) hf (p := (vnm n t lo (vmo c) p).1) rg.2.2
    exact vth_ok (vok_up h1 rg.2.1) (fun S _ => ⟨Nat.le_refl _, h1.2.1⟩)
theorem vpn_ok {n : Nat} {t : Nat → Int} {D : Nat → vSt1} {f : Option (Nat → vPr)} (hf : ∀ g, f = some g → ∀ p, p ≤ n → vok n p (g p)) {p : Nat} (hp : p ≤ n) : vok n p (vpn n t D f p) := by
  have no : vok n p (p, none) := ⟨Nat.le_refl p, hp, fun e => absurd rfl e⟩
  have lt : 0 ≤ vch n t p → p + 1 ≤ n := fun q => vch_lt q
  cases f with
  | none =>
    show vok n p (if _ then _ else _)
    split
    · exact no
    · split
      · have := lt (by omega)
        exact ⟨by dsimp only; omega, this, fun _ => by dsimp only; omega⟩
      · split
        · exact vok_up (vpu_ok (lt (by omega))) (by omega)
        · split
          · exact vok_up (vpp_ok (lt (by omega))) (by omega)
          · exact no
  | some g =>
    have hg := hf g rfl
    show vok n p (if _ then _ else _)
    split
    · exact vbr_ok hg hp
    · split
      · have := lt (by omega)
        exact ⟨by dsimp only; omega, this, fun _ => by dsimp only; omega⟩
      · split
        · exact vok_up (vpu_ok (lt (by omega))) (by omega)
        · split
          · exact vok_up (vpp_ok (lt (by omega))) (by omega)
          · split
            · exact vok_up (vpb_ok hg (lt (by omega))) (by omega)
            · split
              · exact vok_up (vpc_ok hg (lt (by omega))) (by omega)
              · exact no
theorem vpf_ok {n : Nat} {t : Nat → Int} {D : Nat → vSt1} {f : Option (Nat → vPr)} (hf : ∀ g, f = some g → ∀ p, p ≤ n → vok n p (g p)) {p : Nat} (hp : p ≤ n) : vok n p (vpf n t D f p) := by
  unfold vpf
  split
  · have := vch_lt (n := n) (t := t) (p := p) (by omega)
    have h1 := vpn_ok (D := D) hf (t := t) (p := p + 1) this
    exact vth_ok (vok_up h1 (by omega)) (fun S _ => ⟨Nat.le_refl _, h1.2.1⟩)
  · exact vpn_ok hf hp
theorem vpd_ok {n : Nat} {t : Nat → Int} {F : Nat → vPr} (hF : ∀ p, p ≤ n → vok n p (F p)) : ∀ (u : Nat) (A : vSt1) (p : Nat), p ≤ n → vok n p (vpd n t F u A p)
  | 0, _, p, hp => ⟨Nat.le_refl p, hp, fun e => absurd rfl e⟩
  | u + 1, A, p, hp => by
    have h1 := hF p hp
    refine vth_ok h1 (fun S hS => ?_)
    split
    · have := vch_lt (n := n) (t := t) (p := (F p).1) (by omega)
      have h2 := vpd_ok (t := t) hF u (fun d => A d && S d) ((F p).1 + 1) this
      exact ⟨by have := h2.1; omega, h2.2.1⟩
    · exact ⟨Nat.le_refl _, h1.2.1⟩
theorem vpz_ok {n : Nat} {t : Nat → Int} {F : Nat → vPr} (hF : ∀ p, p ≤ n → vok n p (F p)) : ∀ (u : Nat) (w : Bool) (A : vSt1) (p : Nat), p ≤ n → vok n p (vpz n t F u w A p)
  | 0, _, _, p, hp => ⟨Nat.le_refl p, hp, fun e => absurd rfl e⟩
  | u + 1, w, A, p, hp => by
    have h1 := hF p hp
    refine vth_ok h1 (fun S hS => ?_)
    split
    · have := vch_lt (n := n) (t := t) (p := (F p).1) (by omega)
      have h2 := vpz_ok (t := t) hF u true (fun d => if w = true then A d && !S d else A d || S d) ((F p).1 + 1) this
      exact ⟨by have := h2.1; omega, h2.2.1⟩
    · split
      · have := vch_lt (n := n) (t := t) (p := (F p).1) (by omega)
        have h2 := vpz_ok (t := t) hF u false (fun d => if w = true then A d && !S d else A d || S d) ((F p).1 + 1) this
        exact ⟨by have := h2.1; omega, h2.2.1⟩
      · exact ⟨Nat.le_refl _, h1.2.1⟩
theorem vex_ok {n : Nat} {t : Nat → Int} {D : Nat → vSt1} : ∀ (e p : Nat), p ≤ n → vok n p (vex n t D e p)
  | 0, p, hp => vpz_ok (fun p hp => vpd_ok (fun p hp => vpf_ok (fun g hg => by cases hg) hp) _ _ p hp) _ _ _ p hp
  | e + 1, p, hp => vpz_ok (fun p hp => vpd_ok (fun p hp => vpf_ok (fun g hg => by
      have : vex n t D e = g := by simpa using hg
      subst this
      exact vex_ok e) hp) _ _ p hp) _ _ _ p hp

