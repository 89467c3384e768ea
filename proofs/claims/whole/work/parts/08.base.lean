/-! numbers -/
theorem iI_toInt {x : Int} (h1 : -2147483648 ≤ x) (h2 : x ≤ 2147483647) : (iI x).toInt = x := Int32.toInt_ofInt_of_le (by omega) (by omega)
theorem lZ_toInt {x : Int} (h1 : -9223372036854775808 ≤ x) (h2 : x ≤ 9223372036854775807) : (lZ x).toInt = x := Int64.toInt_ofInt_of_le (by omega) (by omega)
theorem iI_of (X : Int32) : iI X.toInt = X := Int32.ofInt_toInt X
theorem lZ_of (X : Int64) : lZ X.toInt = X := Int64.ofInt_toInt X
theorem iI_lo (X : Int32) : -2147483648 ≤ X.toInt := by have := X.le_toInt; omega
theorem iI_hi (X : Int32) : X.toInt ≤ 2147483647 := by have := X.toInt_lt; omega
theorem iI_add (x y : Int) : iI x + iI y = iI (x + y) := (Int32.ofInt_add x y).symm
theorem iI_sub (x y : Int) : iI x - iI y = iI (x - y) := (Int32.ofInt_sub x y).symm
theorem iI_mul (x y : Int) : iI x * iI y = iI (x * y) := (Int32.ofInt_mul x y).symm
theorem iI_neg (x : Int) : -(iI x) = iI (-x) := (Int32.ofInt_neg x).symm
theorem lZ_add (x y : Int) : lZ x + lZ y = lZ (x + y) := (Int64.ofInt_add x y).symm
theorem lZ_sub (x y : Int) : lZ x - lZ y = lZ (x - y) := (Int64.ofInt_sub x y).symm
theorem lZ_mul (x y : Int) : lZ x * lZ y = lZ (x * y) := (Int64.ofInt_mul x y).symm
theorem iI_div {x y : Int} (h1 : 0 ≤ x) (h2 : x ≤ 2147483647) (h3 : 0 < y) (h4 : y ≤ 2147483647) : iI x / iI y = iI (x / y) := by
  have e0 : iI y ≠ -1 := fun h => by
    have := congrArg Int32.toInt h
    rw [iI_toInt (by omega) h4] at this
    have e1 : (-1 : Int32).toInt = -1 := by decide
    omega
  have h5 : x / y ≤ x := Int.ediv_le_self y h1
  have h6 : 0 ≤ x / y := Int.ediv_nonneg h1 (by omega)
  refine Int32.toInt_inj.1 ?_
  rw [Int32.toInt_div_of_ne_right _ _ e0, iI_toInt (by omega) h2, iI_toInt (by omega) h4, iI_toInt (by omega) (by omega), Int.tdiv_eq_ediv_of_nonneg h1]
theorem iI_rem {x y : Int} (h1 : 0 ≤ x) (h2 : x ≤ 2147483647) (h3 : 0 < y) (h4 : y ≤ 2147483647) : iI x - iI x / iI y * iI y = iI (x % y) := by
  rw [iI_div h1 h2 h3 h4, iI_mul, iI_sub, Int.emod_def, Int.mul_comm]
theorem iI_eq0 {x : Int} (h1 : -2147483648 ≤ x) (h2 : x ≤ 2147483647) : iI x = 0 ↔ x = 0 := by
  rw [← Int32.toInt_inj, iI_toInt h1 h2]; rfl
theorem iI_eq {x y : Int} (h1 : -2147483648 ≤ x) (h2 : x ≤ 2147483647) (h3 : -2147483648 ≤ y) (h4 : y ≤ 2147483647) : iI x = iI y ↔ x = y := by
  rw [← Int32.toInt_inj, iI_toInt h1 h2, iI_toInt h3 h4]
theorem iI_lt {x y : Int} (h1 : -2147483648 ≤ x) (h2 : x ≤ 2147483647) (h3 : -2147483648 ≤ y) (h4 : y ≤ 2147483647) : iI x < iI y ↔ x < y := by
  rw [Int32.lt_iff_toInt_lt, iI_toInt h1 h2, iI_toInt h3 h4]
theorem iI_le {x y : Int} (h1 : -2147483648 ≤ x) (h2 : x ≤ 2147483647) (h3 : -2147483648 ≤ y) (h4 : y ≤ 2147483647) : iI x ≤ iI y ↔ x ≤ y := by
  rw [Int32.le_iff_toInt_le, iI_toInt h1 h2, iI_toInt h3 h4]
theorem iI_0 : iI 0 = 0 := rfl
theorem iI_lt0 {x : Int} (h1 : -2147483648 ≤ x) (h2 : x ≤ 2147483647) : iI x < 0 ↔ x < 0 := by
  rw [← iI_0, iI_lt h1 h2 (by omega) (by omega)]
theorem iI_ge0 {x : Int} (h1 : -2147483648 ≤ x) (h2 : x ≤ 2147483647) : iI x ≥ 0 ↔ 0 ≤ x := by
  rw [← iI_0]; exact iI_le (by omega) (by omega) h1 h2
theorem iI_gt0 {x : Int} (h1 : -2147483648 ≤ x) (h2 : x ≤ 2147483647) : iI x > 0 ↔ 0 < x := by
  rw [← iI_0]; exact iI_lt (by omega) (by omega) h1 h2
theorem iI_le0 {x : Int} (h1 : -2147483648 ≤ x) (h2 : x ≤ 2147483647) : iI x ≤ 0 ↔ x ≤ 0 := by
  rw [← iI_0, iI_le h1 h2 (by omega) (by omega)]
theorem iI_nat {x : Int} (h1 : -2147483648 ≤ x) (h2 : x ≤ 2147483647) : (iI x).toNatClampNeg = x.toNat := Int32.toNatClampNeg_ofInt_of_le (by omega) (by omega)
theorem iI_in {x : Int} {n : Nat} (h0 : 0 ≤ x) (h : x < n) (hn : n < 2147483648) : vp_in (iI x) n := by
  intro q
  rcases q with q | q
  · rw [iI_lt0 (by omega) (by omega)] at q; omega
  · rw [iI_nat (by omega) (by omega)] at q; omega
theorem iI_l {x : Int} (h1 : -2147483648 ≤ x) (h2 : x ≤ 2147483647) : (iI x).toInt64 = lZ x := by
  refine Int64.toInt_inj.1 ?_
  rw [Int32.toInt_toInt64, iI_toInt h1 h2, lZ_toInt (by omega) (by omega)]
theorem lZ_i (x : Int) : (lZ x).toInt32 = iI x := Int64.toInt32_ofInt
theorem lZ_cmp {x y : Int} (h1 : -9223372036854775808 ≤ x) (h2 : x ≤ 9223372036854775807) (h3 : -9223372036854775808 ≤ y) (h4 : y ≤ 9223372036854775807) : lg_cmp (lZ x) (lZ y) = iI (vcmp x y) := by
  have e1 : (lZ x > lZ y) ↔ y < x := by
    show lZ y < lZ x ↔ _
    rw [Int64.lt_iff_toInt_lt, lZ_toInt h1 h2, lZ_toInt h3 h4]
  have e2 : (lZ x = lZ y) ↔ x = y := by rw [← Int64.toInt_inj, lZ_toInt h1 h2, lZ_toInt h3 h4]
  unfold lg_cmp vcmp
  by_cases a : y < x
  · rw [if_pos (e1.mpr a), if_neg (by omega), if_neg (by omega)]; rfl
  · rw [if_neg (fun z => a (e1.mp z))]
    by_cases b : x = y
    · rw [if_pos (e2.mpr b), if_neg (by omega), if_pos b]; rfl
    · rw [if_neg (fun z => b (e2.mp z)), if_pos (by omega)]; rfl
/-! locals -/
def vas (lv : List Value) : List (Nat × Value) := (List.range lv.length).filterMap fun i => (vgt lv i).bind fun v => if v = vHole then none else some (i, v)
def vLv (ls : Array Slot) (lv : List Value) : Prop := lv_has ls lv.length (vas lv)
theorem vgt_lt : ∀ {lv : List Value} {i : Nat} {v : Value}, vgt lv i = some v → i < lv.length
  | [], _, _, h => by simp [vgt] at h
  | _ :: _, 0, _, _ => by simp
  | _ :: l, i + 1, v, h => by have := vgt_lt (lv := l) (i := i) (v := v) h; simp; omega
theorem vas_mem {lv : List Value} {i : Nat} {v : Value} : (i, v) ∈ vas lv ↔ vgt lv i = some v ∧ v ≠ vHole := by
  unfold vas
  rw [List.mem_filterMap]
  constructor
  · rintro ⟨j, hj, h⟩
    cases hg : vgt lv j with
    | none => rw [hg] at h; simp at h
    | some w =>
      rw [hg] at h
      simp only [Option.bind_some] at h
      by_cases hw : w = vHole
      · rw [if_pos hw] at h; cases h
      · rw [if_neg hw] at h
        cases h
        exact ⟨hg, hw⟩
  · rintro ⟨h, hv⟩
    exact ⟨i, List.mem_range.mpr (vgt_lt h), by rw [h]; simp [hv]⟩
theorem vLv_get {ls : Array Slot} {lv : List Value} {i : Nat} {v : Value} (h : vLv ls lv) (hg : vgt lv i = some v) (hv : v ≠ vHole) : ls[i]? = some (.val v) := h.2.2 (i, v) (vas_mem.mpr ⟨hg, hv⟩)
theorem vst_len : ∀ (lv : List Value) (i : Nat) (v : Value), (vst lv i v).length = lv.length
  | [], _, _ => rfl
  | _ :: _, 0, _ => rfl
  | _ :: l, i + 1, v => by simp [vst, vst_len l i v]
theorem vst_self : ∀ {lv : List Value} {i : Nat} {v : Value}, i < lv.length → vgt (vst lv i v) i = some v
  | [], _, _, h => by simp at h
  | _ :: _, 0, _, _ => rfl
  | _ :: l, i + 1, v, h => by simp [vst, vgt]; exact vst_self (by simpa using h)
theorem vst_ne : ∀ {lv : List Value} {i j : Nat} {v : Value}, j ≠ i → vgt (vst lv i v) j = vgt lv j
  | [], _, _, _, _ => rfl
  | _ :: _, 0, 0, _, h => absurd rfl h
  | _ :: _, 0, j + 1, _, _ => rfl
  | _ :: _, i + 1, 0, _, _ => rfl
  | _ :: l, i + 1, j + 1, v, h => by simp [vst, vgt]; exact vst_ne (by omega)
theorem vpo_lt : ∀ {lv : List Value} {i : Nat}, vpo lv i = true → i < lv.length
  | [], _, h => by simp [vpo] at h
  | _ :: _, 0, _ => by simp
  | [_], i + 1, h => by cases i <;> simp [vpo] at h
  | _ :: _ :: _, 1, _ => by simp
  | _ :: w :: l, i + 2, h => by
    have := vpo_lt (lv := w :: l) (i := i + 1) (by simpa [vpo] using h)
    simp at this ⊢; omega
theorem vpo_cat : ∀ {lv : List Value} {i : Nat} {w : Value}, vpo lv (i + 1) = true → vgt lv i = some w → w.category ≠ 2
  | [], _, _, h, _ => by simp [vpo] at h
  | [_], i, _, h, _ => by cases i <;> simp [vpo] at h
  | v :: _ :: _, 0, w, h, hg => by
    simp [vgt] at hg; subst hg
    simpa [vpo] using h
  | _ :: u :: l, i + 1, w, h, hg => by
    refine vpo_cat (lv := u :: l) (i := i) (w := w) (by simpa [vpo] using h) (by simpa [vgt] using hg)
theorem vLv_st1 {ls ls' : Array Slot} {lv : List Value} {i : Nat} {v : Value} (h : vLv ls lv) (hp : vpo lv i = true) (hc : v.category = 1) (h' : lv_has ls' lv.length ((i, v) :: (vas lv).filter (fun q => !(q.1 == i) && !(q.1 + 1 == i && q.2.category == 2)))) : vLv ls' (vst lv i v) := by
  refine ⟨by rw [vst_len]; exact h'.1, h'.2.1, fun q hq => ?_⟩
  obtain ⟨j, w⟩ := q
  obtain ⟨hg, hw⟩ := vas_mem.mp hq
  refine h'.2.2 (j, w) ?_
  by_cases e : j = i
  · subst e
    rw [vst_self (vpo_lt hp)] at hg
    cases hg
    exact List.mem_cons_self
  · rw [vst_ne e] at hg
    refine List.mem_cons_of_mem _ (List.mem_filter.mpr ⟨vas_mem.mpr ⟨hg, hw⟩, ?_⟩)
    simp only [Bool.and_eq_true, Bool.not_eq_true', beq_eq_false_iff_ne, ne_eq, Bool.and_eq_false_iff]
    refine ⟨e, ?_⟩
    by_cases e2 : j + 1 = i
    · subst e2
      exact Or.inr (by simpa using vpo_cat hp hg)
    · exact Or.inl (by simpa using e2)
theorem vLv_st2 {ls ls' : Array Slot} {lv : List Value} {i : Nat} {v : Value} (h : vLv ls lv) (hp : vpo lv i = true) (h2 : (vgt lv (i + 1)).isSome = true) (h' : lv_has ls' lv.length ((i, v) :: (vas lv).filter (fun q => !(q.1 == i) && (!(q.1 == i + 1) && !(q.1 + 1 == i && q.2.category == 2))))) : vLv ls' (vst (vst lv i v) (i + 1) vHole) := by
  have hl2 : i + 1 < lv.length := by
    obtain ⟨u, hu⟩ := Option.isSome_iff_exists.mp h2
    exact vgt_lt hu
  refine ⟨by rw [vst_len, vst_len]; exact h'.1, h'.2.1, fun q hq => ?_⟩
  obtain ⟨j, w⟩ := q
  obtain ⟨hg, hw⟩ := vas_mem.mp hq
  refine h'.2.2 (j, w) ?_
  by_cases e1 : j = i + 1
  · subst e1
    rw [vst_self (by rw [vst_len]; exact hl2)] at hg
    exact absurd (Option.some.inj hg).symm hw
  · rw [vst_ne e1] at hg
    by_cases e : j = i
    · subst e
      rw [vst_self (vpo_lt hp)] at hg
      cases hg
      exact List.mem_cons_self
    · rw [vst_ne e] at hg
      refine List.mem_cons_of_mem _ (List.mem_filter.mpr ⟨vas_mem.mpr ⟨hg, hw⟩, ?_⟩)
      simp only [Bool.and_eq_true, Bool.not_eq_true', beq_eq_false_iff_ne, ne_eq, Bool.and_eq_false_iff]
      refine ⟨e, e1, ?_⟩
      by_cases e2 : j + 1 = i
      · subst e2
        exact Or.inr (by simpa using vpo_cat hp hg)
      · exact Or.inl (by simpa using e2)
theorem vexp_mem : ∀ {vs : List Value} {i j : Nat} {w : Value}, vgt (vexp vs) j = some w → w ≠ vHole → (i + j, w) ∈ lv_args i vs
  | [], _, _, _, h, _ => by simp [vexp, vgt] at h
  | v :: l, i, j, w, h, hw => by
    have one : ∀ {v : Value}, v.category = 1 → vgt (v :: vexp l) j = some w → (i + j, w) ∈ lv_args i (v :: l) := by
      intro v hc h
      unfold lv_args
      rw [if_neg (by omega)]
      cases j with
      | zero => simp [vgt] at h; subst h; exact List.mem_cons_self
      | succ j =>
        refine List.mem_cons_of_mem _ ?_
        have := vexp_mem (vs := l) (i := i + 1) (j := j) (w := w) (by simpa [vgt] using h) hw
        rw [show i + (j + 1) = i + 1 + j by omega]; exact this
    have two : ∀ {v : Value}, v.category = 2 → vgt (v :: vHole :: vexp l) j = some w → (i + j, w) ∈ lv_args i (v :: l) := by
      intro v hc h
      unfold lv_args
      rw [if_pos hc]
      match j, h with
      | 0, h => simp [vgt] at h; subst h; exact List.mem_cons_self
      | 1, h => simp [vgt] at h; exact absurd h.symm hw
      | j + 2, h =>
        refine List.mem_cons_of_mem _ ?_
        have := vexp_mem (vs := l) (i := i + 2) (j := j) (w := w) (by simpa [vgt] using h) hw
        rw [show i + (j + 2) = i + 2 + j by omega]; exact this
    cases v with
    | long x => exact two rfl (by simpa [vexp] using h)
    | double x => exact two rfl (by simpa [vexp] using h)
    | int x => exact one rfl (by simpa [vexp] using h)
    | float x => exact one rfl (by simpa [vexp] using h)
    | null => exact one rfl (by simpa [vexp] using h)
    | ref x => exact one rfl (by simpa [vexp] using h)
    | retAddr x => exact one rfl (by simpa [vexp] using h)
theorem vpad_gt : ∀ {n : Nat} {l : List Value} {j : Nat} {w : Value}, vgt (vpad n l) j = some w → w ≠ vHole → vgt l j = some w
  | 0, _, _, _, h, _ => h
  | n + 1, [], 0, w, h, hw => by simp [vpad, vgt] at h; exact absurd h.symm hw
  | n + 1, [], j + 1, w, h, hw => by
    have := vpad_gt (n := n) (l := []) (j := j) (w := w) (by simpa [vpad, vgt] using h) hw
    simp [vgt] at this
  | n + 1, v :: l, 0, w, h, _ => by simpa [vpad, vgt] using h
  | n + 1, v :: l, j + 1, w, h, hw => by
    have := vpad_gt (n := n) (l := l) (j := j) (w := w) (by simpa [vpad, vgt] using h) hw
    simpa [vgt] using this
theorem vpad_len : ∀ {n : Nat} {l : List Value}, l.length ≤ n → (vpad n l).length = n
  | 0, l, h => by simpa [vpad] using h
  | n + 1, [], _ => by simp [vpad, vpad_len (n := n) (l := []) (by simp)]
  | n + 1, v :: l, h => by simp [vpad, vpad_len (n := n) (l := l) (by simpa using h)]
theorem vexp_len : ∀ vs : List Value, (lg_sl vs).length = (vexp vs).length
  | [] => rfl
  | v :: l => by
    have ih := vexp_len l
    have e : lg_sl (v :: l) = (if v.category = 2 then [.val v, .second] else [.val v]) ++ lg_sl l := rfl
    rw [e, List.length_append, ih]
    cases v <;> simp [vexp, Value.category] <;> omega
theorem vLv_entry {vs : List Value} {n : Nat} (h : (vexp vs).length ≤ n) : vLv ((lg_sl vs ++ List.replicate (n - (lg_sl vs).length) Slot.unset).toArray) (vpad n (vexp vs)) := by
  have e := lv_entry vs (n := n) (by rw [vexp_len]; exact h)
  refine ⟨by rw [vpad_len h]; exact e.1, e.2.1, fun q hq => ?_⟩
  obtain ⟨j, w⟩ := q
  obtain ⟨hg, hw⟩ := vas_mem.mp hq
  have := vexp_mem (i := 0) (vpad_gt hg hw) hw
  rw [Nat.zero_add] at this
  exact e.2.2 (j, w) this
