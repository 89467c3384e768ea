theorem ml_121 : vml 121 = 2 := by decide +kernel
theorem c121_0 : vlk 121 0 = some (4, 0, 0, 0, 1) := by decide +kernel
theorem c121_1 : vlk 121 1 = some (71, 11, 0, 0, 4) := by decide +kernel
theorem c121_4 : vlk 121 4 = some (4, 1, 0, 0, 5) := by decide +kernel
theorem c121_5 : vlk 121 5 = some (1, 0, 0, 7, 7) := by decide +kernel
theorem c121_7 : vlk 121 7 = some (14, 0, 0, 0, 8) := by decide +kernel
theorem c121_8 : vlk 121 8 = some (37, 28, 0, 0, 11) := by decide +kernel
theorem c121_11 : vlk 121 11 = some (4, 0, 0, 0, 12) := by decide +kernel
theorem c121_12 : vlk 121 12 = some (1, 0, 0, 1, 13) := by decide +kernel
theorem c121_13 : vlk 121 13 = some (77, 23, 0, 0, 16) := by decide +kernel
theorem c121_16 : vlk 121 16 = some (4, 1, 0, 0, 17) := by decide +kernel
theorem c121_17 : vlk 121 17 = some (1, 0, 0, 30, 19) := by decide +kernel
theorem c121_19 : vlk 121 19 = some (14, 0, 0, 0, 20) := by decide +kernel
theorem c121_20 : vlk 121 20 = some (37, 28, 0, 0, 23) := by decide +kernel
theorem c121_23 : vlk 121 23 = some (4, 1, 0, 0, 24) := by decide +kernel
theorem c121_24 : vlk 121 24 = some (1, 0, 0, 360, 27) := by decide +kernel
theorem c121_27 : vlk 121 27 = some (14, 0, 0, 0, 28) := by decide +kernel
theorem c121_28 : vlk 121 28 = some (63, 0, 0, 0, 29) := by decide +kernel
/-! counting: the k-th of a set, what is counted within a block -/
theorem vfw_iff {S : vSt1} : ∀ (n d k m : Nat), vfw S n d k = (m : Int) ↔ (d ≤ m ∧ m < d + n ∧ S m = true ∧ vcn S d (m - d) = k)
  | 0, d, k, m => ⟨fun q => by
      have q2 : (-5 : Int) = (m : Int) := q
      omega, fun q => by omega⟩
  | n + 1, d, k, m => by
    have e : vfw S (n + 1) d k = (if S d = true then (if k = 0 then (d : Int) else vfw S n (d + 1) (k - 1)) else vfw S n (d + 1) k) := rfl
    have st : d + 1 ≤ m → vcn S d (m - d) = (if S d = true then 1 else 0) + vcn S (d + 1) (m - (d + 1)) := fun q => by
      rw [show m - d = 1 + (m - (d + 1)) by omega, vcn_add]
      show (0 + (if S (d + 0) = true then 1 else 0)) + _ = _
      rw [Nat.zero_add, Nat.add_zero]
    rw [e]
    by_cases hs : S d = true
    · rw [if_pos hs]
      by_cases hk : k = 0
      · rw [if_pos hk]
        constructor
        · intro q
          obtain rfl : d = m := by omega
          exact ⟨Nat.le_refl _, by omega, hs, by rw [Nat.sub_self, hk]; rfl⟩
        · intro ⟨q1, q2, q3, q4⟩
          by_cases g : d = m
          · rw [g]
          · have := st (by omega)
            rw [if_pos hs] at this
            omega
      · rw [if_neg hk, vfw_iff n (d + 1) (k - 1) m]
        constructor
        · intro ⟨q1, q2, q3, q4⟩
          have := st q1
          rw [if_pos hs] at this
          exact ⟨by omega, by omega, q3, by omega⟩
        · intro ⟨q1, q2, q3, q4⟩
          by_cases g : d = m
          · subst g
            rw [Nat.sub_self] at q4
            have : vcn S d 0 = 0 := rfl
            omega
          · have := st (by omega)
            rw [if_pos hs] at this
            exact ⟨by omega, by omega, q3, by omega⟩
    · rw [if_neg hs, vfw_iff n (d + 1) k m]
      constructor
      · intro ⟨q1, q2, q3, q4⟩
        have := st q1
        rw [if_neg hs] at this
        exact ⟨by omega, by omega, q3, by omega⟩
      · intro ⟨q1, q2, q3, q4⟩
        have g : d ≠ m := fun g => hs (by rw [g]; exact q3)
        have := st (by omega)
        rw [if_neg hs] at this
        exact ⟨by omega, by omega, q3, by omega⟩
theorem vbw_iff {S : vSt1} {lo : Nat} : ∀ (n k m : Nat), vbw S lo n k = (m : Int) ↔ (lo ≤ m ∧ m < lo + n ∧ S m = true ∧ vcn S (m + 1) (lo + n - 1 - m) = k)
  | 0, k, m => ⟨fun q => by
      have q2 : (-5 : Int) = (m : Int) := q
      omega, fun q => by omega⟩
  | n + 1, k, m => by
    have e : vbw S lo (n + 1) k = (if S (lo + n) = true then (if k = 0 then ((lo + n : Nat) : Int) else vbw S lo n (k - 1)) else vbw S lo n k) := rfl
    have st : m < lo + n → vcn S (m + 1) (lo + (n + 1) - 1 - m) = vcn S (m + 1) (lo + n - 1 - m) + (if S (lo + n) = true then 1 else 0) := fun q => by
      rw [show lo + (n + 1) - 1 - m = (lo + n - 1 - m) + 1 by omega]
      show vcn S (m + 1) (lo + n - 1 - m) + (if S (m + 1 + (lo + n - 1 - m)) = true then 1 else 0) = _
      rw [show m + 1 + (lo + n - 1 - m) = lo + n by omega]
    rw [e]
    by_cases hs : S (lo + n) = true
    · rw [if_pos hs]
      by_cases hk : k = 0
      · rw [if_pos hk]
        constructor
        · intro q
          obtain rfl : m = lo + n := by omega
          exact ⟨by omega, by omega, hs, by rw [show lo + (n + 1) - 1 - (lo + n) = 0 by omega, hk]; rfl⟩
        · intro ⟨q1, q2, q3, q4⟩
          by_cases g : m = lo + n
          · rw [g]
          · have := st (by omega)
            rw [if_pos hs] at this
            omega
      · rw [if_neg hk, vbw_iff n (k - 1) m]
        constructor
        · intro ⟨q1, q2, q3, q4⟩
          have := st q2
          rw [if_pos hs] at this
          exact ⟨by omega, by omega, q3, by omega⟩
        · intro ⟨q1, q2, q3, q4⟩
          by_cases g : m = lo + n
          · subst g
            rw [show lo + (n + 1) - 1 - (lo + n) = 0 by omega] at q4
            have : vcn S (lo + n + 1) 0 = 0 := rfl
            omega
          · have := st (by omega)
            rw [if_pos hs] at this
            exact ⟨by omega, by omega, q3, by omega⟩
    · rw [if_neg hs, vbw_iff n k m]
      constructor
      · intro ⟨q1, q2, q3, q4⟩
        have := st q2
        rw [if_neg hs] at this
        exact ⟨by omega, by omega, q3, by omega⟩
      · intro ⟨q1, q2, q3, q4⟩
        have g : m ≠ lo + n := fun g => hs (by rw [← g]; exact q3)
        have := st (by omega)
        rw [if_neg hs] at this
        exact ⟨by omega, by omega, q3, by omega⟩
theorem vcn_cut {P T : vSt1} {lo m n : Nat} (h : lo + m ≤ n) (hin : ∀ j, lo ≤ j → j < lo + m → P j = T j) (hout : ∀ j, j < n → (j < lo ∨ lo + m ≤ j) → P j = false) : vcn P 0 n = vcn T lo m := by
  rw [show n = lo + (m + (n - lo - m)) by omega, vcn_add, vcn_add, Nat.zero_add, vcn_0 (fun j hj => hout _ (by omega) (by omega)), vcn_0 (S := P) (lo := lo + m) (fun j hj => hout _ (by omega) (by omega)), vcn_cg (T := T) (lo' := lo) (fun j hj => hin _ (by omega) (by omega))]
  omega
theorem vcn_su1 (S : vSt1) (lo n : Nat) : vcn S lo (1 + n) = (if S lo = true then 1 else 0) + vcn S (lo + 1) n := by
  rw [vcn_add]
  show (0 + (if S (lo + 0) = true then 1 else 0)) + _ = _
  rw [Nat.zero_add, Nat.add_zero]
/-- within a block, up to a day or from it on -/
def vpi (T : vSt1) (L : Nat) (la : Bool) (d e : Nat) : Bool := (T e && decide (e / L = d / L)) && (if la = true then decide (d ≤ e) else decide (e ≤ d))
theorem vblk {T : vSt1} {L d : Nat} {la : Bool} {k : Int} (hL : L = 7 ∨ L = 30 ∨ L = 360) (hd : d < 720) (hk : 1 ≤ k) : (T d && decide (((vcn (vpi T L la d) 0 720 : Nat) : Int) = k)) = vob T L (if la = false then k - 1 else -k) 720 d := by
  unfold vob vbk vpk
  rw [decide_eq_true hd, Bool.true_and]
  have hf : L * (d / L) ≤ d ∧ d < L * (d / L) + L := by rcases hL with rfl | rfl | rfl <;> omega
  have hq : ∀ e, e / L = d / L ↔ (L * (d / L) ≤ e ∧ e < L * (d / L) + L) := fun e => by rcases hL with rfl | rfl | rfl <;> omega
  generalize hfd : L * (d / L) = f at *
  have hh : (if 720 < f + L then 720 else f + L) - 1 + 1 = (if 720 < f + L then 720 else f + L) := by split <;> omega
  rw [hh]
  have hm : d < (if 720 < f + L then 720 else f + L) ∧ (if 720 < f + L then 720 else f + L) ≤ 720 ∧ (if 720 < f + L then 720 else f + L) ≤ f + L ∧ ((if 720 < f + L then 720 else f + L) = 720 ∨ (if 720 < f + L then 720 else f + L) = f + L) := by split <;> omega
  generalize (if 720 < f + L then 720 else f + L) = e at *
  cases la
  · rw [if_pos rfl, if_pos (by omega)]
    have hc : vcn (vpi T L false d) 0 720 = vcn T f (d - f + 1) := vcn_cut (by omega) (fun j j1 j2 => by
      unfold vpi
      rw [decide_eq_true ((hq j).2 ⟨j1, by omega⟩), Bool.and_true, if_neg (by decide), decide_eq_true (by omega), Bool.and_true]) (fun j j1 j2 => by
      unfold vpi
      by_cases g : j ≤ d
      · rw [decide_eq_false (fun z => by have := (hq j).1 z; omega), Bool.and_false, Bool.false_and]
      · rw [if_neg (by decide), decide_eq_false g, Bool.and_false])
    rw [hc]
    have hs : vcn T f (d - f + 1) = vcn T f (d - f) + (if T (f + (d - f)) = true then 1 else 0) := rfl
    rw [show f + (d - f) = d by omega] at hs
    rw [hs]
    by_cases ht : T d = true
    · rw [ht, Bool.true_and, if_pos rfl]
      refine decide_eq_decide.2 ?_
      rw [vfw_iff]
      constructor
      · intro q; exact ⟨hf.1, by omega, ht, by omega⟩
      · intro q; omega
    · have ht2 : T d = false := by simpa using ht
      rw [ht2, Bool.false_and]
      refine (decide_eq_false (fun z => ?_)).symm
      rw [vfw_iff] at z
      exact ht z.2.2.1
  · rw [if_neg (show ¬ true = false by decide), if_neg (show ¬ 0 ≤ -k by omega)]
    have hc : vcn (vpi T L true d) 0 720 = vcn T d (1 + (e - 1 - d)) := vcn_cut (by omega) (fun j j1 j2 => by
      unfold vpi
      rw [decide_eq_true ((hq j).2 ⟨by omega, by omega⟩), Bool.and_true, if_pos rfl, decide_eq_true j1, Bool.and_true]) (fun j j1 j2 => by
      unfold vpi
      by_cases g : d ≤ j
      · rw [decide_eq_false (fun z => by have := (hq j).1 z; omega), Bool.and_false, Bool.false_and]
      · rw [if_pos rfl, decide_eq_false g, Bool.and_false])
    rw [hc, vcn_su1]
    by_cases ht : T d = true
    · rw [ht, Bool.true_and, if_pos rfl]
      refine decide_eq_decide.2 ?_
      rw [vbw_iff]
      constructor
      · intro q; exact ⟨hf.1, by omega, ht, by rw [show f + (e - f) - 1 - d = e - 1 - d by omega]; omega⟩
      · intro q
        have := q.2.2.2
        rw [show f + (e - f) - 1 - d = e - 1 - d by omega] at this
        omega
    · have ht2 : T d = false := by simpa using ht
      rw [ht2, Bool.false_and]
      refine (decide_eq_false (fun z => ?_)).symm
      rw [vbw_iff] at z
      exact ht z.2.2.1
theorem vblk_n {T : vSt1} {d : Nat} {k : Int} (hk : 0 ≤ k) (hd : d < 720) : (T d && !decide (((vcn T 0 (d + 1) : Nat) : Int) = k + 1)) = (T d && !decide ((d : Int) = vpk T 0 719 k)) := by
  by_cases ht : T d = true
  · rw [ht, Bool.true_and, Bool.true_and]
    congr 1
    refine decide_eq_decide.2 ?_
    unfold vpk
    rw [if_pos hk, eq_comm (a := (d : Int)), vfw_iff]
    have hs : vcn T 0 (d + 1) = vcn T 0 d + (if T (0 + d) = true then 1 else 0) := rfl
    rw [Nat.zero_add, if_pos ht] at hs
    rw [hs]
    simp only [Nat.sub_zero]
    constructor
    · intro q; exact ⟨Nat.zero_le _, by omega, ht, by omega⟩
    · intro q; omega
  · have ht2 : T d = false := by simpa using ht
    rw [ht2, Bool.false_and, Bool.false_and]
theorem k_mblockOf {d m : Nat} {bl : Int} {h : vHp} {Q : vQ} (b1 : 0 ≤ bl) (b2 : bl ≤ 2) (hm : m ≤ 1000) (k : Q (some (.int (iI ((m / vbL bl : Nat) : Int)))) h) : vCall (d + 1) 0 0 121 [.int (iI bl), .int (iI (m : Int))] h Q := by
  unfold vbL at k
  refine vin 2 [_, _] ml_121 rfl rfl ?_
  refine r_iload c121_0 rfl ?_
  refine r_ifne c121_1 (by omega) (by omega) (fun c_1 => ?_) (fun c_1 => ?_)
  · rw [if_neg c_1] at k
    refine r_iload c121_11 rfl (r_ci c121_12 ?_)
    refine r_icne c121_13 (by omega) (by omega) (by omega) (by omega) (fun c_13 => ?_) (fun c_13 => ?_)
    · rw [if_neg c_13] at k
      refine r_iload c121_23 rfl (r_ci c121_24 (r_idiv c121_27 (by omega) (by omega) (by omega) (by omega) ?_))
      refine r_iret (st := []) c121_28 ?_
      rw [show (m : Int) / 360 = ((m / 360 : Nat) : Int) by omega]
      exact k
    · rw [if_pos c_13] at k
      refine r_iload c121_16 rfl (r_ci c121_17 (r_idiv c121_19 (by omega) (by omega) (by omega) (by omega) (r_goto c121_20 ?_)))
      refine r_iret (st := []) c121_28 ?_
      rw [show (m : Int) / 30 = ((m / 30 : Nat) : Int) by omega]
      exact k
  · rw [if_pos c_1] at k
    refine r_iload c121_4 rfl (r_ci c121_5 (r_idiv c121_7 (by omega) (by omega) (by omega) (by omega) (r_goto c121_8 ?_)))
    refine r_iret (st := []) c121_28 ?_
    rw [show (m : Int) / 7 = ((m / 7 : Nat) : Int) by omega]
    exact k
theorem vbL_3 (b : Int) : vbL b = 7 ∨ vbL b = 30 ∨ vbL b = 360 := by
  unfold vbL
  split
  · exact Or.inl rfl
  · split
    · exact Or.inr (Or.inl rfl)
    · exact Or.inr (Or.inr rfl)

