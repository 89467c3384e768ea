theorem c171_0 : vlk 171 0 = some (54, 5, 7, 0, 3) := by decide +kernel
theorem c171_7 : vlk 171 7 = some (9, 1, 0, 0, 8) := by decide +kernel
theorem c171_8 : vlk 171 8 = some (54, 6, 25, 0, 11) := by decide +kernel
theorem c171_15 : vlk 171 15 = some (9, 2, 0, 0, 16) := by decide +kernel
theorem c171_16 : vlk 171 16 = some (1, 0, 0, 0, 17) := by decide +kernel
theorem c171_17 : vlk 171 17 = some (7, 3, 0, 0, 18) := by decide +kernel
theorem c171_18 : vlk 171 18 = some (4, 3, 0, 0, 19) := by decide +kernel
theorem c171_19 : vlk 171 19 = some (6, 0, 0, 0, 20) := by decide +kernel
theorem c171_20 : vlk 171 20 = some (53, 0, 0, 0, 21) := by decide +kernel
theorem c171_21 : vlk 171 21 = some (1, 0, 0, 6, 23) := by decide +kernel
theorem c171_23 : vlk 171 23 = some (12, 0, 0, 0, 24) := by decide +kernel
theorem c171_24 : vlk 171 24 = some (80, 1268, 0, 0, 27) := by decide +kernel
theorem c171_27 : vlk 171 27 = some (6, 0, 0, 0, 28) := by decide +kernel
theorem c171_28 : vlk 171 28 = some (4, 3, 0, 0, 29) := by decide +kernel
theorem c171_29 : vlk 171 29 = some (45, 0, 0, 0, 30) := by decide +kernel
theorem c171_30 : vlk 171 30 = some (1, 0, 0, 31, 32) := by decide +kernel
theorem c171_32 : vlk 171 32 = some (17, 0, 0, 0, 33) := by decide +kernel
theorem c171_1262 : vlk 171 1262 = some (10, 3, 0, 6, 1265) := by decide +kernel
theorem c171_1265 : vlk 171 1265 = some (37, 18, 0, 0, 1268) := by decide +kernel
theorem c171_1268 : vlk 171 1268 = some (1, 0, 0, 1, 1269) := by decide +kernel
theorem c171_1269 : vlk 171 1269 = some (63, 1, 0, 0, 1270) := by decide +kernel
/-! the law: its loop, and from its start -/
theorem l_body {a b n d bc bs i : Nat} {f : Nat → Int} {σ : vSg} {h : vHp} {Q : vQ} (L : vLw h a b n f σ) (hf : vIr n f) (hi : i ≤ n) (hn : n ≤ 3072) (hQ : ∀ h', Q (some (.int (iI 1))) h') (back : i + 6 ≤ n → ∀ h' σ', vLw h' a b n f σ' → vW (vCall (d + 60)) 171 Q 1262 [.ref a, .ref b, .ref (b + 243), .int (iI (i : Int))] [] h' bc bs) : vW (vCall (d + 60)) 171 Q 18 [.ref a, .ref b, .ref (b + 243), .int (iI (i : Int))] [] h bc bs := by
  have hs := L.1
  refine r_iload c171_18 rfl (r_aload c171_19 rfl (r_alen c171_20 hs (r_ci c171_21 (r_isub c171_23 ?_))))
  refine r_icgt c171_24 (by omega) (by omega) (by omega) (by omega) (fun c_24 => ?_) (fun c_24 => ?_)
  · refine r_ci c171_1268 ?_
    refine r_zret (st := []) c171_1269 (by omega) ?_
    exact hQ h
  · have hi6 : i + 6 ≤ n := by omega
    refine r_aload c171_27 rfl (r_iload c171_28 rfl (r_iald c171_29 hs (by omega) (by omega) (r_ci c171_30 (r_iand c171_32 ?_))))
    obtain ⟨k, hk, e⟩ := vand31 (f (i : Int).toNat)
    refine r_sw (by decide +kernel : vlk 171 33 = some (67, 6, 0, 0, 176)) vs6_ok (by omega) (by omega) ?_
    rw [e, vs6_at k hk]
    have back2 := back hi6
    match k, hk with
    | 0, _ => exact l_feed L hf hi6 hn back2
    | 1, _ => exact l_clear L hf hi6 hn back2
    | 2, _ => exact l_rule L hf hi6 hn back2
    | 3, _ => exact l_drop L hf hi6 hn back2
    | 4, _ => exact l_copy L hf hi6 hn back2
    | 5, _ => exact l_out L hf hi6 hn back2
    | 6, _ => exact l_extra L hf hi6 hn back2
    | 7, _ => exact l_has L hf hi6 hn back2
    | 8, _ => exact l_next L hf hi6 hn back2
    | 9, _ => exact l_ahead L hf hi6 hn back2
    | 10, _ => exact l_at L hf hi6 hn back2
    | 11, _ => exact l_count L hf hi6 hn back2
    | 12, _ => exact l_gap L hf hi6 hn back2
    | 13, _ => exact l_period L hf hi6 hn back2
    | 14, _ => exact l_clash L hf hi6 hn back2
    | 15, _ => exact l_unlike L hf hi6 hn back2
    | 16, _ => exact l_merged L hf hi6 hn back2
    | 17, _ => exact l_whose L hf hi6 hn back2
    | 18, _ => exact l_busiest L hf hi6 hn back2
    | 19, _ => exact l_free L hf hi6 hn back2
    | 20, _ => exact l_parts L hf hi6 hn back2
    | 21, _ => exact l_nth L hf hi6 hn back2
    | 22, _ => exact l_told L hf hi6 hn back2
    | 23, _ => exact l_remembered L hf hi6 hn back2
    | 24, _ => exact l_list L hf hi6 hn back2
    | 25, _ => exact l_put L hf hi6 hn back2
    | 26, _ => exact l_get L hf hi6 hn back2
    | 27, _ => exact l_move L hf hi6 hn back2
    | 28, _ => exact l_lay L hf hi6 hn back2
    | 29, _ => exact l_judge L hf hi6 hn back2
    | 30, _ => exact l_image L hf hi6 hn back2
    | 31, _ => exact l_undo L hf hi6 hn back2
    | k + 32, hk => omega
theorem l_loop {a b n d bc bs : Nat} {f : Nat → Int} {Q : vQ} (hf : vIr n f) (hn : n ≤ 3072) (hQ : ∀ h', Q (some (.int (iI 1))) h') : ∀ (u i : Nat) (σ : vSg) (h : vHp), i ≤ n → n ≤ i + u → vLw h a b n f σ → vW (vCall (d + 60)) 171 Q 18 [.ref a, .ref b, .ref (b + 243), .int (iI (i : Int))] [] h bc bs
  | 0, i, σ, h, h1, h2, L => l_body L hf h1 hn hQ (fun q => absurd q (by omega))
  | u + 1, i, σ, h, h1, h2, L => by
    refine l_body L hf h1 hn hQ (fun q h' σ' L' => ?_)
    refine r_iinc c171_1262 rfl rfl (r_goto c171_1265 ?_)
    try dsimp only [vst]
    rw [show ((i : Int) + 6) = ((i + 6 : Nat) : Int) by omega]
    exact l_loop hf hn hQ u (i + 6) σ' h' q (by omega) L'

theorem l_law {a n d : Nat} {f : Nat → Int} {h : vHp} {Q : vQ} (hs : hg h a = some (.inl (0, n, .inl f))) (ha : a < h.2.1) (hlo : h.1.1 ≤ h.2.1) (hB : vBk h) (hf : vIr n f) (hn : n ≤ 3072) (hQ : ∀ h', Q (some (.int (iI 1))) h') : vW (vCall (d + 60)) 171 Q 0 [.ref a, vHole, vHole, vHole] [] h 261 81195 := by
  obtain ⟨b, hb⟩ : ∃ b, b = h.2.1 := ⟨_, rfl⟩
  rw [show (261 : Nat) = 18 + 242 + 1 by decide, show (81195 : Nat) = 79507 + 1681 + 7 by decide]
  refine r_new c171_0 (fun h1 s1 => ?_)
  obtain ⟨n1, m1, t1, e1⟩ := vNw_at s1 hb.symm
  rw [← hb]
  rw [← hb] at ha hlo
  have hB1 : vBk h1 := by
    obtain ⟨⟨f, f1, f2⟩, f3⟩ := hB
    unfold vBk
    rw [n1]
    exact ⟨⟨f, (e1 _ (by omega)).trans f1, f2⟩, f3⟩
  refine r_dup (by decide +kernel : vlk 171 3 = some (34, 0, 0, 0, 4)) rfl (r_ip0 (by decide +kernel : vlk 171 4 = some (60, 54, 0, 0, 7)) (by decide +kernel : vrc 54 = some (5, 0)) rfl (k_RD0 (b := b) t1 m1 (by rw [n1]; exact hlo) hB1 (fun h2 hR2 n2 m2 e2 => ?_)))
  try dsimp only [vpush]
  refine r_astore c171_7 rfl ?_
  try dsimp only [vst]
  rw [show (18 : Nat) = 0 + 17 + 1 by decide, show (79507 : Nat) = 0 + 79482 + 25 by decide]
  refine r_new c171_8 (fun h3 s3 => ?_)
  obtain ⟨n3, m3, t3, e3⟩ := vNw_at s3 m2
  rw [m2]
  refine r_dup (by decide +kernel : vlk 171 11 = some (34, 0, 0, 0, 12)) rfl (r_ip0 (by decide +kernel : vlk 171 12 = some (60, 101, 0, 0, 15)) (by decide +kernel : vrc 101 = some (6, 0)) rfl (k_Mod0 (c := b + 243) t3 m3 (by rw [n3, n2, n1]; omega) (fun h4 hD4 n4 m4 e4 => ?_)))
  try dsimp only [vpush]
  refine r_astore c171_15 rfl (r_ci c171_16 (r_istore c171_17 rfl ?_))
  try dsimp only [vst]
  have hR4 : vRD h4 b vS0 := vRD_mv hR2 (n4.trans n3) (fun q hq => (e4 q hq).trans (e3 q (by omega)))
  have hs4 : hg h4 a = some (.inl (0, n, .inl f)) := by
    rw [e4 a (by omega), e3 a (by omega), e2 a ha, e1 a (by omega)]
    exact hs
  exact l_loop hf hn hQ n 0 vS0 h4 (Nat.zero_le _) (by omega) ⟨hs4, ha, hR4, hD4, vOk0⟩


