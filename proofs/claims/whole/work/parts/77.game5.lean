/-! ===== PURE PART: game ===== -/
theorem z_d4 : ∀ k, k < 4 → nI k - nI (k / 2 * 2) = nI (k % 2) := by decide +kernel
theorem z_x2 : ∀ k, k < 4 → nI k ^^^ nI 2 = nI (k ^^^ 2) ∧ k ^^^ 2 < 4 ∧ (k ^^^ 2) / 2 = 1 - k / 2 ∧ (k ^^^ 2) % 2 = k % 2 := by decide +kernel
theorem z_x1 : ∀ k, k < 4 → nI k ^^^ nI 1 = nI (k ^^^ 1) ∧ k ^^^ 1 < 4 ∧ (k ^^^ 1) / 2 = k / 2 ∧ (k ^^^ 1) % 2 = 1 - k % 2 := by decide +kernel
theorem z_s1 : ∀ k, k < 4 → nI k >>> (nI 1 &&& 31) = nI (k / 2) ∧ nI k &&& nI 1 = nI (k % 2) := by decide +kernel
def z_cn (rs : Nat → Bool) : Nat → Nat
  | 0 => 0
  | i + 1 => if rs i = true then z_cn rs i + 1 else z_cn rs i
def z_fs (rs : Nat → Bool) : Nat → Int32
  | 0 => -nI 1
  | i + 1 => if rs i = true then (if z_cn rs i = 0 then nI (10 * (i / 2) + i % 2) else z_fs rs i) else z_fs rs i
theorem z_cn_le (rs : Nat → Bool) : ∀ i, z_cn rs i ≤ i
  | 0 => Nat.le_refl _
  | i + 1 => by
    have := z_cn_le rs i
    unfold z_cn
    split <;> omega
theorem z_fs_0 (rs : Nat → Bool) : ∀ i, i ≤ 4 → (z_fs rs i = -nI 1 ↔ z_cn rs i = 0)
  | 0, _ => ⟨fun _ => rfl, fun _ => rfl⟩
  | i + 1, h => by
    have ih := z_fs_0 rs i (by omega)
    show ((if rs i = true then (if z_cn rs i = 0 then nI (10 * (i / 2) + i % 2) else z_fs rs i) else z_fs rs i) = -nI 1 ↔ (if rs i = true then z_cn rs i + 1 else z_cn rs i) = 0)
    by_cases h1 : rs i = true
    · rw [if_pos h1, if_pos h1]
      by_cases h2 : z_cn rs i = 0
      · rw [if_pos h2, nn_m1 (by omega)]
        exact ⟨fun h => h.elim, fun h => absurd h (by omega)⟩
      · rw [if_neg h2]
        exact ⟨fun h => absurd (ih.mp h) h2, fun h => absurd h (by omega)⟩
    · rw [if_neg h1, if_neg h1]
      exact ih
section ZD
variable {N : Nat} {R : Nat → Nat → Nat} {q : Nat} {K : Nat → Nat → Int32}
theorem m_g78 (hR : sR R q) {k : Nat} (hk : k < 4) (c1 c2 : Bool) {x1 y1 x2 y2 : Int32} (h1 : c1 = true → (k % 2 = 1 → c2 = true) → K 113 (2 * k) = x1 ∧ K 113 (2 * (k ^^^ 2)) = y1) (h2 : c2 = true → (k / 2 = 1 → c1 = true) → K 113 (2 * k + 1) = x2 ∧ K 113 (2 * (k ^^^ 1) + 1) = y2) (n : Nat) (v a6 a7 : Int32) : f_X12_game_78 N R (n + 1) 80 v (if c1 = true then 1 else 0) (if c2 = true then 1 else 0) a6 a7 (nI k) K = if (z_ct c1 (k / 2) x1 y1 && z_ct c2 (k % 2) x2 y2) = true then (if a7 = -nI 1 then f_X12_game_78 N R n 80 v (if c1 = true then 1 else 0) (if c2 = true then 1 else 0) (a6 + nI 1) (nI (10 * (k / 2) + k % 2)) (nI (k + 1)) K else f_X12_game_78 N R n 80 v (if c1 = true then 1 else 0) (if c2 = true then 1 else 0) (a6 + nI 1) a7 (nI (k + 1)) K) else f_X12_game_78 N R n 80 v (if c1 = true then 1 else 0) (if c2 = true then 1 else 0) a6 a7 (nI (k + 1)) K := by
  obtain ⟨u1, u2, u3, u4⟩ := z_x2 k hk
  obtain ⟨w1, w2, w3, w4⟩ := z_x1 k hk
  have d2 := z_d2 k hk
  have d3 := z_d4 k hk
  have zf : ∀ own x y, z_ct false own x y = decide (own = 0) := fun _ _ _ => rfl
  have zt : ∀ own x y, z_ct true own x y = !decide (x < y) := fun _ _ _ => rfl
  rcases c1 with _ | _ <;> rcases c2 with _ | _
  · rw [show (if false = true then (1 : Int32) else 0) = nI 0 from rfl]
    by_cases ha : k / 2 = 0
    · by_cases hb : k % 2 = 0
      · rw [zf, zf, decide_eq_true ha, decide_eq_true hb, if_pos (show (true && true) = true from rfl)]
        simp (disch := omega) only [f_X12_game_78, f_X12_game_97, f_X12_game_113, f_X12_game_141, f_X12_game_176, kd_80, r80_48 hR, kd_113, d2, d3, zl_0, zl_1, zl_2, zl_4, zl_10, nI_add, pk_mul, nI_leI, nI_ltI, nI_clamp, nI_eq, gd_t, gd_pos, true_and, and_true, not_false_iff, false_or, or_false, if_true, if_false, if_pos, if_neg]
      · rw [zf, zf, decide_eq_false hb, Bool.and_false, if_neg (show ¬ false = true by decide)]
        simp (disch := omega) only [f_X12_game_78, f_X12_game_97, f_X12_game_113, f_X12_game_141, f_X12_game_176, kd_80, r80_48 hR, kd_113, d2, d3, zl_0, zl_1, zl_2, zl_4, zl_10, nI_add, pk_mul, nI_leI, nI_ltI, nI_clamp, nI_eq, gd_t, gd_pos, true_and, and_true, not_false_iff, false_or, or_false, if_true, if_false, if_pos, if_neg]
    · rw [zf, zf, decide_eq_false ha, Bool.false_and, if_neg (show ¬ false = true by decide)]
      simp (disch := omega) only [f_X12_game_78, f_X12_game_97, f_X12_game_113, f_X12_game_141, f_X12_game_176, kd_80, r80_48 hR, kd_113, d2, d3, zl_0, zl_1, zl_2, zl_4, zl_10, nI_add, pk_mul, nI_leI, nI_ltI, nI_clamp, nI_eq, gd_t, gd_pos, true_and, and_true, not_false_iff, false_or, or_false, if_true, if_false, if_pos, if_neg]
  · rw [show (if false = true then (1 : Int32) else 0) = nI 0 from rfl]
    rw [show (if true = true then (1 : Int32) else 0) = nI 1 from rfl]
    by_cases ha : k / 2 = 0
    · obtain ⟨g1, g2⟩ := h2 rfl (fun h => absurd h (by omega))
      by_cases hc : x2 < y2
      · have hc2 : ¬ y2 ≤ x2 := Int32.not_le.mpr hc
        rw [zf, zt, decide_eq_true hc, Bool.not_true, Bool.and_false, if_neg (show ¬ false = true by decide)]
        by_cases hb : k % 2 = 1
        · simp (disch := omega) only [f_X12_game_78, f_X12_game_97, f_X12_game_113, f_X12_game_141, f_X12_game_176, kd_80, r80_48 hR, kd_113, w1, g1, g2, hc2, if_false, d2, d3, zl_0, zl_1, zl_2, zl_4, zl_10, nI_add, pk_mul, nI_leI, nI_ltI, nI_clamp, nI_eq, gd_t, gd_pos, true_and, and_true, not_false_iff, false_or, or_false, if_true, if_false, if_pos, if_neg]
        · simp (disch := omega) only [f_X12_game_78, f_X12_game_97, f_X12_game_113, f_X12_game_141, f_X12_game_176, kd_80, r80_48 hR, kd_113, w1, g1, g2, hc2, if_false, d2, d3, zl_0, zl_1, zl_2, zl_4, zl_10, nI_add, pk_mul, nI_leI, nI_ltI, nI_clamp, nI_eq, gd_t, gd_pos, true_and, and_true, not_false_iff, false_or, or_false, if_true, if_false, if_pos, if_neg]
      · have hc2 : y2 ≤ x2 := Int32.not_lt.mp hc
        rw [zf, zt, decide_eq_true ha, decide_eq_false hc, Bool.not_false, if_pos (show (true && true) = true from rfl)]
        by_cases hb : k % 2 = 1
        · simp (disch := omega) only [f_X12_game_78, f_X12_game_97, f_X12_game_113, f_X12_game_141, f_X12_game_176, kd_80, r80_48 hR, kd_113, w1, g1, g2, hc2, if_false, d2, d3, zl_0, zl_1, zl_2, zl_4, zl_10, nI_add, pk_mul, nI_leI, nI_ltI, nI_clamp, nI_eq, gd_t, gd_pos, true_and, and_true, not_false_iff, false_or, or_false, if_true, if_false, if_pos, if_neg]
        · simp (disch := omega) only [f_X12_game_78, f_X12_game_97, f_X12_game_113, f_X12_game_141, f_X12_game_176, kd_80, r80_48 hR, kd_113, w1, g1, g2, hc2, if_false, d2, d3, zl_0, zl_1, zl_2, zl_4, zl_10, nI_add, pk_mul, nI_leI, nI_ltI, nI_clamp, nI_eq, gd_t, gd_pos, true_and, and_true, not_false_iff, false_or, or_false, if_true, if_false, if_pos, if_neg]
    · rw [zf, decide_eq_false ha, Bool.false_and, if_neg (show ¬ false = true by decide)]
      simp (disch := omega) only [f_X12_game_78, f_X12_game_97, f_X12_game_113, f_X12_game_141, f_X12_game_176, kd_80, r80_48 hR, kd_113, d2, d3, zl_0, zl_1, zl_2, zl_4, zl_10, nI_add, pk_mul, nI_leI, nI_ltI, nI_clamp, nI_eq, gd_t, gd_pos, true_and, and_true, not_false_iff, false_or, or_false, if_true, if_false, if_pos, if_neg]
  · rw [show (if false = true then (1 : Int32) else 0) = nI 0 from rfl]
    rw [show (if true = true then (1 : Int32) else 0) = nI 1 from rfl]
    by_cases hb : k % 2 = 0
    · obtain ⟨g1, g2⟩ := h1 rfl (fun h => absurd h (by omega))
      by_cases hc : x1 < y1
      · rw [zt, decide_eq_true hc, Bool.not_true, Bool.false_and, if_neg (show ¬ false = true by decide)]
        by_cases ha : k / 2 = 1
        · simp (disch := omega) only [f_X12_game_78, f_X12_game_97, f_X12_game_113, f_X12_game_141, f_X12_game_176, kd_80, r80_48 hR, kd_113, u1, g1, g2, hc, if_false, d2, d3, zl_0, zl_1, zl_2, zl_4, zl_10, nI_add, pk_mul, nI_leI, nI_ltI, nI_clamp, nI_eq, gd_t, gd_pos, true_and, and_true, not_false_iff, false_or, or_false, if_true, if_false, if_pos, if_neg]
        · simp (disch := omega) only [f_X12_game_78, f_X12_game_97, f_X12_game_113, f_X12_game_141, f_X12_game_176, kd_80, r80_48 hR, kd_113, u1, g1, g2, hc, if_false, d2, d3, zl_0, zl_1, zl_2, zl_4, zl_10, nI_add, pk_mul, nI_leI, nI_ltI, nI_clamp, nI_eq, gd_t, gd_pos, true_and, and_true, not_false_iff, false_or, or_false, if_true, if_false, if_pos, if_neg]
      · rw [zt, zf, decide_eq_true hb, decide_eq_false hc, Bool.not_false, if_pos (show (true && true) = true from rfl)]
        by_cases ha : k / 2 = 1
        · simp (disch := omega) only [f_X12_game_78, f_X12_game_97, f_X12_game_113, f_X12_game_141, f_X12_game_176, kd_80, r80_48 hR, kd_113, u1, g1, g2, hc, if_false, d2, d3, zl_0, zl_1, zl_2, zl_4, zl_10, nI_add, pk_mul, nI_leI, nI_ltI, nI_clamp, nI_eq, gd_t, gd_pos, true_and, and_true, not_false_iff, false_or, or_false, if_true, if_false, if_pos, if_neg]
        · simp (disch := omega) only [f_X12_game_78, f_X12_game_97, f_X12_game_113, f_X12_game_141, f_X12_game_176, kd_80, r80_48 hR, kd_113, u1, g1, g2, hc, if_false, d2, d3, zl_0, zl_1, zl_2, zl_4, zl_10, nI_add, pk_mul, nI_leI, nI_ltI, nI_clamp, nI_eq, gd_t, gd_pos, true_and, and_true, not_false_iff, false_or, or_false, if_true, if_false, if_pos, if_neg]
    · rw [zf, decide_eq_false hb, Bool.and_false, if_neg (show ¬ false = true by decide)]
      by_cases ha : k / 2 = 1
      · simp (disch := omega) only [f_X12_game_78, f_X12_game_97, f_X12_game_113, f_X12_game_141, f_X12_game_176, kd_80, r80_48 hR, kd_113, d2, d3, zl_0, zl_1, zl_2, zl_4, zl_10, nI_add, pk_mul, nI_leI, nI_ltI, nI_clamp, nI_eq, gd_t, gd_pos, true_and, and_true, not_false_iff, false_or, or_false, if_true, if_false, if_pos, if_neg]
      · simp (disch := omega) only [f_X12_game_78, f_X12_game_97, f_X12_game_113, f_X12_game_141, f_X12_game_176, kd_80, r80_48 hR, kd_113, d2, d3, zl_0, zl_1, zl_2, zl_4, zl_10, nI_add, pk_mul, nI_leI, nI_ltI, nI_clamp, nI_eq, gd_t, gd_pos, true_and, and_true, not_false_iff, false_or, or_false, if_true, if_false, if_pos, if_neg]
  · rw [show (if true = true then (1 : Int32) else 0) = nI 1 from rfl]
    obtain ⟨g1, g2⟩ := h1 rfl (fun _ => rfl)
    obtain ⟨g3, g4⟩ := h2 rfl (fun _ => rfl)
    by_cases hc : x1 < y1
    · rw [zt, decide_eq_true hc, Bool.not_true, Bool.false_and, if_neg (show ¬ false = true by decide)]
      by_cases ha : k / 2 = 1 <;> by_cases hb : k % 2 = 1
      · simp (disch := omega) only [f_X12_game_78, f_X12_game_97, f_X12_game_113, f_X12_game_141, f_X12_game_176, kd_80, r80_48 hR, kd_113, u1, g1, g2, hc, d2, d3, zl_0, zl_1, zl_2, zl_4, zl_10, nI_add, pk_mul, nI_leI, nI_ltI, nI_clamp, nI_eq, gd_t, gd_pos, true_and, and_true, not_false_iff, false_or, or_false, if_true, if_false, if_pos, if_neg]
      · simp (disch := omega) only [f_X12_game_78, f_X12_game_97, f_X12_game_113, f_X12_game_141, f_X12_game_176, kd_80, r80_48 hR, kd_113, u1, g1, g2, hc, d2, d3, zl_0, zl_1, zl_2, zl_4, zl_10, nI_add, pk_mul, nI_leI, nI_ltI, nI_clamp, nI_eq, gd_t, gd_pos, true_and, and_true, not_false_iff, false_or, or_false, if_true, if_false, if_pos, if_neg]
      · simp (disch := omega) only [f_X12_game_78, f_X12_game_97, f_X12_game_113, f_X12_game_141, f_X12_game_176, kd_80, r80_48 hR, kd_113, u1, g1, g2, hc, d2, d3, zl_0, zl_1, zl_2, zl_4, zl_10, nI_add, pk_mul, nI_leI, nI_ltI, nI_clamp, nI_eq, gd_t, gd_pos, true_and, and_true, not_false_iff, false_or, or_false, if_true, if_false, if_pos, if_neg]
      · simp (disch := omega) only [f_X12_game_78, f_X12_game_97, f_X12_game_113, f_X12_game_141, f_X12_game_176, kd_80, r80_48 hR, kd_113, u1, g1, g2, hc, d2, d3, zl_0, zl_1, zl_2, zl_4, zl_10, nI_add, pk_mul, nI_leI, nI_ltI, nI_clamp, nI_eq, gd_t, gd_pos, true_and, and_true, not_false_iff, false_or, or_false, if_true, if_false, if_pos, if_neg]
    · by_cases hd : x2 < y2
      · have hd2 : ¬ y2 ≤ x2 := Int32.not_le.mpr hd
        rw [zt, zt, decide_eq_true hd, Bool.not_true, Bool.and_false, if_neg (show ¬ false = true by decide)]
        by_cases ha : k / 2 = 1 <;> by_cases hb : k % 2 = 1
        · simp (disch := omega) only [f_X12_game_78, f_X12_game_97, f_X12_game_113, f_X12_game_141, f_X12_game_176, kd_80, r80_48 hR, kd_113, u1, w1, g1, g2, g3, g4, hc, hd2, if_false, d2, d3, zl_0, zl_1, zl_2, zl_4, zl_10, nI_add, pk_mul, nI_leI, nI_ltI, nI_clamp, nI_eq, gd_t, gd_pos, true_and, and_true, not_false_iff, false_or, or_false, if_true, if_false, if_pos, if_neg]
        · simp (disch := omega) only [f_X12_game_78, f_X12_game_97, f_X12_game_113, f_X12_game_141, f_X12_game_176, kd_80, r80_48 hR, kd_113, u1, w1, g1, g2, g3, g4, hc, hd2, if_false, d2, d3, zl_0, zl_1, zl_2, zl_4, zl_10, nI_add, pk_mul, nI_leI, nI_ltI, nI_clamp, nI_eq, gd_t, gd_pos, true_and, and_true, not_false_iff, false_or, or_false, if_true, if_false, if_pos, if_neg]
        · simp (disch := omega) only [f_X12_game_78, f_X12_game_97, f_X12_game_113, f_X12_game_141, f_X12_game_176, kd_80, r80_48 hR, kd_113, u1, w1, g1, g2, g3, g4, hc, hd2, if_false, d2, d3, zl_0, zl_1, zl_2, zl_4, zl_10, nI_add, pk_mul, nI_leI, nI_ltI, nI_clamp, nI_eq, gd_t, gd_pos, true_and, and_true, not_false_iff, false_or, or_false, if_true, if_false, if_pos, if_neg]
        · simp (disch := omega) only [f_X12_game_78, f_X12_game_97, f_X12_game_113, f_X12_game_141, f_X12_game_176, kd_80, r80_48 hR, kd_113, u1, w1, g1, g2, g3, g4, hc, hd2, if_false, d2, d3, zl_0, zl_1, zl_2, zl_4, zl_10, nI_add, pk_mul, nI_leI, nI_ltI, nI_clamp, nI_eq, gd_t, gd_pos, true_and, and_true, not_false_iff, false_or, or_false, if_true, if_false, if_pos, if_neg]
      · have hd2 : y2 ≤ x2 := Int32.not_lt.mp hd
        rw [zt, zt, decide_eq_false hd, decide_eq_false hc, Bool.not_false, if_pos (show (true && true) = true from rfl)]
        by_cases ha : k / 2 = 1 <;> by_cases hb : k % 2 = 1
        · simp (disch := omega) only [f_X12_game_78, f_X12_game_97, f_X12_game_113, f_X12_game_141, f_X12_game_176, kd_80, r80_48 hR, kd_113, u1, w1, g1, g2, g3, g4, hc, hd2, if_false, d2, d3, zl_0, zl_1, zl_2, zl_4, zl_10, nI_add, pk_mul, nI_leI, nI_ltI, nI_clamp, nI_eq, gd_t, gd_pos, true_and, and_true, not_false_iff, false_or, or_false, if_true, if_false, if_pos, if_neg]
        · simp (disch := omega) only [f_X12_game_78, f_X12_game_97, f_X12_game_113, f_X12_game_141, f_X12_game_176, kd_80, r80_48 hR, kd_113, u1, w1, g1, g2, g3, g4, hc, hd2, if_false, d2, d3, zl_0, zl_1, zl_2, zl_4, zl_10, nI_add, pk_mul, nI_leI, nI_ltI, nI_clamp, nI_eq, gd_t, gd_pos, true_and, and_true, not_false_iff, false_or, or_false, if_true, if_false, if_pos, if_neg]
        · simp (disch := omega) only [f_X12_game_78, f_X12_game_97, f_X12_game_113, f_X12_game_141, f_X12_game_176, kd_80, r80_48 hR, kd_113, u1, w1, g1, g2, g3, g4, hc, hd2, if_false, d2, d3, zl_0, zl_1, zl_2, zl_4, zl_10, nI_add, pk_mul, nI_leI, nI_ltI, nI_clamp, nI_eq, gd_t, gd_pos, true_and, and_true, not_false_iff, false_or, or_false, if_true, if_false, if_pos, if_neg]
        · simp (disch := omega) only [f_X12_game_78, f_X12_game_97, f_X12_game_113, f_X12_game_141, f_X12_game_176, kd_80, r80_48 hR, kd_113, u1, w1, g1, g2, g3, g4, hc, hd2, if_false, d2, d3, zl_0, zl_1, zl_2, zl_4, zl_10, nI_add, pk_mul, nI_leI, nI_ltI, nI_clamp, nI_eq, gd_t, gd_pos, true_and, and_true, not_false_iff, false_or, or_false, if_true, if_false, if_pos, if_neg]
end ZD
