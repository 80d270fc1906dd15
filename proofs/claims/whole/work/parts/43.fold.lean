/-! ===== PURE PART: folds, loops, ranges ===== -/
def zbt (c : Nat → Bool) : Nat → Nat
  | 0 => 0
  | n + 1 => if c n = true then zbt c n ||| 2 ^ n else zbt c n
def zsm (f : Nat → Nat) : Nat → Nat
  | 0 => 0
  | n + 1 => zsm f n + f n
theorem zbt_t {c : Nat → Bool} {n : Nat} (h : c n = true) : zbt c (n + 1) = zbt c n ||| 2 ^ n := if_pos h
theorem zbt_f {c : Nat → Bool} {n : Nat} (h : ¬ c n = true) : zbt c (n + 1) = zbt c n := if_neg h
theorem zbt_lt (c : Nat → Bool) : ∀ n, zbt c n < 2 ^ n
  | 0 => Nat.one_pos
  | n + 1 => by
    have h := zbt_lt c n
    unfold zbt
    split
    · exact Nat.or_lt_two_pow (Nat.lt_of_lt_of_le h (Nat.pow_le_pow_right (by omega) (by omega))) (Nat.pow_lt_pow_right (by omega) (by omega))
    · exact Nat.lt_of_lt_of_le h (Nat.pow_le_pow_right (by omega) (by omega))
theorem zbt_cong {c d : Nat → Bool} : ∀ n, (∀ i, i < n → c i = d i) → zbt c n = zbt d n
  | 0, _ => rfl
  | n + 1, h => by
    unfold zbt
    rw [h n (by omega), zbt_cong n (fun i hi => h i (by omega))]
theorem zbt_bit (c : Nat → Bool) : ∀ n i, (zbt c n).testBit i = (decide (i < n) && c i)
  | 0, i => by simp [zbt]
  | n + 1, i => by
    unfold zbt
    have h := zbt_bit c n i
    split
    · rename_i hc
      rw [Nat.testBit_or, h, Nat.testBit_two_pow]
      by_cases e : n = i
      · subst e
        simp [hc]
      · have : decide (i < n + 1) = decide (i < n) := by
          apply decide_eq_decide.mpr
          omega
        simp [e, this]
    · rename_i hc
      rw [h]
      by_cases e : i = n
      · subst e
        simp [hc]
      · have : decide (i < n + 1) = decide (i < n) := by
          apply decide_eq_decide.mpr
          omega
        rw [this]
theorem zsm_le {f : Nat → Nat} {b : Nat} : ∀ n, (∀ i, i < n → f i ≤ b) → zsm f n ≤ b * n
  | 0, _ => Nat.zero_le _
  | n + 1, h => by
    have h1 := zsm_le n (fun i hi => h i (by omega))
    have h2 := h n (by omega)
    unfold zsm
    rw [Nat.mul_succ]
    omega
theorem zsm_cong {f g : Nat → Nat} : ∀ n, (∀ i, i < n → f i = g i) → zsm f n = zsm g n
  | 0, _ => rfl
  | n + 1, h => by
    unfold zsm
    rw [h n (by omega), zsm_cong n (fun i hi => h i (by omega))]
/-- the first i, from i on, d at most -/
def zfs (c : Nat → Bool) : Nat → Nat → Option Nat
  | 0, _ => none
  | d + 1, i => if c i = true then some i else zfs c d (i + 1)
theorem zfs_cong {c e : Nat → Bool} : ∀ d i, (∀ j, i ≤ j → j < i + d → c j = e j) → zfs c d i = zfs e d i
  | 0, _, _ => rfl
  | d + 1, i, h => by
    unfold zfs
    rw [h i (by omega) (by omega), zfs_cong d (i + 1) (fun j h1 h2 => h j (by omega) (by omega))]
def zn1 : Option Nat → Int32
  | none => -1
  | some k => nI k
/-- a loop without memory: the numbers that it carries as functions of the index -/
theorem zu_loop {α β : Type} (F : Nat → Nat → α → Option β) (g : Nat → α) (r : β) (e : Nat) (hx : ∀ n, F (n + 1) e (g e) = some r) (hs : ∀ n i, i < e → F (n + 1) i (g i) = F n (i + 1) (g (i + 1))) : ∀ d i n, i + d = e → d < n → F n i (g i) = some r
  | 0, i, n + 1, h1, _ => by
    obtain rfl : i = e := by omega
    exact hx n
  | d + 1, i, n + 1, h1, h2 => by
    rw [hs n i (by omega)]
    exact zu_loop F g r e hx hs d (i + 1) n (by omega) (by omega)
  | _, _, 0, _, h2 => absurd h2 (Nat.not_lt_zero _)
/-- a loop over the memory -/
theorem zm_loop {σ β : Type} (F : Nat → Nat → σ → Option β) (Inv : Nat → σ → Prop) (P : β → Prop) (e : Nat) (hx : ∀ n s, Inv e s → ∃ y, F (n + 1) e s = some y ∧ P y) (hs : ∀ n i s, i < e → Inv i s → ∃ s', F (n + 1) i s = F n (i + 1) s' ∧ Inv (i + 1) s') : ∀ d i s n, i + d = e → d < n → Inv i s → ∃ y, F n i s = some y ∧ P y
  | 0, i, s, n + 1, h1, _, hi => by
    obtain rfl : i = e := by omega
    exact hx n s hi
  | d + 1, i, s, n + 1, h1, h2, hi => by
    obtain ⟨s', q1, q2⟩ := hs n i s (by omega) hi
    rw [q1]
    exact zm_loop F Inv P e hx hs d (i + 1) s' n (by omega) (by omega) q2
  | _, _, _, 0, _, h2, _ => absurd h2 (Nat.not_lt_zero _)
/-- a loop that ends where c holds first -/
theorem zfs_loop {σ β : Type} (F : Nat → Nat → σ → Option β) (c : Nat → Bool) (Inv : Nat → σ → Prop) (P : Option Nat → β → Prop) (e : Nat) (hx : ∀ n s, Inv e s → ∃ y, F (n + 1) e s = some y ∧ P none y) (hy : ∀ n i s, i < e → Inv i s → c i = true → ∃ y, F (n + 2) i s = some y ∧ P (some i) y) (hs : ∀ n i s, i < e → Inv i s → ¬ c i = true → ∃ s', F (n + 1) i s = F n (i + 1) s' ∧ Inv (i + 1) s') : ∀ d i s n, i + d = e → d + 1 < n → Inv i s → ∃ y, F n i s = some y ∧ P (zfs c d i) y
  | 0, i, s, n + 1, h1, _, hi => by
    obtain rfl : i = e := by omega
    exact hx n s hi
  | d + 1, i, s, n + 2, h1, h2, hi => by
    unfold zfs
    by_cases hc : c i = true
    · rw [if_pos hc]
      exact hy n i s (by omega) hi hc
    · rw [if_neg hc]
      obtain ⟨s', q1, q2⟩ := hs (n + 1) i s (by omega) hi hc
      rw [q1]
      exact zfs_loop F c Inv P e hx hy hs d (i + 1) s' (n + 1) (by omega) (by omega) q2
  | 0, _, _, 0, _, h2, _ => absurd h2 (Nat.not_lt_zero _)
  | d + 1, _, _, 0, _, h2, _ => absurd h2 (Nat.not_lt_zero _)
  | d + 1, _, _, 1, _, h2, _ => absurd h2 (by omega)
/-! ranges -/
theorem zlt_l {x : Int32} {a : Nat} (ha : a < 2 ^ 31) : x < nI a ↔ x.toInt < a := by rw [zz_lt, nI_toInt ha]
theorem zlt_r {x : Int32} {a : Nat} (ha : a < 2 ^ 31) : nI a < x ↔ (a : Int) < x.toInt := by rw [zz_lt, nI_toInt ha]
theorem zle_l {x : Int32} {a : Nat} (ha : a < 2 ^ 31) : x ≤ nI a ↔ x.toInt ≤ a := by rw [zz_le, nI_toInt ha]
theorem zle_r {x : Int32} {a : Nat} (ha : a < 2 ^ 31) : nI a ≤ x ↔ (a : Int) ≤ x.toInt := by rw [zz_le, nI_toInt ha]
theorem zeq_l {x : Int32} {a : Nat} (ha : a < 2 ^ 31) : x = nI a ↔ x.toInt = a := ⟨fun h => by rw [h, nI_toInt ha], fun h => zz_ofInt h⟩
theorem zrg (x : Int32) (a b : Nat) : (∃ k : Nat, a ≤ k ∧ k ≤ b ∧ x = nI k) ∨ (x.toInt < a ∨ (b : Int) < x.toInt) := by
  by_cases h1 : x.toInt < a
  · exact Or.inr (Or.inl h1)
  · by_cases h2 : (b : Int) < x.toInt
    · exact Or.inr (Or.inr h2)
    · exact Or.inl ⟨x.toInt.toNat, by omega, by omega, zz_ofInt (by omega)⟩
theorem zrx (x : Int32) (n : Nat) : (∃ k : Nat, k < n ∧ x = nI k) ∨ (x.toInt < 0 ∨ (n : Int) ≤ x.toInt) := by
  by_cases h1 : x.toInt < 0
  · exact Or.inr (Or.inl h1)
  · by_cases h2 : (n : Int) ≤ x.toInt
    · exact Or.inr (Or.inr h2)
    · exact Or.inl ⟨x.toInt.toNat, by omega, zz_ofInt (by omega)⟩
theorem lg_neg (x y : Int64) : lg_cmp x y < nI 0 ↔ x.toInt < y.toInt := by
  rw [← Int64.lt_iff_toInt_lt]
  unfold lg_cmp
  by_cases h1 : y < x
  · rw [if_pos h1]
    refine ⟨fun h => absurd h (by decide), fun h => ?_⟩
    rw [Int64.lt_iff_toInt_lt] at h h1
    omega
  · rw [if_neg h1]
    by_cases h2 : x = y
    · rw [if_pos h2]
      refine ⟨fun h => absurd h (by decide), fun h => ?_⟩
      rw [Int64.lt_iff_toInt_lt, h2] at h
      omega
    · rw [if_neg h2]
      refine ⟨fun _ => ?_, fun _ => by decide⟩
      rw [Int64.lt_iff_toInt_lt] at h1 ⊢
      have h3 : ¬ x.toInt = y.toInt := fun h => h2 (Int64.toInt_inj.mp h)
      omega
theorem lg_pos (x y : Int64) : nI 0 < lg_cmp x y ↔ y.toInt < x.toInt := by
  rw [← Int64.lt_iff_toInt_lt]
  unfold lg_cmp
  by_cases h1 : y < x
  · rw [if_pos h1]
    exact ⟨fun _ => h1, fun _ => by decide⟩
  · rw [if_neg h1]
    by_cases h2 : x = y
    · rw [if_pos h2]
      exact ⟨fun h => absurd h (by decide), fun h => absurd h h1⟩
    · rw [if_neg h2]
      exact ⟨fun h => absurd h (by decide), fun h => absurd h h1⟩
theorem z64 (x : Int32) : x.toInt64.toInt = x.toInt := Int32.toInt_toInt64 x
theorem zq_0 : (0 : Int64).toInt = 0 := rfl
theorem zq_1 : (1 : Int64).toInt = 1 := rfl
theorem zq_2 : (2 : Int64).toInt = 2 := by decide
theorem zq_4 : (4 : Int64).toInt = 4 := by decide
theorem zq_8 : (8 : Int64).toInt = 8 := by decide
theorem zq_9 : (9 : Int64).toInt = 9 := by decide
theorem zq_20 : (20 : Int64).toInt = 20 := by decide
theorem zq_30 : (30 : Int64).toInt = 30 := by decide
theorem zq_60 : (60 : Int64).toInt = 60 := by decide
theorem zq_m1 : (-1 : Int64).toInt = -1 := by decide
section ZM
variable {N : Nat} {R : Nat → Nat → Nat} {q p nu : Nat} {S : zS} {I : Nat → Nat → Int32} {V : Nat → zP}
theorem m_isIn (u v w : Int64) : f_X12_isIn N R u v w I = some ((if v.toInt ≤ u.toInt ∧ u.toInt ≤ w.toInt then 1 else 0), I) := by
  unfold f_X12_isIn
  rw [zl_0]
  by_cases h1 : u.toInt < v.toInt
  · rw [if_pos ((lg_neg u v).mpr h1), if_neg (by omega)]
  · rw [if_neg (fun h => h1 ((lg_neg u v).mp h))]
    by_cases h2 : w.toInt < u.toInt
    · rw [if_pos ((lg_pos u w).mpr h2), if_neg (by omega)]
    · rw [if_neg (fun h => h2 ((lg_pos u w).mp h)), if_pos (by omega)]
theorem m_isPiece (hR : sR R q) (hso : z_sok S) (hS : zMS S I) (x : Int32) : f_X12_isPiece N R 80 x I = some ((if 0 ≤ x.toInt ∧ x.toInt < z_np S then 1 else 0), I) := by
  have h6 := hso.1
  have h1 := hS.1
  have e : (nI (z_np S) - nI 1).toInt = (z_np S : Int) - 1 := pk_sub_toInt (by omega) (by omega)
  have e2 := m_isIn (N := N) (R := R) (I := I) x.toInt64 0 (nI (z_np S) - nI 1).toInt64
  rw [z64, z64, zq_0, e] at e2
  by_cases hc : 0 ≤ x.toInt ∧ x.toInt < z_np S
  · rw [if_pos (by omega)] at e2
    rw [if_pos hc]
    simp (disch := omega) only [f_X12_isPiece, kd_80, r80_4 hR, kd_84, h1, gd_t, gd_pos, lt_eq, Option.bind_some, true_and, and_true, not_true, not_false_iff, false_or, or_false, if_true, if_false, if_pos, if_neg, zl_0, zl_1, nI_ltI, nI_leI, nI_clamp, e2, or_true]
  · rw [if_neg (by omega)] at e2
    rw [if_neg hc]
    simp (disch := omega) only [f_X12_isPiece, kd_80, r80_4 hR, kd_84, h1, gd_t, gd_pos, lt_eq, Option.bind_some, true_and, and_true, not_true, not_false_iff, false_or, or_false, if_true, if_false, if_pos, if_neg, zl_0, zl_1, nI_ltI, nI_leI, nI_clamp, e2, true_or]
theorem m_isPupil (hR : sR R q) (h7 : nu ≤ 7) (hV : zMV nu V I) (x : Int32) : f_X12_isPupil N R 80 x I = some ((if 0 ≤ x.toInt ∧ x.toInt < nu then 1 else 0), I) := by
  have h1 := hV.1
  have e : (nI nu - nI 1).toInt = (nu : Int) - 1 := pk_sub_toInt (by omega) (by omega)
  have e2 := m_isIn (N := N) (R := R) (I := I) x.toInt64 0 (nI nu - nI 1).toInt64
  rw [z64, z64, zq_0, e] at e2
  by_cases hc : 0 ≤ x.toInt ∧ x.toInt < nu
  · rw [if_pos (by omega)] at e2
    rw [if_pos hc]
    simp (disch := omega) only [f_X12_isPupil, kd_80, r80_4 hR, kd_84, h1, gd_t, gd_pos, lt_eq, Option.bind_some, true_and, and_true, not_true, not_false_iff, false_or, or_false, if_true, if_false, if_pos, if_neg, zl_0, zl_1, nI_ltI, nI_leI, nI_clamp, e2, or_true]
  · rw [if_neg (by omega)] at e2
    rw [if_neg hc]
    simp (disch := omega) only [f_X12_isPupil, kd_80, r80_4 hR, kd_84, h1, gd_t, gd_pos, lt_eq, Option.bind_some, true_and, and_true, not_true, not_false_iff, false_or, or_false, if_true, if_false, if_pos, if_neg, zl_0, zl_1, nI_ltI, nI_leI, nI_clamp, e2, true_or]
end ZM
