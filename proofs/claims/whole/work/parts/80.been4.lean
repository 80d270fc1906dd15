/-! ===== PURE PART: been: what fits ===== -/
theorem zfs_nil {c : Nat → Bool} : ∀ d i, (∀ j, i ≤ j → j < i + d → ¬ c j = true) → zfs c d i = none
  | 0, _, _ => rfl
  | d + 1, i, h => by
    unfold zfs
    rw [if_neg (h i (by omega) (by omega))]
    exact zfs_nil d (i + 1) (fun j h1 h2 => h j (by omega) (by omega))
theorem zfs_first {c : Nat → Bool} : ∀ d i k, zfs c d i = some k → ∀ j, i ≤ j → j < k → ¬ c j = true
  | 0, i, k, h, _, _, _ => by cases h
  | d + 1, i, k, h, j, h1, h2 => by
    unfold zfs at h
    by_cases hc : c i = true
    · rw [if_pos hc] at h
      cases h
      omega
    · rw [if_neg hc] at h
      by_cases e : j = i
      · rw [e]
        exact hc
      · exact zfs_first d (i + 1) k h j (by omega) h2
def zcn (c : Nat → Bool) : Nat → Nat
  | 0 => 0
  | n + 1 => if c n = true then zcn c n + 1 else zcn c n
theorem zcn_t {c : Nat → Bool} {n : Nat} (h : c n = true) : zcn c (n + 1) = zcn c n + 1 := if_pos h
theorem zcn_f {c : Nat → Bool} {n : Nat} (h : ¬ c n = true) : zcn c (n + 1) = zcn c n := if_neg h
theorem zcn_le (c : Nat → Bool) : ∀ n, zcn c n ≤ n
  | 0 => Nat.le_refl _
  | n + 1 => by
    have := zcn_le c n
    unfold zcn
    split <;> omega
theorem zcn_mono (c : Nat → Bool) (n : Nat) : ∀ d, zcn c n ≤ zcn c (n + d)
  | 0 => Nat.le_refl _
  | d + 1 => by
    have := zcn_mono c n d
    show zcn c n ≤ zcn c (n + d + 1)
    by_cases h : c (n + d) = true
    · rw [zcn_t h]
      omega
    · rw [zcn_f h]
      exact this
theorem zcn_lt {c : Nat → Bool} {n m : Nat} (h : c n = true) (hm : n < m) : zcn c n < zcn c m := by
  have h1 := zcn_mono c (n + 1) (m - (n + 1))
  rw [zcn_t h, show n + 1 + (m - (n + 1)) = m by omega] at h1
  omega
theorem zcn_0 {c : Nat → Bool} : ∀ n, (∀ j, j < n → ¬ c j = true) → zcn c n = 0
  | 0, _ => rfl
  | n + 1, h => by
    rw [zcn_f (h n (by omega))]
    exact zcn_0 n (fun j hj => h j (by omega))
theorem zcn_cong {c e : Nat → Bool} : ∀ n, (∀ j, j < n → c j = e j) → zcn c n = zcn e n
  | 0, _ => rfl
  | n + 1, h => by
    unfold zcn
    rw [h n (by omega), zcn_cong n (fun j hj => h j (by omega))]
theorem zbt_0 {c : Nat → Bool} {n : Nat} : zbt c n = 0 ↔ ∀ j, j < n → ¬ c j = true := by
  constructor
  · intro h j hj hc
    have := zbt_bit c n j
    rw [h, Nat.zero_testBit, decide_eq_true hj, hc] at this
    cases this
  · intro h
    apply Nat.eq_of_testBit_eq
    intro i
    rw [zbt_bit, Nat.zero_testBit]
    by_cases hi : i < n
    · rw [Bool.eq_false_iff.mpr (h i hi), Bool.and_false]
    · rw [decide_eq_false hi, Bool.false_and]
theorem z_pc_t {n a : Nat} (hn : n < 32) (ha : a < 2 ^ n) : z_pc 32 (a ||| 2 ^ n) = z_pc 32 a + 1 := by
  have e1 : a ||| 2 ^ n = 2 ^ n * 1 + a := by
    rw [Nat.two_pow_add_eq_or_of_lt ha 1, Nat.mul_one, Nat.or_comm]
  have hp : 0 < 2 ^ n := Nat.two_pow_pos n
  obtain ⟨k, hk⟩ : ∃ k, 32 = n + (k + 1) := ⟨31 - n, by omega⟩
  have m1 : (2 ^ n * 1 + a) % 2 ^ n = a := by rw [Nat.mul_add_mod, Nat.mod_eq_of_lt ha]
  have d1 : (2 ^ n * 1 + a) / 2 ^ n = 1 := by rw [Nat.mul_add_div hp, Nat.div_eq_of_lt ha]
  have m2 : a % 2 ^ n = a := Nat.mod_eq_of_lt ha
  have d2 : a / 2 ^ n = 0 := Nat.div_eq_of_lt ha
  rw [e1, hk, z_pc_add n (k + 1), z_pc_add n (k + 1), m1, d1, m2, d2, z_pc_0]
  show z_pc n a + (1 % 2 + z_pc k (1 / 2)) = z_pc n a + 0 + 1
  rw [show 1 / 2 = 0 from rfl, z_pc_0]
theorem z_pc_zbt (c : Nat → Bool) : ∀ n, n ≤ 32 → z_pc 32 (zbt c n) = zcn c n
  | 0, _ => z_pc_0 32
  | n + 1, h => by
    have ih := z_pc_zbt c n (by omega)
    by_cases hc : c n = true
    · rw [zbt_t hc, zcn_t hc, z_pc_t (by omega) (zbt_lt c n), ih]
    · rw [zbt_f hc, zcn_f hc, ih]
theorem z_clr2 (c : Nat → Bool) {l n : Nat} (hl : l < 30) : nI (zbt c n) &&& (nI (2 ^ l) ^^^ (-nI 1)) = nI (zbt (fun i => c i && !decide (i = l)) n) := by
  apply Int32.toBitVec_inj.1
  show BitVec.ofNat 32 (zbt c n) &&& (BitVec.ofNat 32 (2 ^ l) ^^^ BitVec.allOnes 32) = BitVec.ofNat 32 (zbt (fun i => c i && !decide (i = l)) n)
  apply BitVec.eq_of_getLsbD_eq
  intro i hi
  rw [BitVec.getLsbD_and, BitVec.getLsbD_xor, BitVec.getLsbD_ofNat, BitVec.getLsbD_ofNat, BitVec.getLsbD_ofNat, BitVec.getLsbD_allOnes, zbt_bit, zbt_bit, Nat.testBit_two_pow]
  by_cases h : i < n
  · by_cases h2 : l = i
    · simp [h, hi, h2]
    · have h3 : ¬ i = l := fun h => h2 h.symm
      simp [h, hi, h2, h3]
  · simp [h]
/-! what was seen is so -/
def z_asp (S : zS) (ns : Nat) (sn : Nat → Nat × Nat × Nat) (p : Nat) (g : zP) : Prop := ∀ i, i < ns → (sn i).1 = p → z_wks S (sn i).2.1 g 3 = (sn i).2.2
def z_all (S : zS) (ns : Nat) (sn : Nat → Nat × Nat × Nat) (V : Nat → zP) : Option Nat := zfs (fun i => decide (¬ z_wks S (sn i).2.1 (V (sn i).1) 3 = (sn i).2.2)) ns 0
section ZB
variable {S : zS} {nu ns : Nat} {sn : Nat → Nat × Nat × Nat} {V : Nat → zP}
theorem z_all_iff : z_all S ns sn V = none ↔ ∀ i, i < ns → z_wks S (sn i).2.1 (V (sn i).1) 3 = (sn i).2.2 := by
  constructor
  · intro h i hi
    have := zfs_none ns 0 h i (by omega) (by omega)
    exact Decidable.of_not_not (fun h2 => this (decide_eq_true h2))
  · intro h
    exact zfs_nil ns 0 (fun j _ hj hc => of_decide_eq_true hc (h j (by omega)))
theorem z_lw_ge {p : Nat} : ∀ n i, i < n → (sn i).1 = p → (sn i).2.1 ≤ z_lw sn p n
  | 0, i, h, _ => absurd h (Nat.not_lt_zero _)
  | n + 1, i, h, hp => by
    unfold z_lw
    by_cases e : i = n
    · subst e
      rw [if_pos hp]
      omega
    · have := z_lw_ge n i (by omega) hp
      split <;> omega
theorem z_agr_iff (hk : zNok nu ns sn) {p : Nat} {g : zP} : z_agr S ns sn p g = none ↔ z_asp S ns sn p g := by
  constructor
  · intro h i hi hp
    have hw := hk.2 i hi
    have h1 := z_lw_ge ns i hi hp
    have h2 := zfs_none _ 0 h ((sn i).2.1 - 1) (by omega) (by omega)
    rw [show (sn i).2.1 - 1 + 1 = (sn i).2.1 by omega] at h2
    have h3 : z_sx ns sn p (sn i).2.1 (z_wks S (sn i).2.1 g 3) = none := Decidable.of_not_not (fun h4 => h2 (decide_eq_true h4))
    have h5 := zfs_none _ 0 h3 i (by omega) (by omega)
    exact (Decidable.of_not_not (fun h6 => h5 (decide_eq_true ⟨hp, rfl, fun e => h6 e.symm⟩)))
  · intro h
    refine zfs_nil _ 0 (fun j _ hj hc => ?_)
    refine of_decide_eq_true hc (zfs_nil _ 0 (fun i _ hi hd => ?_))
    obtain ⟨h1, h2, h3⟩ := of_decide_eq_true hd
    have := h i (by omega) h1
    rw [h2] at this
    exact h3 this.symm
theorem z_all_asp (hk : zNok nu ns sn) : z_all S ns sn V = none ↔ ∀ p, p < nu → z_asp S ns sn p (V p) := by
  rw [z_all_iff]
  constructor
  · intro h p _ i hi e
    have := h i hi
    rw [e] at this
    exact this
  · intro h i hi
    exact h _ (hk.2 i hi).1 i hi rfl
theorem z_all_up (hk : zNok nu ns sn) {p : Nat} (hp : p < nu) {g : zP} : z_all S ns sn (sm_up V p g) = none ↔ z_asp S ns sn p g ∧ ∀ p', p' < nu → p' ≠ p → z_asp S ns sn p' (V p') := by
  rw [z_all_asp hk]
  constructor
  · intro h
    refine ⟨by have := h p hp; rw [up_s] at this; exact this, fun p' h1 h2 => ?_⟩
    have := h p' h1
    rw [up_n _ _ h2] at this
    exact this
  · intro h p' h1
    by_cases e : p' = p
    · rw [e, up_s]
      exact h.1
    · rw [up_n _ _ e]
      exact h.2 p' h1 e
end ZB
/-- whether a week of a pupil fits -/
def z_fit (S : zS) (ns : Nat) (sn : Nat → Nat × Nat × Nat) (V : Nat → zP) (p j : Nat) : Bool := !z_in (V p) (j + 1) && decide (z_all S ns sn (sm_up V p (z_ga (V p) (j + 1))) = none)
def z_wr (S : zS) (ns : Nat) (sn : Nat → Nat × Nat × Nat) (V : Nat → zP) (p : Nat) : Bool := decide (¬ z_agr S ns sn p (V p) = none)
section ZB
variable {S : zS} {nu ns : Nat} {sn : Nat → Nat × Nat × Nat} {V : Nat → zP}
theorem z_fit_r (hk : zNok nu ns sn) {p : Nat} (hp : p < nu) (h : ∀ p', p' < nu → p' ≠ p → ¬ z_wr S ns sn V p' = true) (j : Nat) : z_wa S ns sn p (V p) j = z_fit S ns sn V p j := by
  unfold z_wa z_fit
  congr 1
  apply decide_eq_decide.mpr
  rw [z_agr_iff hk, z_all_up hk hp]
  constructor
  · intro h1
    refine ⟨h1, fun p' h2 h3 => (z_agr_iff hk).mp ?_⟩
    exact Decidable.of_not_not (fun h4 => h p' h2 h3 (decide_eq_true h4))
  · exact fun h1 => h1.1
theorem z_fit_w (hk : zNok nu ns sn) {p p' : Nat} (hp : p < nu) (hp' : p' < nu) (hne : p' ≠ p) (h : z_wr S ns sn V p' = true) (j : Nat) : ¬ z_fit S ns sn V p j = true := by
  unfold z_fit
  intro h1
  rw [Bool.and_eq_true] at h1
  have h2 := (z_all_up hk hp).mp (of_decide_eq_true h1.2)
  exact of_decide_eq_true h ((z_agr_iff hk).mpr (h2.2 p' hp' hne))
theorem z_wr_0 (hk : zNok nu ns sn) : (∀ p, p < nu → ¬ z_wr S ns sn V p = true) ↔ z_all S ns sn V = none := by
  rw [z_all_asp hk]
  constructor
  · intro h p hp
    exact (z_agr_iff hk).mp (Decidable.of_not_not (fun h4 => h p hp (decide_eq_true h4)))
  · intro h p hp hc
    exact of_decide_eq_true hc ((z_agr_iff hk).mpr (h p hp))
end ZB
theorem z_ga_0 (pl : zP) : z_ga pl 0 = pl := rfl
