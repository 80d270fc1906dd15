/-! ===== PURE PART: the last free week ===== -/
theorem nI_am {a b : Nat} (h : b ≤ a) : nI a + (-(nI b)) = nI (a - b) := by rw [← Int32.sub_eq_add_neg, pk_sub h]
theorem zl_31 : (31 : Int32) = nI 31 := rfl
theorem zl_256 : (256 : Int32) = nI 256 := rfl
theorem zl_65536 : (65536 : Int32) = nI 65536 := rfl
theorem zp_l (l k : Nat) : 2 ^ (l + k) = 2 ^ l * 2 ^ k := Nat.pow_add 2 l k
section ZJ
variable {N : Nat} {R : Nat → Nat → Nat} {I : Nat → Nat → Int32}
theorem j_nlz61 {x k : Nat} (h1 : 1 ≤ x) (h2 : x < 16) (hk : 3 ≤ k) (hk2 : k ≤ 31) : ∃ l, f_J6_numberOfLeadingZeros_0f7a4_61 N R (nI x) (nI k) I = some (nI (k - l), I) ∧ l ≤ 3 ∧ 2 ^ l ≤ x ∧ x < 2 ^ (l + 1) := by
  by_cases h4 : x < 4
  · refine ⟨x / 2, ?_, by omega, ?_⟩
    · simp (disch := omega) only [f_J6_numberOfLeadingZeros_0f7a4_61, zl_1, zl_2, zl_4, nI_ltI, zb_us, pk_sub, Nat.pow_one, if_pos]
    · have : x = 1 ∨ x = 2 ∨ x = 3 := by omega
      rcases this with rfl | rfl | rfl <;> decide
  · refine ⟨2 + x / 4 / 2, ?_, by omega, ?_⟩
    · have e : k - 2 - x / 4 / 2 = k - (2 + x / 4 / 2) := by omega
      have e2 : (2 : Nat) ^ 2 = 4 := rfl
      simp (disch := omega) only [f_J6_numberOfLeadingZeros_0f7a4_61, zl_1, zl_2, zl_4, nI_ltI, zb_us, nI_am, pk_sub, Nat.pow_one, e2, e, if_neg]
    · have : x = 4 ∨ x = 5 ∨ x = 6 ∨ x = 7 ∨ x = 8 ∨ x = 9 ∨ x = 10 ∨ x = 11 ∨ x = 12 ∨ x = 13 ∨ x = 14 ∨ x = 15 := by omega
      rcases this with rfl | rfl | rfl | rfl | rfl | rfl | rfl | rfl | rfl | rfl | rfl | rfl <;> decide
theorem j_nlz48 {x k : Nat} (h1 : 1 ≤ x) (h2 : x < 256) (hk : 7 ≤ k) (hk2 : k ≤ 31) : ∃ l, f_J6_numberOfLeadingZeros_0f7a4_48 N R (nI x) (nI k) I = some (nI (k - l), I) ∧ l ≤ 7 ∧ 2 ^ l ≤ x ∧ x < 2 ^ (l + 1) := by
  by_cases h4 : x < 16
  · obtain ⟨l, e1, e2, e3⟩ := j_nlz61 (N := N) (R := R) (I := I) h1 h4 (by omega) hk2
    exact ⟨l, by simp (disch := omega) only [f_J6_numberOfLeadingZeros_0f7a4_48, zl_16, nI_ltI, e1, if_pos], by omega, e3⟩
  · obtain ⟨l, e1, e2, e3, e4⟩ := j_nlz61 (N := N) (R := R) (I := I) (x := x / 16) (k := k - 4) (by omega) (by omega) (by omega) (by omega)
    have t : (2 : Nat) ^ 4 = 16 := rfl
    have e : k - 4 - l = k - (l + 4) := by omega
    rw [e] at e1
    refine ⟨l + 4, by simp (disch := omega) only [f_J6_numberOfLeadingZeros_0f7a4_48, zl_4, zl_16, nI_ltI, zb_us, nI_am, t, e1, if_neg], by omega, ?_⟩
    have p1 := zp_l l 4
    have p2 := zp_l l 5
    have p3 := zp_l l 1
    rw [show l + 4 + 1 = l + 5 from rfl]
    omega
theorem j_nlz33 {x k : Nat} (h1 : 1 ≤ x) (h2 : x < 65536) (hk : 15 ≤ k) (hk2 : k ≤ 31) : ∃ l, f_J6_numberOfLeadingZeros_0f7a4_33 N R (nI x) (nI k) I = some (nI (k - l), I) ∧ l ≤ 15 ∧ 2 ^ l ≤ x ∧ x < 2 ^ (l + 1) := by
  by_cases h4 : x < 256
  · obtain ⟨l, e1, e2, e3⟩ := j_nlz48 (N := N) (R := R) (I := I) h1 h4 (by omega) hk2
    exact ⟨l, by simp (disch := omega) only [f_J6_numberOfLeadingZeros_0f7a4_33, zl_256, nI_ltI, e1, if_pos], by omega, e3⟩
  · obtain ⟨l, e1, e2, e3, e4⟩ := j_nlz48 (N := N) (R := R) (I := I) (x := x / 256) (k := k - 8) (by omega) (by omega) (by omega) (by omega)
    have t : (2 : Nat) ^ 8 = 256 := rfl
    have e : k - 8 - l = k - (l + 8) := by omega
    rw [e] at e1
    refine ⟨l + 8, by simp (disch := omega) only [f_J6_numberOfLeadingZeros_0f7a4_33, zl_8, zl_256, nI_ltI, zb_us, nI_am, t, e1, if_neg], by omega, ?_⟩
    have p1 := zp_l l 8
    have p2 := zp_l l 9
    have p3 := zp_l l 1
    rw [show l + 8 + 1 = l + 9 from rfl]
    omega
theorem j_nlz {x : Nat} (h1 : 1 ≤ x) (h2 : x < 2 ^ 31) : ∃ l, f_J6_numberOfLeadingZeros_0f7a4 N R (nI x) I = some (nI (31 - l), I) ∧ l ≤ 30 ∧ 2 ^ l ≤ x ∧ x < 2 ^ (l + 1) := by
  by_cases h4 : x < 65536
  · obtain ⟨l, e1, e2, e3⟩ := j_nlz33 (N := N) (R := R) (I := I) (k := 31) h1 h4 (by omega) (by omega)
    exact ⟨l, by simp (disch := omega) only [f_J6_numberOfLeadingZeros_0f7a4, zl_0, zl_31, zl_65536, nI_ltI, e1, if_pos], by omega, e3⟩
  · obtain ⟨l, e1, e2, e3, e4⟩ := j_nlz33 (N := N) (R := R) (I := I) (x := x / 65536) (k := 31 - 16) (by omega) (by omega) (by omega) (by omega)
    have t : (2 : Nat) ^ 16 = 65536 := rfl
    have e : 31 - 16 - l = 31 - (l + 16) := by omega
    rw [e] at e1
    have p1 := zp_l l 16
    have p2 := zp_l l 17
    have p3 := zp_l l 1
    have hl : l < 15 := Nat.lt_of_not_le fun h => by
      have := Nat.pow_le_pow_right (n := 2) (by omega) h
      omega
    refine ⟨l + 16, by simp (disch := omega) only [f_J6_numberOfLeadingZeros_0f7a4, zl_0, zl_16, zl_31, zl_65536, nI_ltI, zb_us, nI_am, t, e1, if_pos, if_neg], by omega, ?_⟩
    rw [show l + 16 + 1 = l + 17 from rfl]
    omega
theorem z_top {x l : Nat} (h1 : 2 ^ l ≤ x) (h2 : x < 2 ^ (l + 1)) : x.testBit l = true := by
  rw [Nat.testBit_eq_decide_div_mod_eq]
  apply decide_eq_true
  have : x / 2 ^ l = 1 := by
    apply Nat.div_eq_of_lt_le
    · omega
    · rw [Nat.pow_succ] at h2
      omega
  rw [this]
theorem j_hob {x : Nat} (h1 : 1 ≤ x) (h2 : x < 2 ^ 31) : ∃ l, f_J6_highestOneBit_0f7a4 N R (nI x) I = some (nI (2 ^ l), I) ∧ l ≤ 30 ∧ 2 ^ l ≤ x ∧ x < 2 ^ (l + 1) := by
  obtain ⟨l, e1, e2, e3, e4⟩ := j_nlz (N := N) (R := R) (I := I) h1 h2
  refine ⟨l, ?_, e2, e3, e4⟩
  have e5 : ((-2147483648 : Int32)) = nI (2 ^ 31) := by decide
  have e6 : 2 ^ 31 / 2 ^ (31 - l) = 2 ^ l := by
    rw [Nat.pow_div (by omega) (by omega)]
    congr 1
    omega
  have e7 : x &&& 2 ^ l = 2 ^ l := by
    apply Nat.eq_of_testBit_eq
    intro i
    rw [Nat.testBit_and, Nat.testBit_two_pow]
    by_cases h : l = i
    · rw [← h, z_top e3 e4]
      simp
    · simp [h]
  unfold f_J6_highestOneBit_0f7a4
  rw [e1, Option.bind_some, e5, zb_us (by omega) (by omega), e6, zb_and, e7]
theorem j_ntz : ∀ l, l < 30 → f_J6_numberOfTrailingZeros_0f7a4 N R (nI (2 ^ l)) I = some (nI l, I) := by
  intro l hl
  have : l = 0 ∨ l = 1 ∨ l = 2 ∨ l = 3 ∨ l = 4 ∨ l = 5 ∨ l = 6 ∨ l = 7 ∨ l = 8 ∨ l = 9 ∨ l = 10 ∨ l = 11 ∨ l = 12 ∨ l = 13 ∨ l = 14 ∨ l = 15 ∨ l = 16 ∨ l = 17 ∨ l = 18 ∨ l = 19 ∨ l = 20 ∨ l = 21 ∨ l = 22 ∨ l = 23 ∨ l = 24 ∨ l = 25 ∨ l = 26 ∨ l = 27 ∨ l = 28 ∨ l = 29 := by omega
  rcases this with rfl | rfl | rfl | rfl | rfl | rfl | rfl | rfl | rfl | rfl | rfl | rfl | rfl | rfl | rfl | rfl | rfl | rfl | rfl | rfl | rfl | rfl | rfl | rfl | rfl | rfl | rfl | rfl | rfl | rfl <;> rfl
theorem z_clr (c : Nat → Bool) {l : Nat} (hl : l < 30) : nI (zbt c 30) &&& (nI (2 ^ l) ^^^ (-1)) = nI (zbt (fun i => c i && !decide (i = l)) 30) := by
  apply Int32.toBitVec_inj.1
  show BitVec.ofNat 32 (zbt c 30) &&& (BitVec.ofNat 32 (2 ^ l) ^^^ BitVec.allOnes 32) = BitVec.ofNat 32 (zbt (fun i => c i && !decide (i = l)) 30)
  apply BitVec.eq_of_getLsbD_eq
  intro i hi
  rw [BitVec.getLsbD_and, BitVec.getLsbD_xor, BitVec.getLsbD_ofNat, BitVec.getLsbD_ofNat, BitVec.getLsbD_ofNat, BitVec.getLsbD_allOnes, zbt_bit, zbt_bit, Nat.testBit_two_pow]
  by_cases h : i < 30
  · by_cases h2 : l = i
    · simp [h, hi, h2]
    · have h3 : ¬ i = l := fun h => h2 h.symm
      simp [h, hi, h2, h3]
  · simp [h]
end ZJ
/-! the way to the dream -/
theorem z_lf_t {nu pn : Nat} {V : Nat → zP} {pl : zP} {t : Nat} (ht : z_may nu V pn pl (t + 1) = true) : ∀ n, t < n → (∀ j, t < j → j < n → ¬ z_may nu V pn pl (j + 1) = true) → z_lf nu V pn pl n = t + 1
  | 0, h, _ => absurd h (Nat.not_lt_zero _)
  | n + 1, h, hj => by
    unfold z_lf
    by_cases e : n = t
    · rw [e, if_pos ht]
    · rw [if_neg (hj n (by omega) (by omega))]
      exact z_lf_t ht n (by omega) (fun j h1 h2 => hj j h1 (by omega))
theorem z_lf_0 {nu pn : Nat} {V : Nat → zP} {pl : zP} : ∀ n, (∀ j, j < n → ¬ z_may nu V pn pl (j + 1) = true) → z_lf nu V pn pl n = 0
  | 0, _ => rfl
  | n + 1, hj => by
    unfold z_lf
    rw [if_neg (hj n (by omega))]
    exact z_lf_0 n (fun j h => hj j (by omega))
theorem z_fr_0 {nu pn : Nat} {V : Nat → zP} {pl : zP} (h : z_fr nu V pn pl = 0) : z_lf nu V pn pl 30 = 0 := by
  apply z_lf_0
  intro j hj hc
  have := zbt_bit (fun j => z_may nu V pn pl (j + 1)) 30 j
  unfold z_fr at h
  rw [h, Nat.zero_testBit, decide_eq_true hj] at this
  simp [hc] at this
theorem z_fr_t {nu pn : Nat} {V : Nat → zP} {pl : zP} {t : Nat} (h1 : 2 ^ t ≤ z_fr nu V pn pl) (h2 : z_fr nu V pn pl < 2 ^ (t + 1)) : t < 30 ∧ z_lf nu V pn pl 30 = t + 1 ∧ z_may nu V pn pl (t + 1) = true := by
  have hb := zbt_bit (fun j => z_may nu V pn pl (j + 1)) 30
  have h3 := z_top h1 h2
  have h4 := hb t
  unfold z_fr at h3 h2
  rw [h3] at h4
  have h5 : t < 30 ∧ z_may nu V pn pl (t + 1) = true := by
    have := h4.symm
    rw [Bool.and_eq_true] at this
    exact ⟨of_decide_eq_true this.1, this.2⟩
  refine ⟨h5.1, z_lf_t h5.2 30 h5.1 (fun j hj hj2 hc => ?_), h5.2⟩
  have h6 := hb j
  rw [Nat.testBit_lt_two_pow (Nat.lt_of_lt_of_le h2 (Nat.pow_le_pow_right (by omega) hj)), decide_eq_true hj2] at h6
  simp [hc] at h6
theorem z_go_4 (S : zS) (pl : zP) (k : Nat) : z_go S pl k 4 = pl 4 ||| 2 ^ (k - 1) := by
  unfold z_go
  rw [up_s]
theorem z_in_go (S : zS) (pl : zP) (k j : Nat) : z_in (z_go S pl k) j = (z_in pl j || decide (j - 1 = k - 1)) := by
  unfold z_in
  rw [z_go_4, ← Nat.testBit_eq_decide_div_mod_eq, ← Nat.testBit_eq_decide_div_mod_eq, Nat.testBit_or, Nat.testBit_two_pow]
  by_cases h : k - 1 = j - 1
  · rw [decide_eq_true h, decide_eq_true h.symm]
  · rw [decide_eq_false h, decide_eq_false (fun e => h e.symm)]
/-- the mask behind a week away -/
theorem z_fr_go {S : zS} {nu pn : Nat} {V : Nat → zP} {p t : Nat} (hp : p < nu) (ht : t < 30) : z_fr nu (sm_up V p (z_go S (V p) (t + 1))) pn (z_go S (V p) (t + 1)) = zbt (fun i => z_may nu V pn (V p) (i + 1) && !decide (i = t)) 30 := by
  unfold z_fr
  apply zbt_cong
  intro i hi
  unfold z_may
  have e1 := z_in_go S (V p) (t + 1) (i + 1)
  rw [Nat.add_sub_cancel, Nat.add_sub_cancel] at e1
  rw [e1]
  by_cases h : i = t
  · simp [h]
  · rw [decide_eq_false h, Bool.or_false, Bool.not_false, Bool.and_true]
    have e2 : z_awi nu (sm_up V p (z_go S (V p) (t + 1))) (i + 1) = z_awi nu V (i + 1) := by
      unfold z_awi
      apply zbt_cong
      intro a ha
      by_cases e : a = p
      · rw [e, up_s, e1, decide_eq_false h, Bool.or_false]
      · rw [up_n _ _ e]
    rw [e2]
