/-! ===== PURE PART: the model: who is away, who may go, sums ===== -/
section ZM
variable {N : Nat} {R : Nat → Nat → Nat} {q p nu pn : Nat} {S : zS} {I : Nat → Nat → Int32} {V : Nat → zP}
theorem m_awayIn (hN : 5000 ≤ N) (hR : sR R q) (hV : zMV nu V I) (h7 : nu ≤ 7) (ho : ∀ p, p < nu → V p 4 < 2 ^ 30) {k : Nat} (h1 : 1 ≤ k) (h2 : k ≤ 31) : f_X12_awayIn N R 80 (nI k) I = some (nI (z_awi nu V k), I) := by
  have hn := hV.1
  exact zu_loop (fun n i a => f_X12_awayIn_4 N R n 80 (nI k) a (nI i) I) (fun i => nI (z_awi i V k)) (nI (z_awi nu V k), I) nu
    (fun n => by simp (disch := omega) only [f_X12_awayIn_4, kd_80, r80_4 hR, kd_84, hn, gd_t, gd_pos, lt_eq, Option.bind_some, true_and, and_true, not_true, not_false_iff, false_or, or_false, if_true, if_false, if_pos, if_neg, zl_0, zl_1, nI_leI, nI_ltI, nI_clamp])
    (fun n i hi => by
      have e := m_isOf (N := N) (R := R) (I := I) (n := V i 4) (j := k - 1) (by have := ho i hi; omega) (by omega)
      have v4 := (hV.2 i hi).2.2.2.2.1
      by_cases hc : V i 4 / 2 ^ (k - 1) % 2 = 1
      · rw [if_pos hc] at e
        have e2 : z_awi (i + 1) V k = z_awi i V k ||| 2 ^ i := zbt_t (z_in_t hc)
        simp (disch := omega) only [f_X12_awayIn_4, kd_80, r80_4 hR, kd_84, r80_29 hR, kd_99, hn, v4, e, e2, gd_t, gd_pos, lt_eq, Option.bind_some, true_and, and_true, not_true, not_false_iff, false_or, or_false, if_true, if_false, if_pos, if_neg, zl_0, zl_1, zl_2, zl_3, zl_4, zl_5, zl_6, zl_7, zl_8, zl_9, zl_10, zl_12, zl_14, zl_16, zl_20, zl_21, zl_28, zl_30, zl_32, zl_37, zl_40, zl_60, zl_64, zl_99, zl_100, zl_680, zl_700, zl_999, zl_9999, zl_10000, zl_20000, zl_20001, zl_20002, zl_20003, zl_20004, zl_20005, zl_20006, zl_20007, zl_ofNat, nI_add, pk_mul, nI_leI, nI_ltI, nI_eq, nI_clamp, mx_nI, mn_nI, pk_sub, zz_m1, zb_shl, zb_or]
      · rw [if_neg hc] at e
        have e2 : z_awi (i + 1) V k = z_awi i V k := zbt_f (z_in_f hc)
        simp (disch := omega) only [f_X12_awayIn_4, kd_80, r80_4 hR, kd_84, r80_29 hR, kd_99, hn, v4, e, e2, gd_t, gd_pos, lt_eq, Option.bind_some, true_and, and_true, not_true, not_false_iff, false_or, or_false, if_true, if_false, if_pos, if_neg, zl_0, zl_1, zl_2, zl_3, zl_4, zl_5, zl_6, zl_7, zl_8, zl_9, zl_10, zl_12, zl_14, zl_16, zl_20, zl_21, zl_28, zl_30, zl_32, zl_37, zl_40, zl_60, zl_64, zl_99, zl_100, zl_680, zl_700, zl_999, zl_9999, zl_10000, zl_20000, zl_20001, zl_20002, zl_20003, zl_20004, zl_20005, zl_20006, zl_20007, zl_ofNat, nI_add, pk_mul, nI_leI, nI_ltI, nI_eq, nI_clamp, mx_nI, mn_nI, pk_sub, zz_m1, zb_or, Nat.or_zero]) nu 0 N (by omega) (by omega)
theorem m_mayGo (hN : 5000 ≤ N) (hR : sR R q) (hV : zMV nu V I) (h7 : nu ≤ 7) (ho : ∀ p, p < nu → V p 4 < 2 ^ 30) (hp : I 80 32 = nI pn) (hp4 : pn ≤ 4) {p : Nat} (hpn : p < nu) {j : Nat} (h1 : 1 ≤ j) (h2 : j ≤ 30) : f_X12_mayGo N R 80 (nI p) (nI j) I = some ((if z_may nu V pn (V p) j = true then 1 else 0), I) := by
  have e0 := m_isIn (N := N) (R := R) (I := I) (nI j).toInt64 1 30
  rw [z64, zq_1, zq_30, nI_toInt (by omega), if_pos (by omega)] at e0
  have o4 := ho p hpn
  have e := m_isOf (N := N) (R := R) (I := I) (n := V p 4) (j := j - 1) (by omega) (by omega)
  have v4 := (hV.2 p hpn).2.2.2.2.1
  have e2 := m_awayIn hN hR hV h7 ho h1 (show j ≤ 31 by omega)
  have hlt := z_awi_lt nu V j h7
  have e3 := m_bitsOf (N := N) (R := R) (I := I) hN (a := z_awi nu V j) (by omega)
  have hz := z_pc_le 32 (z_awi nu V j)
  by_cases hc : V p 4 / 2 ^ (j - 1) % 2 = 1
  · rw [if_pos hc] at e
    have h9 : ¬ z_may nu V pn (V p) j = true := z_may_f1 (z_in_t hc)
    rw [if_neg h9]
    simp (disch := omega) only [f_X12_mayGo, kd_80, r80_29 hR, kd_99, v4, e0, e, gd_t, gd_pos, lt_eq, Option.bind_some, true_and, and_true, not_true, not_false_iff, false_or, or_false, if_true, if_false, if_pos, if_neg, zl_0, zl_1, zl_2, zl_3, zl_4, zl_5, zl_6, zl_7, zl_8, zl_9, zl_10, zl_12, zl_14, zl_16, zl_20, zl_21, zl_28, zl_30, zl_32, zl_37, zl_40, zl_60, zl_64, zl_99, zl_100, zl_680, zl_700, zl_999, zl_9999, zl_10000, zl_20000, zl_20001, zl_20002, zl_20003, zl_20004, zl_20005, zl_20006, zl_20007, zl_ofNat, nI_add, pk_mul, nI_leI, nI_ltI, nI_eq, nI_clamp, mx_nI, mn_nI, pk_sub, zz_m1]
  · rw [if_neg hc] at e
    by_cases hd : z_pc 32 (z_awi nu V j) < pn
    · have h9 : z_may nu V pn (V p) j = true := z_may_t (z_in_f hc) hd
      rw [if_pos h9]
      simp (disch := omega) only [f_X12_mayGo, kd_80, r80_29 hR, kd_99, v4, e0, e, e2, e3, hp, gd_t, gd_pos, lt_eq, Option.bind_some, true_and, and_true, not_true, not_false_iff, false_or, or_false, if_true, if_false, if_pos, if_neg, zl_0, zl_1, zl_2, zl_3, zl_4, zl_5, zl_6, zl_7, zl_8, zl_9, zl_10, zl_12, zl_14, zl_16, zl_20, zl_21, zl_28, zl_30, zl_32, zl_37, zl_40, zl_60, zl_64, zl_99, zl_100, zl_680, zl_700, zl_999, zl_9999, zl_10000, zl_20000, zl_20001, zl_20002, zl_20003, zl_20004, zl_20005, zl_20006, zl_20007, zl_ofNat, nI_add, pk_mul, nI_leI, nI_ltI, nI_eq, nI_clamp, mx_nI, mn_nI, pk_sub, zz_m1]
    · have h9 : ¬ z_may nu V pn (V p) j = true := z_may_f2 hd
      rw [if_neg h9]
      simp (disch := omega) only [f_X12_mayGo, kd_80, r80_29 hR, kd_99, v4, e0, e, e2, e3, hp, gd_t, gd_pos, lt_eq, Option.bind_some, true_and, and_true, not_true, not_false_iff, false_or, or_false, if_true, if_false, if_pos, if_neg, zl_0, zl_1, zl_2, zl_3, zl_4, zl_5, zl_6, zl_7, zl_8, zl_9, zl_10, zl_12, zl_14, zl_16, zl_20, zl_21, zl_28, zl_30, zl_32, zl_37, zl_40, zl_60, zl_64, zl_99, zl_100, zl_680, zl_700, zl_999, zl_9999, zl_10000, zl_20000, zl_20001, zl_20002, zl_20003, zl_20004, zl_20005, zl_20006, zl_20007, zl_ofNat, nI_add, pk_mul, nI_leI, nI_ltI, nI_eq, nI_clamp, mx_nI, mn_nI, pk_sub, zz_m1]
theorem m_mayGo_out {x y : Int32} (h : x.toInt < (1 : Nat) ∨ ((30 : Nat) : Int) < x.toInt) : f_X12_mayGo N R 80 y x I = some (0, I) := by
  have e0 := m_isIn (N := N) (R := R) (I := I) x.toInt64 1 30
  rw [z64, zq_1, zq_30, if_neg (by omega)] at e0
  simp (disch := omega) only [f_X12_mayGo, e0, gd_t, gd_pos, lt_eq, Option.bind_some, true_and, and_true, not_true, not_false_iff, false_or, or_false, if_true, if_false, if_pos, if_neg, zl_0, zl_1, zl_2, zl_3, zl_4, zl_5, zl_6, zl_7, zl_8, zl_9, zl_10, zl_12, zl_14, zl_16, zl_20, zl_21, zl_28, zl_30, zl_32, zl_37, zl_40, zl_60, zl_64, zl_99, zl_100, zl_680, zl_700, zl_999, zl_9999, zl_10000, zl_20000, zl_20001, zl_20002, zl_20003, zl_20004, zl_20005, zl_20006, zl_20007, zl_ofNat, nI_add, pk_mul, nI_leI, nI_ltI, nI_eq, nI_clamp, mx_nI, mn_nI, pk_sub, zz_m1]
theorem m_freeOf (hN : 5000 ≤ N) (hR : sR R q) (hV : zMV nu V I) (h7 : nu ≤ 7) (ho : ∀ p, p < nu → V p 4 < 2 ^ 30) (hp : I 80 32 = nI pn) (hp4 : pn ≤ 4) {p : Nat} (hpn : p < nu) : f_X12_freeOf N R 80 (nI p) I = some (nI (z_fr nu V pn (V p)), I) := by
  exact zu_loop (fun n i a => f_X12_freeOf_4 N R n 80 (nI p) a (nI (i + 1)) I) (fun i => nI (zbt (fun j => z_may nu V pn (V p) (j + 1)) i)) (nI (z_fr nu V pn (V p)), I) 30
    (fun n => by simp (disch := omega) only [f_X12_freeOf_4, gd_t, gd_pos, lt_eq, Option.bind_some, true_and, and_true, not_true, not_false_iff, false_or, or_false, if_true, if_false, if_pos, if_neg, zl_30, nI_ltI, z_fr])
    (fun n i hi => by
      have e := m_mayGo hN hR hV h7 ho hp hp4 hpn (j := i + 1) (by omega) (by omega)
      by_cases hc : z_may nu V pn (V p) (i + 1) = true
      · rw [if_pos hc] at e
        have e2 : zbt (fun j => z_may nu V pn (V p) (j + 1)) (i + 1) = zbt (fun j => z_may nu V pn (V p) (j + 1)) i ||| 2 ^ i := zbt_t hc
        simp (disch := omega) only [f_X12_freeOf_4, kd_80, e, e2, gd_t, gd_pos, lt_eq, Option.bind_some, true_and, and_true, not_true, not_false_iff, false_or, or_false, if_true, if_false, if_pos, if_neg, zl_0, zl_1, zl_2, zl_3, zl_4, zl_5, zl_6, zl_7, zl_8, zl_9, zl_10, zl_12, zl_14, zl_16, zl_20, zl_21, zl_28, zl_30, zl_32, zl_37, zl_40, zl_60, zl_64, zl_99, zl_100, zl_680, zl_700, zl_999, zl_9999, zl_10000, zl_20000, zl_20001, zl_20002, zl_20003, zl_20004, zl_20005, zl_20006, zl_20007, zl_ofNat, nI_add, pk_mul, nI_leI, nI_ltI, nI_eq, nI_clamp, mx_nI, mn_nI, pk_sub, zz_m1, Nat.add_sub_cancel, zb_shl, zb_or]
      · rw [if_neg hc] at e
        have e2 : zbt (fun j => z_may nu V pn (V p) (j + 1)) (i + 1) = zbt (fun j => z_may nu V pn (V p) (j + 1)) i := zbt_f hc
        simp (disch := omega) only [f_X12_freeOf_4, kd_80, e, e2, gd_t, gd_pos, lt_eq, Option.bind_some, true_and, and_true, not_true, not_false_iff, false_or, or_false, if_true, if_false, if_pos, if_neg, zl_0, zl_1, zl_2, zl_3, zl_4, zl_5, zl_6, zl_7, zl_8, zl_9, zl_10, zl_12, zl_14, zl_16, zl_20, zl_21, zl_28, zl_30, zl_32, zl_37, zl_40, zl_60, zl_64, zl_99, zl_100, zl_680, zl_700, zl_999, zl_9999, zl_10000, zl_20000, zl_20001, zl_20002, zl_20003, zl_20004, zl_20005, zl_20006, zl_20007, zl_ofNat, nI_add, pk_mul, nI_leI, nI_ltI, nI_eq, nI_clamp, mx_nI, mn_nI, pk_sub, zz_m1, zb_or, Nat.or_zero]) 30 0 N (by omega) (by omega)
/-- the last week that is free, 0: none -/
def z_lf (nu : Nat) (V : Nat → zP) (pn : Nat) (pl : zP) : Nat → Nat
  | 0 => 0
  | k + 1 => if z_may nu V pn pl (k + 1) = true then k + 1 else z_lf nu V pn pl k
theorem m_lastFree (hN : 5000 ≤ N) (hR : sR R q) (hV : zMV nu V I) (h7 : nu ≤ 7) (ho : ∀ p, p < nu → V p 4 < 2 ^ 30) (hp : I 80 32 = nI pn) (hp4 : pn ≤ 4) {p : Nat} (hpn : p < nu) : f_X12_lastFree N R 80 (nI p) I = some (nI (z_lf nu V pn (V p) 30), I) := by
  have key : ∀ k n, k ≤ 30 → k < n → f_X12_lastFree_3 N R n 80 (nI p) (nI k) I = some (nI (z_lf nu V pn (V p) k), I) := by
    intro k
    induction k with
    | zero =>
      intro n h1 h2
      obtain ⟨n, rfl⟩ : ∃ m, n = m + 1 := ⟨n - 1, by omega⟩
      simp (disch := omega) only [f_X12_lastFree_3, zl_0, nI_leI, gd_t, gd_pos, lt_eq, Option.bind_some, true_and, and_true, not_true, not_false_iff, false_or, or_false, if_true, if_false, if_pos, if_neg, z_lf]
    | succ k ih =>
      intro n h1 h2
      obtain ⟨n, rfl⟩ : ∃ m, n = m + 1 := ⟨n - 1, by omega⟩
      have e := m_mayGo hN hR hV h7 ho hp hp4 hpn (j := k + 1) (by omega) (by omega)
      by_cases hc : z_may nu V pn (V p) (k + 1) = true
      · rw [if_pos hc] at e
        simp (disch := omega) only [f_X12_lastFree_3, kd_80, e, gd_t, gd_pos, lt_eq, Option.bind_some, true_and, and_true, not_true, not_false_iff, false_or, or_false, if_true, if_false, if_pos, if_neg, zl_0, zl_1, zl_2, zl_3, zl_4, zl_5, zl_6, zl_7, zl_8, zl_9, zl_10, zl_12, zl_14, zl_16, zl_20, zl_21, zl_28, zl_30, zl_32, zl_37, zl_40, zl_60, zl_64, zl_99, zl_100, zl_680, zl_700, zl_999, zl_9999, zl_10000, zl_20000, zl_20001, zl_20002, zl_20003, zl_20004, zl_20005, zl_20006, zl_20007, zl_ofNat, nI_add, pk_mul, nI_leI, nI_ltI, nI_eq, nI_clamp, mx_nI, mn_nI, pk_sub, zz_m1, z_lf, hc]
      · rw [if_neg hc] at e
        have e3 := ih n (by omega) (by omega)
        simp (disch := omega) only [f_X12_lastFree_3, kd_80, e, gd_t, gd_pos, lt_eq, Option.bind_some, true_and, and_true, not_true, not_false_iff, false_or, or_false, if_true, if_false, if_pos, if_neg, zl_0, zl_1, zl_2, zl_3, zl_4, zl_5, zl_6, zl_7, zl_8, zl_9, zl_10, zl_12, zl_14, zl_16, zl_20, zl_21, zl_28, zl_30, zl_32, zl_37, zl_40, zl_60, zl_64, zl_99, zl_100, zl_680, zl_700, zl_999, zl_9999, zl_10000, zl_20000, zl_20001, zl_20002, zl_20003, zl_20004, zl_20005, zl_20006, zl_20007, zl_ofNat, nI_add, pk_mul, nI_leI, nI_ltI, nI_eq, nI_clamp, mx_nI, mn_nI, pk_sub, zz_m1, Nat.add_sub_cancel, e3, z_lf, hc, Bool.false_eq_true]
  exact key 30 N (by omega) (by omega)
theorem m_allDone (hN : 5000 ≤ N) (hR : sR R q) (hso : z_sok S) (hS : zMS S I) (hV : zMV nu V I) (h7 : nu ≤ 7) (ho : ∀ p, p < nu → z_pok S (V p)) : f_X12_allDone N R 80 I = some (nI (z_ald S nu V), I) := by
  have hn := hV.1
  exact zu_loop (fun n i a => f_X12_allDone_4 N R n 80 a (nI i) I) (fun i => nI (z_ald S i V)) (nI (z_ald S nu V), I) nu
    (fun n => by simp (disch := omega) only [f_X12_allDone_4, kd_80, r80_4 hR, kd_84, hn, gd_t, gd_pos, lt_eq, Option.bind_some, true_and, and_true, not_true, not_false_iff, false_or, or_false, if_true, if_false, if_pos, if_neg, zl_0, zl_1, nI_leI, nI_ltI, nI_clamp])
    (fun n i hi => by
      have e := m_isDone (N := N) hR hso hS hV h7 hi (ho i hi)
      by_cases hc : V i 3 < z_bn S (V i 2)
      · rw [if_pos hc] at e
        have e2 : z_ald S (i + 1) V = z_ald S i V := zbt_f (fun h => of_decide_eq_true h hc)
        simp (disch := omega) only [f_X12_allDone_4, kd_80, r80_4 hR, kd_84, hn, e, e2, gd_t, gd_pos, lt_eq, Option.bind_some, true_and, and_true, not_true, not_false_iff, false_or, or_false, if_true, if_false, if_pos, if_neg, zl_0, zl_1, zl_2, zl_3, zl_4, zl_5, zl_6, zl_7, zl_8, zl_9, zl_10, zl_12, zl_14, zl_16, zl_20, zl_21, zl_28, zl_30, zl_32, zl_37, zl_40, zl_60, zl_64, zl_99, zl_100, zl_680, zl_700, zl_999, zl_9999, zl_10000, zl_20000, zl_20001, zl_20002, zl_20003, zl_20004, zl_20005, zl_20006, zl_20007, zl_ofNat, nI_add, pk_mul, nI_leI, nI_ltI, nI_eq, nI_clamp, mx_nI, mn_nI, pk_sub, zz_m1, zb_or, Nat.or_zero]
      · rw [if_neg hc] at e
        have e2 : z_ald S (i + 1) V = z_ald S i V ||| 2 ^ i := zbt_t (decide_eq_true hc)
        simp (disch := omega) only [f_X12_allDone_4, kd_80, r80_4 hR, kd_84, hn, e, e2, gd_t, gd_pos, lt_eq, Option.bind_some, true_and, and_true, not_true, not_false_iff, false_or, or_false, if_true, if_false, if_pos, if_neg, zl_0, zl_1, zl_2, zl_3, zl_4, zl_5, zl_6, zl_7, zl_8, zl_9, zl_10, zl_12, zl_14, zl_16, zl_20, zl_21, zl_28, zl_30, zl_32, zl_37, zl_40, zl_60, zl_64, zl_99, zl_100, zl_680, zl_700, zl_999, zl_9999, zl_10000, zl_20000, zl_20001, zl_20002, zl_20003, zl_20004, zl_20005, zl_20006, zl_20007, zl_ofNat, nI_add, pk_mul, nI_leI, nI_ltI, nI_eq, nI_clamp, mx_nI, mn_nI, pk_sub, zz_m1, zb_shl, zb_or]) nu 0 N (by omega) (by omega)
theorem m_allSkill (hN : 5000 ≤ N) (hR : sR R q) (hV : zMV nu V I) (h7 : nu ≤ 7) : f_X12_allSkill N R 80 I = some (nI (zsm (fun p => V p 0) nu), I) := by
  have hn := hV.1
  exact zu_loop (fun n i a => f_X12_allSkill_4 N R n 80 a (nI i) I) (fun i => nI (zsm (fun p => V p 0) i)) (nI (zsm (fun p => V p 0) nu), I) nu
    (fun n => by simp (disch := omega) only [f_X12_allSkill_4, kd_80, r80_4 hR, kd_84, hn, gd_t, gd_pos, lt_eq, Option.bind_some, true_and, and_true, not_true, not_false_iff, false_or, or_false, if_true, if_false, if_pos, if_neg, zl_0, zl_1, nI_leI, nI_ltI, nI_clamp])
    (fun n i hi => by
      have v0 := (hV.2 i hi).1
      have e2 : zsm (fun p => V p 0) (i + 1) = zsm (fun p => V p 0) i + V i 0 := rfl
      simp (disch := omega) only [f_X12_allSkill_4, kd_80, r80_4 hR, kd_84, r80_25 hR, kd_95, hn, v0, e2, gd_t, gd_pos, lt_eq, Option.bind_some, true_and, and_true, not_true, not_false_iff, false_or, or_false, if_true, if_false, if_pos, if_neg, zl_0, zl_1, zl_2, zl_3, zl_4, zl_5, zl_6, zl_7, zl_8, zl_9, zl_10, zl_12, zl_14, zl_16, zl_20, zl_21, zl_28, zl_30, zl_32, zl_37, zl_40, zl_60, zl_64, zl_99, zl_100, zl_680, zl_700, zl_999, zl_9999, zl_10000, zl_20000, zl_20001, zl_20002, zl_20003, zl_20004, zl_20005, zl_20006, zl_20007, zl_ofNat, nI_add, pk_mul, nI_leI, nI_ltI, nI_eq, nI_clamp, mx_nI, mn_nI, pk_sub, zz_m1]) nu 0 N (by omega) (by omega)
theorem m_allBars (hN : 5000 ≤ N) (hR : sR R q) (hV : zMV nu V I) (h7 : nu ≤ 7) : f_X12_allBars N R 80 I = some (nI (zsm (fun p => V p 3) nu), I) := by
  have hn := hV.1
  exact zu_loop (fun n i a => f_X12_allBars_4 N R n 80 a (nI i) I) (fun i => nI (zsm (fun p => V p 3) i)) (nI (zsm (fun p => V p 3) nu), I) nu
    (fun n => by simp (disch := omega) only [f_X12_allBars_4, kd_80, r80_4 hR, kd_84, hn, gd_t, gd_pos, lt_eq, Option.bind_some, true_and, and_true, not_true, not_false_iff, false_or, or_false, if_true, if_false, if_pos, if_neg, zl_0, zl_1, nI_leI, nI_ltI, nI_clamp])
    (fun n i hi => by
      have v0 := (hV.2 i hi).2.2.2.1
      have e2 : zsm (fun p => V p 3) (i + 1) = zsm (fun p => V p 3) i + V i 3 := rfl
      simp (disch := omega) only [f_X12_allBars_4, kd_80, r80_4 hR, kd_84, r80_28 hR, kd_98, hn, v0, e2, gd_t, gd_pos, lt_eq, Option.bind_some, true_and, and_true, not_true, not_false_iff, false_or, or_false, if_true, if_false, if_pos, if_neg, zl_0, zl_1, zl_2, zl_3, zl_4, zl_5, zl_6, zl_7, zl_8, zl_9, zl_10, zl_12, zl_14, zl_16, zl_20, zl_21, zl_28, zl_30, zl_32, zl_37, zl_40, zl_60, zl_64, zl_99, zl_100, zl_680, zl_700, zl_999, zl_9999, zl_10000, zl_20000, zl_20001, zl_20002, zl_20003, zl_20004, zl_20005, zl_20006, zl_20007, zl_ofNat, nI_add, pk_mul, nI_leI, nI_ltI, nI_eq, nI_clamp, mx_nI, mn_nI, pk_sub, zz_m1]) nu 0 N (by omega) (by omega)
theorem m_fitOf (hN : 5000 ≤ N) (hR : sR R q) (hso : z_sok S) (hS : zMS S I) (hV : zMV nu V I) (h7 : nu ≤ 7) (hp : p < nu) (ho : V p 0 ≤ 99) {w : Nat} (hw : w < z_np S) : f_X12_fitOf N R 80 (nI p) (nI w) I = some (nI (z_ft S w (V p 0) (z_bn S w) 0), I) := by
  have h6 := hso.1
  have hb := (hS.2.1 _ hw).1
  have h8 := (hso.2.1 _ hw).2.1
  have v0 := (hV.2 p hp).1
  have key : ∀ d b n, b + d = z_bn S w → d < n → f_X12_fitOf_2 N R n 80 (nI p) (nI w) (nI b) I = some (nI (z_ft S w (V p 0) d b), I) := by
    intro d
    induction d with
    | zero =>
      intro b n h1 h2
      obtain ⟨n, rfl⟩ : ∃ m, n = m + 1 := ⟨n - 1, by omega⟩
      simp (disch := omega) only [f_X12_fitOf_2, kd_80, r80_6 hR, kd_86, hb, gd_t, gd_pos, lt_eq, Option.bind_some, true_and, and_true, not_true, not_false_iff, false_or, or_false, if_true, if_false, if_pos, if_neg, zl_0, zl_1, zl_2, zl_3, zl_4, zl_5, zl_6, zl_7, zl_8, zl_9, zl_10, zl_12, zl_14, zl_16, zl_20, zl_21, zl_28, zl_30, zl_32, zl_37, zl_40, zl_60, zl_64, zl_99, zl_100, zl_680, zl_700, zl_999, zl_9999, zl_10000, zl_20000, zl_20001, zl_20002, zl_20003, zl_20004, zl_20005, zl_20006, zl_20007, zl_ofNat, nI_add, pk_mul, nI_leI, nI_ltI, nI_eq, nI_clamp, mx_nI, mn_nI, pk_sub, zz_m1, z_ft]
    | succ d ih =>
      intro b n h1 h2
      obtain ⟨n, rfl⟩ : ∃ m, n = m + 1 := ⟨n - 1, by omega⟩
      have e := m_hardOf (N := N) hR hso hS hw (i := b) (by omega)
      have h99 := (hso.2.1 _ hw).2.2.2 b (by omega)
      by_cases hc : z_hd S w b ≤ V p 0
      · have e3 := ih (b + 1) n (by omega) (by omega)
        simp (disch := omega) only [f_X12_fitOf_2, kd_80, r80_6 hR, kd_86, r80_25 hR, kd_95, hb, v0, e, e3, gd_t, gd_pos, lt_eq, Option.bind_some, true_and, and_true, not_true, not_false_iff, false_or, or_false, if_true, if_false, if_pos, if_neg, zl_0, zl_1, zl_2, zl_3, zl_4, zl_5, zl_6, zl_7, zl_8, zl_9, zl_10, zl_12, zl_14, zl_16, zl_20, zl_21, zl_28, zl_30, zl_32, zl_37, zl_40, zl_60, zl_64, zl_99, zl_100, zl_680, zl_700, zl_999, zl_9999, zl_10000, zl_20000, zl_20001, zl_20002, zl_20003, zl_20004, zl_20005, zl_20006, zl_20007, zl_ofNat, nI_add, pk_mul, nI_leI, nI_ltI, nI_eq, nI_clamp, mx_nI, mn_nI, pk_sub, zz_m1, z_ft]
      · simp (disch := omega) only [f_X12_fitOf_2, kd_80, r80_6 hR, kd_86, r80_25 hR, kd_95, hb, v0, e, gd_t, gd_pos, lt_eq, Option.bind_some, true_and, and_true, not_true, not_false_iff, false_or, or_false, if_true, if_false, if_pos, if_neg, zl_0, zl_1, zl_2, zl_3, zl_4, zl_5, zl_6, zl_7, zl_8, zl_9, zl_10, zl_12, zl_14, zl_16, zl_20, zl_21, zl_28, zl_30, zl_32, zl_37, zl_40, zl_60, zl_64, zl_99, zl_100, zl_680, zl_700, zl_999, zl_9999, zl_10000, zl_20000, zl_20001, zl_20002, zl_20003, zl_20004, zl_20005, zl_20006, zl_20007, zl_ofNat, nI_add, pk_mul, nI_leI, nI_ltI, nI_eq, nI_clamp, mx_nI, mn_nI, pk_sub, zz_m1, z_ft]
  exact key (z_bn S w) 0 N (by omega) (by omega)
theorem m_stepOf (hN : 5000 ≤ N) (hR : sR R q) (hso : z_sok S) (hS : zMS S I) {w : Nat} (hw : w < z_np S) : f_X12_stepOf N R 80 (nI w) I = some (z_step S w (z_bn S w - 1), I) := by
  have h6 := hso.1
  have hb := (hS.2.1 _ hw).1
  have h8 := (hso.2.1 _ hw).2.1
  have h1 := (hso.2.1 _ hw).1
  exact zu_loop (fun n i a => f_X12_stepOf_4 N R n 80 (nI w) a (nI (i + 1)) I) (fun i => z_step S w i) (z_step S w (z_bn S w - 1), I) (z_bn S w - 1)
    (fun n => by
      rw [show z_bn S w - 1 + 1 = z_bn S w by omega]
      simp (disch := omega) only [f_X12_stepOf_4, kd_80, r80_6 hR, kd_86, hb, gd_t, gd_pos, lt_eq, Option.bind_some, true_and, and_true, not_true, not_false_iff, false_or, or_false, if_true, if_false, if_pos, if_neg, zl_0, zl_1, zl_2, zl_3, zl_4, zl_5, zl_6, zl_7, zl_8, zl_9, zl_10, zl_12, zl_14, zl_16, zl_20, zl_21, zl_28, zl_30, zl_32, zl_37, zl_40, zl_60, zl_64, zl_99, zl_100, zl_680, zl_700, zl_999, zl_9999, zl_10000, zl_20000, zl_20001, zl_20002, zl_20003, zl_20004, zl_20005, zl_20006, zl_20007, zl_ofNat, nI_add, pk_mul, nI_leI, nI_ltI, nI_eq, nI_clamp, mx_nI, mn_nI, pk_sub, zz_m1])
    (fun n i hi => by
      have e := m_hardOf (N := N) hR hso hS hw (i := i + 1) (by omega)
      have e1 := m_hardOf (N := N) hR hso hS hw (i := i) (by omega)
      have e2 : z_step S w (i + 1) = sm_mx (z_step S w i) (nI (z_hd S w (i + 1)) - nI (z_hd S w i)) := rfl
      simp (disch := omega) only [f_X12_stepOf_4, kd_80, r80_6 hR, kd_86, hb, e, zl_0, zl_1, pk_sub, Nat.add_sub_cancel, e1, e2, gd_t, gd_pos, lt_eq, Option.bind_some, true_and, and_true, not_true, not_false_iff, false_or, or_false, if_true, if_false, if_pos, if_neg, nI_leI, nI_ltI, nI_clamp, nI_add]) (z_bn S w - 1) 0 N (by omega) (by omega)
/-- the hardest of the first bars -/
def z_hm (S : zS) (w : Nat) : Nat → Nat
  | 0 => 0
  | n + 1 => max (z_hm S w n) (z_hd S w n)
theorem z_hm_le {S : zS} (hso : z_sok S) {w : Nat} (hw : w < z_np S) : ∀ n, n ≤ z_bn S w → z_hm S w n ≤ 99
  | 0, _ => Nat.zero_le _
  | n + 1, h => by
    have h1 := z_hm_le hso hw n (by omega)
    have h2 := ((hso.2.1 _ hw).2.2.2 n (by omega)).2
    unfold z_hm
    omega
theorem m_hardestOf (hN : 5000 ≤ N) (hR : sR R q) (hso : z_sok S) (hS : zMS S I) {w : Nat} (hw : w < z_np S) : f_X12_hardestOf N R 80 (nI w) I = some (nI (z_hm S w (z_bn S w)), I) := by
  have h6 := hso.1
  have hb := (hS.2.1 _ hw).1
  have h8 := (hso.2.1 _ hw).2.1
  exact zu_loop (fun n i a => f_X12_hardestOf_4 N R n 80 (nI w) a (nI i) I) (fun i => nI (z_hm S w i)) (nI (z_hm S w (z_bn S w)), I) (z_bn S w)
    (fun n => by simp (disch := omega) only [f_X12_hardestOf_4, kd_80, r80_6 hR, kd_86, hb, gd_t, gd_pos, lt_eq, Option.bind_some, true_and, and_true, not_true, not_false_iff, false_or, or_false, if_true, if_false, if_pos, if_neg, zl_0, zl_1, zl_2, zl_3, zl_4, zl_5, zl_6, zl_7, zl_8, zl_9, zl_10, zl_12, zl_14, zl_16, zl_20, zl_21, zl_28, zl_30, zl_32, zl_37, zl_40, zl_60, zl_64, zl_99, zl_100, zl_680, zl_700, zl_999, zl_9999, zl_10000, zl_20000, zl_20001, zl_20002, zl_20003, zl_20004, zl_20005, zl_20006, zl_20007, zl_ofNat, nI_add, pk_mul, nI_leI, nI_ltI, nI_eq, nI_clamp, mx_nI, mn_nI, pk_sub, zz_m1])
    (fun n i hi => by
      have e := m_hardOf (N := N) hR hso hS hw (i := i) hi
      have hh := ((hso.2.1 _ hw).2.2.2 i hi).2
      have hm := z_hm_le hso hw i (by omega)
      have e2 : z_hm S w (i + 1) = max (z_hm S w i) (z_hd S w i) := rfl
      simp (disch := omega) only [f_X12_hardestOf_4, kd_80, r80_6 hR, kd_86, hb, e, e2, gd_t, gd_pos, lt_eq, Option.bind_some, true_and, and_true, not_true, not_false_iff, false_or, or_false, if_true, if_false, if_pos, if_neg, zl_0, zl_1, zl_2, zl_3, zl_4, zl_5, zl_6, zl_7, zl_8, zl_9, zl_10, zl_12, zl_14, zl_16, zl_20, zl_21, zl_28, zl_30, zl_32, zl_37, zl_40, zl_60, zl_64, zl_99, zl_100, zl_680, zl_700, zl_999, zl_9999, zl_10000, zl_20000, zl_20001, zl_20002, zl_20003, zl_20004, zl_20005, zl_20006, zl_20007, zl_ofNat, nI_add, pk_mul, nI_leI, nI_ltI, nI_eq, nI_clamp, mx_nI, mn_nI, pk_sub, zz_m1]) (z_bn S w) 0 N (by omega) (by omega)
theorem m_fail (k : Int32) : f_X12_fail N R 80 k I = some (0, sm_up I 80 (sm_up (I 80) 3 k)) := by
  simp (disch := omega) only [f_X12_fail, kd_80, gd_t, gd_pos, lt_eq, Option.bind_some, true_and, and_true, not_true, not_false_iff, false_or, or_false, if_true, if_false, if_pos, if_neg]
theorem m_refuse (hR : sR R q) {j : Nat} (hj : j < 3) : f_X12_refuse N R 80 (nI j) I = some (-1, sm_up I 93 (sm_up (I 93) j (I 93 j + 1))) := by
  simp (disch := omega) only [f_X12_refuse, kd_80, r80_13 hR, kd_93, zl_0, nI_ltI, nI_leI, nI_clamp, gd_t, gd_pos, lt_eq, Option.bind_some, true_and, and_true, not_true, not_false_iff, false_or, or_false, if_true, if_false, if_pos, if_neg]
end ZM
