/-! ===== PURE PART: the class, one pupil ===== -/
def zCS (S : zS) (q : Nat) (I : Nat → Nat → Int32) : Prop :=
  I q 3 = nI (z_np S) ∧ (∀ w, w < z_np S → I (q + 1) w = nI (z_bn S w) ∧ I (q + 2) w = nI (z_st S w) ∧ ∀ i, i < z_bn S w → I (q + 3) (8 * w + i) = nI (z_hd S w i)) ∧
  (z_rl S = none → I (q + 4) 2 = 0) ∧ ∀ r, z_rl S = some r → I (q + 4) 2 = 1 ∧ I (q + 4) 1 = nI r.1 ∧ ∀ i, i < r.1 → I (q + 5) i = nI (r.2 i)
def zPl (pl : zP) (f : Nat → Int32) : Prop := ∀ j, j < 6 → f j = nI (pl j)
theorem zPl_up {pl : zP} {f : Nat → Int32} (h : zPl pl f) (k v : Nat) : zPl (sm_up pl k v) (sm_up f k (nI v)) := fun j hj => by
  by_cases e : j = k
  · subst e
    rw [up_s, up_s]
  · rw [up_n f _ e, up_n pl _ e]
    exact h j hj
theorem zCS_fr {S : zS} {q : Nat} {I J : Nat → Nat → Int32} (h : zCS S q I) (hf : ∀ c, q ≤ c → c ≤ q + 5 → J c = I c) : zCS S q J := by
  unfold zCS at h ⊢
  rw [hf q (by omega) (by omega), hf (q + 1) (by omega) (by omega), hf (q + 2) (by omega) (by omega), hf (q + 3) (by omega) (by omega), hf (q + 4) (by omega) (by omega), hf (q + 5) (by omega) (by omega)]
  exact h
theorem qR_ne {R : Nat → Nat → Nat} {q k : Nat} (hq : qR R q) (hk : sm_kd k = (4, 6)) : k ≠ q ∧ k ≠ q + 1 ∧ k ≠ q + 2 ∧ k ≠ q + 3 ∧ k ≠ q + 4 ∧ k ≠ q + 5 ∧ k ≠ q + 6 ∧ k ≠ q + 16 ∧ k ≠ q + 17 ∧ k ≠ q + 18 := by
  obtain ⟨⟨k0, k1, k2, k3, k4, k5, k6, k16, k17, k18⟩, ⟨r0, r1, r2, r4, r5, r6, r7, r8, s0, s3⟩, ht⟩ := hq
  refine ⟨?_, ?_, ?_, ?_, ?_, ?_, ?_, ?_, ?_, ?_⟩ <;> intro e <;> subst e <;> simp_all
theorem zCS_k {S : zS} {R : Nat → Nat → Nat} {q k : Nat} {I J : Nat → Nat → Int32} (hq : qR R q) (hk : sm_kd k = (4, 6)) (h : zCS S q I) (hf : zfr [k, q + 6, q + 16] I J) : zCS S q J := by
  have hn := qR_ne hq hk
  refine zCS_fr h (fun c h1 h2 => hf c ?_)
  simp only [List.mem_cons, List.not_mem_nil, or_false]
  omega
section ZC
variable {N : Nat} {R : Nat → Nat → Nat} {q k : Nat} {S : zS} {I : Nat → Nat → Int32} {pl : zP}
theorem c_barsOf (hq : qR R q) (hso : z_sok S) (hS : zCS S q I) {w : Nat} (hw : w < z_np S) : f_X7_barsOf N R q (nI w) I = some (nI (z_bn S w), I) := by
  obtain ⟨⟨k0, k1, k2, k3, k4, k5, k6, k16, k17, k18⟩, ⟨r0, r1, r2, r4, r5, r6, r7, r8, s0, s3⟩, ht⟩ := hq
  obtain ⟨c1, c2, c3, c4⟩ := hS
  have h6 := hso.1
  have h1 := (c2 w hw).1
  simp (disch := omega) only [f_X7_barsOf, k0, k1, k2, k3, k4, k5, k6, k16, k17, k18, r0, r1, r2, r4, r5, r6, r7, r8, s0, s3, c1, h1, gd_t, gd_pos, lt_eq, Option.bind_some, true_and, and_true, not_true, not_false_iff, false_or, or_false, if_true, if_false, if_pos, if_neg, up_s, up_n, up_uu, zl_0, zl_1, zl_2, zl_3, zl_4, zl_5, zl_6, zl_7, zl_8, zl_9, zl_10, zl_12, zl_14, zl_16, zl_20, zl_21, zl_28, zl_30, zl_32, zl_37, zl_40, zl_60, zl_64, zl_99, zl_100, zl_680, zl_700, zl_999, zl_9999, zl_10000, zl_20000, zl_20001, zl_20002, zl_20003, zl_20004, zl_20005, zl_20006, zl_20007, zl_ofNat, nI_add, pk_mul, nI_leI, nI_ltI, nI_eq, nI_clamp, mx_nI, mn_nI, pk_sub, zz_m1]
theorem c_hardOf (hq : qR R q) (hso : z_sok S) (hS : zCS S q I) {w i : Nat} (hw : w < z_np S) (hi : i ≤ 8) : f_X7_hardOf N R q (nI w) (nI i) I = some (nI (if i < z_bn S w then z_hd S w i else 0), I) := by
  obtain ⟨⟨k0, k1, k2, k3, k4, k5, k6, k16, k17, k18⟩, ⟨r0, r1, r2, r4, r5, r6, r7, r8, s0, s3⟩, ht⟩ := hq
  obtain ⟨c1, c2, c3, c4⟩ := hS
  have h6 := hso.1
  obtain ⟨h1, -, h2⟩ := c2 w hw
  have h8 := (hso.2.1 w hw).2.1
  by_cases hc : i < z_bn S w
  · have h3 := h2 i hc
    have e : w * 8 + i = 8 * w + i := by omega
    simp (disch := omega) only [f_X7_hardOf, k0, k1, k2, k3, k4, k5, k6, k16, k17, k18, r0, r1, r2, r4, r5, r6, r7, r8, s0, s3, c1, h1, gd_t, gd_pos, lt_eq, Option.bind_some, true_and, and_true, not_true, not_false_iff, false_or, or_false, if_true, if_false, if_pos, if_neg, up_s, up_n, up_uu, zl_0, zl_1, zl_2, zl_3, zl_4, zl_5, zl_6, zl_7, zl_8, zl_9, zl_10, zl_12, zl_14, zl_16, zl_20, zl_21, zl_28, zl_30, zl_32, zl_37, zl_40, zl_60, zl_64, zl_99, zl_100, zl_680, zl_700, zl_999, zl_9999, zl_10000, zl_20000, zl_20001, zl_20002, zl_20003, zl_20004, zl_20005, zl_20006, zl_20007, zl_ofNat, nI_add, pk_mul, nI_leI, nI_ltI, nI_eq, nI_clamp, mx_nI, mn_nI, pk_sub, zz_m1, e, h3]
  · simp (disch := omega) only [f_X7_hardOf, k0, k1, k2, k3, k4, k5, k6, k16, k17, k18, r0, r1, r2, r4, r5, r6, r7, r8, s0, s3, c1, h1, gd_t, gd_pos, lt_eq, Option.bind_some, true_and, and_true, not_true, not_false_iff, false_or, or_false, if_true, if_false, if_pos, if_neg, up_s, up_n, up_uu, zl_0, zl_1, zl_2, zl_3, zl_4, zl_5, zl_6, zl_7, zl_8, zl_9, zl_10, zl_12, zl_14, zl_16, zl_20, zl_21, zl_28, zl_30, zl_32, zl_37, zl_40, zl_60, zl_64, zl_99, zl_100, zl_680, zl_700, zl_999, zl_9999, zl_10000, zl_20000, zl_20001, zl_20002, zl_20003, zl_20004, zl_20005, zl_20006, zl_20007, zl_ofNat, nI_add, pk_mul, nI_leI, nI_ltI, nI_eq, nI_clamp, mx_nI, mn_nI, pk_sub, zz_m1]
theorem c_isStudy (hq : qR R q) (hso : z_sok S) (hS : zCS S q I) {w : Nat} (hw : w < z_np S) : f_X7_isStudy N R q (nI w) I = some ((if z_st S w = 1 then 1 else 0), I) := by
  obtain ⟨⟨k0, k1, k2, k3, k4, k5, k6, k16, k17, k18⟩, ⟨r0, r1, r2, r4, r5, r6, r7, r8, s0, s3⟩, ht⟩ := hq
  obtain ⟨c1, c2, c3, c4⟩ := hS
  have h6 := hso.1
  obtain ⟨-, h1, -⟩ := c2 w hw
  have h8 := (hso.2.1 w hw).2.2.1
  by_cases hc : z_st S w = 1
  · simp (disch := omega) only [f_X7_isStudy, k0, k1, k2, k3, k4, k5, k6, k16, k17, k18, r0, r1, r2, r4, r5, r6, r7, r8, s0, s3, c1, h1, gd_t, gd_pos, lt_eq, Option.bind_some, true_and, and_true, not_true, not_false_iff, false_or, or_false, if_true, if_false, if_pos, if_neg, up_s, up_n, up_uu, zl_0, zl_1, zl_2, zl_3, zl_4, zl_5, zl_6, zl_7, zl_8, zl_9, zl_10, zl_12, zl_14, zl_16, zl_20, zl_21, zl_28, zl_30, zl_32, zl_37, zl_40, zl_60, zl_64, zl_99, zl_100, zl_680, zl_700, zl_999, zl_9999, zl_10000, zl_20000, zl_20001, zl_20002, zl_20003, zl_20004, zl_20005, zl_20006, zl_20007, zl_ofNat, nI_add, pk_mul, nI_leI, nI_ltI, nI_eq, nI_clamp, mx_nI, mn_nI, pk_sub, zz_m1]
  · simp (disch := omega) only [f_X7_isStudy, k0, k1, k2, k3, k4, k5, k6, k16, k17, k18, r0, r1, r2, r4, r5, r6, r7, r8, s0, s3, c1, h1, gd_t, gd_pos, lt_eq, Option.bind_some, true_and, and_true, not_true, not_false_iff, false_or, or_false, if_true, if_false, if_pos, if_neg, up_s, up_n, up_uu, zl_0, zl_1, zl_2, zl_3, zl_4, zl_5, zl_6, zl_7, zl_8, zl_9, zl_10, zl_12, zl_14, zl_16, zl_20, zl_21, zl_28, zl_30, zl_32, zl_37, zl_40, zl_60, zl_64, zl_99, zl_100, zl_680, zl_700, zl_999, zl_9999, zl_10000, zl_20000, zl_20001, zl_20002, zl_20003, zl_20004, zl_20005, zl_20006, zl_20007, zl_ofNat, nI_add, pk_mul, nI_leI, nI_ltI, nI_eq, nI_clamp, mx_nI, mn_nI, pk_sub, zz_m1]
theorem c_isDone (hq : qR R q) (hso : z_sok S) (hS : zCS S q I) (hk : sm_kd k = (4, 6)) (hp : zPl pl (I k)) (ho : z_pok S pl) : f_X7_isDone N R q k I = some ((if pl 3 < z_bn S (pl 2) then 0 else 1), I) := by
  have k0 := hq.1.1
  have h2 := hp 2 (by omega)
  have h3 := hp 3 (by omega)
  have e := c_barsOf (N := N) hq hso hS ho.2.2.1
  have h8 := (hso.2.1 _ ho.2.2.1).2.1
  have h9 := ho.2.2.2.1
  by_cases hc : pl 3 < z_bn S (pl 2)
  · simp (disch := omega) only [f_X7_isDone, hk, k0, h2, h3, e, gd_t, gd_pos, lt_eq, Option.bind_some, true_and, and_true, not_true, not_false_iff, false_or, or_false, if_true, if_false, if_pos, if_neg, up_s, up_n, up_uu, zl_0, zl_1, zl_2, zl_3, zl_4, zl_5, zl_6, zl_7, zl_8, zl_9, zl_10, zl_12, zl_14, zl_16, zl_20, zl_21, zl_28, zl_30, zl_32, zl_37, zl_40, zl_60, zl_64, zl_99, zl_100, zl_680, zl_700, zl_999, zl_9999, zl_10000, zl_20000, zl_20001, zl_20002, zl_20003, zl_20004, zl_20005, zl_20006, zl_20007, zl_ofNat, nI_add, pk_mul, nI_leI, nI_ltI, nI_eq, nI_clamp, mx_nI, mn_nI, pk_sub, zz_m1]
  · simp (disch := omega) only [f_X7_isDone, hk, k0, h2, h3, e, gd_t, gd_pos, lt_eq, Option.bind_some, true_and, and_true, not_true, not_false_iff, false_or, or_false, if_true, if_false, if_pos, if_neg, up_s, up_n, up_uu, zl_0, zl_1, zl_2, zl_3, zl_4, zl_5, zl_6, zl_7, zl_8, zl_9, zl_10, zl_12, zl_14, zl_16, zl_20, zl_21, zl_28, zl_30, zl_32, zl_37, zl_40, zl_60, zl_64, zl_99, zl_100, zl_680, zl_700, zl_999, zl_9999, zl_10000, zl_20000, zl_20001, zl_20002, zl_20003, zl_20004, zl_20005, zl_20006, zl_20007, zl_ofNat, nI_add, pk_mul, nI_leI, nI_ltI, nI_eq, nI_clamp, mx_nI, mn_nI, pk_sub, zz_m1]
theorem c_nextHard (hq : qR R q) (hso : z_sok S) (hS : zCS S q I) (hk : sm_kd k = (4, 6)) (hp : zPl pl (I k)) (ho : z_pok S pl) : f_X7_nextHard N R q k I = some (nI (z_nh S pl), I) := by
  have k0 := hq.1.1
  have h2 := hp 2 (by omega)
  have h3 := hp 3 (by omega)
  have h8 := (hso.2.1 _ ho.2.2.1).2.1
  have h9 := ho.2.2.2.1
  have e := c_hardOf (N := N) hq hso hS ho.2.2.1 (i := pl 3) (by omega)
  unfold z_nh
  simp (disch := omega) only [f_X7_nextHard, hk, k0, h2, h3, e, gd_t, gd_pos, lt_eq, Option.bind_some, true_and, and_true, not_true, not_false_iff, false_or, or_false, if_true, if_false, if_pos, if_neg, up_s, up_n, up_uu, zl_0, zl_1, zl_2, zl_3, zl_4, zl_5, zl_6, zl_7, zl_8, zl_9, zl_10, zl_12, zl_14, zl_16, zl_20, zl_21, zl_28, zl_30, zl_32, zl_37, zl_40, zl_60, zl_64, zl_99, zl_100, zl_680, zl_700, zl_999, zl_9999, zl_10000, zl_20000, zl_20001, zl_20002, zl_20003, zl_20004, zl_20005, zl_20006, zl_20007, zl_ofNat, nI_add, pk_mul, nI_leI, nI_ltI, nI_eq, nI_clamp, mx_nI, mn_nI, pk_sub, zz_m1]
end ZC
