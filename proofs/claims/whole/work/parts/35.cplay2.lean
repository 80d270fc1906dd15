/-! ===== PURE PART: the class, one pupil: the rule, to practise, a lesson, weeks, the door ===== -/
section ZC
variable {N : Nat} {R : Nat → Nat → Nat} {q k : Nat} {S : zS} {I : Nat → Nat → Int32} {pl : zP}
theorem c_ofTwo {c : Nat} (h1 : 20000 ≤ c) (h2 : c ≤ 20008) (h3 : c ≠ 20002) (a b : Int32) : f_X6_ofTwo N R (nI c) a b I = some (z_op c a b, I) := by
  have hc : c = 20000 ∨ c = 20001 ∨ c = 20003 ∨ c = 20004 ∨ c = 20005 ∨ c = 20006 ∨ c = 20007 ∨ c = 20008 := by omega
  rcases hc with rfl | rfl | rfl | rfl | rfl | rfl | rfl | rfl
  · show f_X6_ofTwo N R 20000 a b I = some ((if a = 0 then (if b = 0 then 0 else 1) else 1), I)
    by_cases ha : a = 0 <;> by_cases hb : b = 0 <;> simp [f_X6_ofTwo, sm_gd, ha, hb]
  · show f_X6_ofTwo N R 20001 a b I = some ((if a = 0 then 0 else if b = 0 then 0 else 1), I)
    by_cases ha : a = 0 <;> by_cases hb : b = 0 <;> simp [f_X6_ofTwo, sm_gd, ha, hb]
  · show f_X6_ofTwo N R 20003 a b I = some ((if b ≤ a then 0 else 1), I)
    by_cases ha : b ≤ a <;> simp [f_X6_ofTwo, sm_gd, ha]
  · show f_X6_ofTwo N R 20004 a b I = some ((if a = b then 1 else 0), I)
    by_cases ha : a = b <;> simp [f_X6_ofTwo, sm_gd, ha]
  · rfl
  · rfl
  · rfl
  · show f_X6_ofTwo N R 20008 a b I = some ((if b = 0 then 0 else a / b), I)
    by_cases hb : b = 0 <;> simp [f_X6_ofTwo, sm_gd, hb]
set_option maxHeartbeats 4000000 in
theorem c_value_4 (hq : qR R q) {m : Nat} {cd : Nat → Nat} (hs : I (q + 4) 1 = nI m) (hm : m ≤ 700) (hc : ∀ i, i < m → I (q + 5) i = nI (cd i)) : ∀ (d i h : Nat) (f : Nat → Int32) (n : Nat), i + d = m → d < n → z_ok cd d i h → h ≤ 64 → ∃ g, f_X6_value_4 N R n (q + 4) (q + 16) (nI h) (nI i) (sm_up I (q + 6) f) = some (z_ev (I (q + 16)) cd d i h f, sm_up I (q + 6) g)
  | 0, i, h, f, n + 1, e, _, ho, _ => by
    obtain ⟨⟨k0, k1, k2, k3, k4, k5, k6, k16, k17, k18⟩, ⟨r0, r1, r2, r4, r5, r6, r7, r8, s0, s3⟩, ht⟩ := hq
    obtain rfl : h = 1 := ho
    obtain rfl : i = m := by omega
    refine ⟨f, ?_⟩
    simp (disch := omega) only [f_X6_value_4, z_ev, k4, s0, s3, k5, k6, gd_t, gd_pos, lt_eq, Option.bind_some, true_and, and_true, not_true, not_false_iff, false_or, or_false, if_true, if_false, if_pos, if_neg, up_s, up_n, up_uu, hs, zl_0, zl_1, zl_2, zl_3, zl_4, zl_5, zl_6, zl_7, zl_8, zl_9, zl_10, zl_12, zl_14, zl_16, zl_20, zl_21, zl_28, zl_30, zl_32, zl_37, zl_40, zl_60, zl_64, zl_99, zl_100, zl_680, zl_700, zl_999, zl_9999, zl_10000, zl_20000, zl_20001, zl_20002, zl_20003, zl_20004, zl_20005, zl_20006, zl_20007, zl_ofNat, nI_add, pk_mul, nI_leI, nI_ltI, nI_eq, nI_clamp, mx_nI, mn_nI, pk_sub, zz_m1]
  | d + 1, i, h, f, n + 1, e, hn, ho, h64 => by
    obtain ⟨⟨k0, k1, k2, k3, k4, k5, k6, k16, k17, k18⟩, ⟨r0, r1, r2, r4, r5, r6, r7, r8, s0, s3⟩, ht⟩ := id hq
    have hci := hc i (by omega)
    obtain ⟨o1, o2, o3⟩ := ho
    by_cases c1 : cd i < 20000
    · obtain ⟨a1, a2, a3⟩ := o1 c1
      by_cases c2 : cd i < 10000
      · obtain ⟨g, hg⟩ := c_value_4 hq hs hm hc d (i + 1) (h + 1) (sm_up f h (nI (cd i))) n (by omega) (by omega) a3 (by omega)
        refine ⟨g, ?_⟩
        simp (disch := omega) only [f_X6_value_4, z_ev, k4, s0, s3, k5, k6, gd_t, gd_pos, lt_eq, Option.bind_some, true_and, and_true, not_true, not_false_iff, false_or, or_false, if_true, if_false, if_pos, if_neg, up_s, up_n, up_uu, hs, hci, zl_0, zl_1, zl_2, zl_3, zl_4, zl_5, zl_6, zl_7, zl_8, zl_9, zl_10, zl_12, zl_14, zl_16, zl_20, zl_21, zl_28, zl_30, zl_32, zl_37, zl_40, zl_60, zl_64, zl_99, zl_100, zl_680, zl_700, zl_999, zl_9999, zl_10000, zl_20000, zl_20001, zl_20002, zl_20003, zl_20004, zl_20005, zl_20006, zl_20007, zl_ofNat, nI_add, pk_mul, nI_leI, nI_ltI, nI_eq, nI_clamp, mx_nI, mn_nI, pk_sub, zz_m1, hg]
      · obtain ⟨g, hg⟩ := c_value_4 hq hs hm hc d (i + 1) (h + 1) (sm_up f h (I (q + 16) (cd i - 10000))) n (by omega) (by omega) a3 (by omega)
        refine ⟨g, ?_⟩
        simp (disch := omega) only [f_X6_value_4, z_ev, k4, s0, s3, k5, k6, k16, gd_t, gd_pos, lt_eq, Option.bind_some, true_and, and_true, not_true, not_false_iff, false_or, or_false, if_true, if_false, if_pos, if_neg, up_s, up_n, up_uu, hs, hci, zl_0, zl_1, zl_2, zl_3, zl_4, zl_5, zl_6, zl_7, zl_8, zl_9, zl_10, zl_12, zl_14, zl_16, zl_20, zl_21, zl_28, zl_30, zl_32, zl_37, zl_40, zl_60, zl_64, zl_99, zl_100, zl_680, zl_700, zl_999, zl_9999, zl_10000, zl_20000, zl_20001, zl_20002, zl_20003, zl_20004, zl_20005, zl_20006, zl_20007, zl_ofNat, nI_add, pk_mul, nI_leI, nI_ltI, nI_eq, nI_clamp, mx_nI, mn_nI, pk_sub, zz_m1, hg]
    · by_cases c2 : cd i = 20002
      · obtain ⟨a1, a2⟩ := o2 c2
        by_cases hz : f (h - 1) = 0
        · obtain ⟨g, hg⟩ := c_value_4 hq hs hm hc d (i + 1) h (sm_up f (h - 1) (nI 1)) n (by omega) (by omega) a2 (by omega)
          refine ⟨g, ?_⟩
          rw [zl_0] at hz
          simp (disch := omega) only [f_X6_value_4, z_ev, k4, s0, s3, k5, k6, k16, gd_t, gd_pos, lt_eq, Option.bind_some, true_and, and_true, not_true, not_false_iff, false_or, or_false, if_true, if_false, if_pos, if_neg, up_s, up_n, up_uu, hs, hci, zl_0, zl_1, zl_2, zl_3, zl_4, zl_5, zl_6, zl_7, zl_8, zl_9, zl_10, zl_12, zl_14, zl_16, zl_20, zl_21, zl_28, zl_30, zl_32, zl_37, zl_40, zl_60, zl_64, zl_99, zl_100, zl_680, zl_700, zl_999, zl_9999, zl_10000, zl_20000, zl_20001, zl_20002, zl_20003, zl_20004, zl_20005, zl_20006, zl_20007, zl_ofNat, nI_add, pk_mul, nI_leI, nI_ltI, nI_eq, nI_clamp, mx_nI, mn_nI, pk_sub, zz_m1, c2, hz, hg]
        · obtain ⟨g, hg⟩ := c_value_4 hq hs hm hc d (i + 1) h (sm_up f (h - 1) (nI 0)) n (by omega) (by omega) a2 (by omega)
          refine ⟨g, ?_⟩
          rw [zl_0] at hz
          simp (disch := omega) only [f_X6_value_4, z_ev, k4, s0, s3, k5, k6, k16, gd_t, gd_pos, lt_eq, Option.bind_some, true_and, and_true, not_true, not_false_iff, false_or, or_false, if_true, if_false, if_pos, if_neg, up_s, up_n, up_uu, hs, hci, zl_0, zl_1, zl_2, zl_3, zl_4, zl_5, zl_6, zl_7, zl_8, zl_9, zl_10, zl_12, zl_14, zl_16, zl_20, zl_21, zl_28, zl_30, zl_32, zl_37, zl_40, zl_60, zl_64, zl_99, zl_100, zl_680, zl_700, zl_999, zl_9999, zl_10000, zl_20000, zl_20001, zl_20002, zl_20003, zl_20004, zl_20005, zl_20006, zl_20007, zl_ofNat, nI_add, pk_mul, nI_leI, nI_ltI, nI_eq, nI_clamp, mx_nI, mn_nI, pk_sub, zz_m1, c2, hz, if_false, hg]
      · obtain ⟨a1, a2, a3⟩ := o3 (by omega) c2
        obtain ⟨g, hg⟩ := c_value_4 hq hs hm hc d (i + 1) (h - 1) (sm_up f (h - 2) (z_op (cd i) (f (h - 2)) (f (h - 1)))) n (by omega) (by omega) a3 (by omega)
        refine ⟨g, ?_⟩
        have e2 : h - 1 - 1 = h - 2 := by omega
        have e3 := fun J a b => c_ofTwo (N := N) (R := R) (I := J) (c := cd i) (by omega) a1 c2 a b
        simp (disch := omega) only [f_X6_value_4, z_ev, k4, s0, s3, k5, k6, k16, gd_t, gd_pos, lt_eq, Option.bind_some, true_and, and_true, not_true, not_false_iff, false_or, or_false, if_true, if_false, if_pos, if_neg, up_s, up_n, up_uu, hs, hci, zl_0, zl_1, zl_2, zl_3, zl_4, zl_5, zl_6, zl_7, zl_8, zl_9, zl_10, zl_12, zl_14, zl_16, zl_20, zl_21, zl_28, zl_30, zl_32, zl_37, zl_40, zl_60, zl_64, zl_99, zl_100, zl_680, zl_700, zl_999, zl_9999, zl_10000, zl_20000, zl_20001, zl_20002, zl_20003, zl_20004, zl_20005, zl_20006, zl_20007, zl_ofNat, nI_add, pk_mul, nI_leI, nI_ltI, nI_eq, nI_clamp, mx_nI, mn_nI, pk_sub, zz_m1, e2, e3, hg]
end ZC
