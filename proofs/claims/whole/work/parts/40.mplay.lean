/-! ===== PURE PART: the model, one pupil ===== -/
def z_tr (c : Nat) : Int32 := if c < 10000 then nI c else if c < 20000 then (-1) - nI (c - 10000) else if c = 20000 then -27 else if c = 20001 then -26 else if c = 20002 then -28 else if c = 20003 then -24 else if c = 20004 then -25 else if c = 20005 then -20 else if c = 20006 then -21 else if c = 20007 then -22 else -23
def zMS (S : zS) (I : Nat → Nat → Int32) : Prop :=
  I 84 0 = nI (z_np S) ∧ (∀ w, w < z_np S → I 86 w = nI (z_bn S w) ∧ I 85 w = nI (z_st S w) ∧ ∀ i, i < z_bn S w → I 87 (8 * w + i) = nI (z_hd S w i)) ∧
  (z_rl S = none → I 84 3 = 0) ∧ ∀ r, z_rl S = some r → I 84 3 = nI r.1 ∧ ∀ i, i < r.1 → I 92 i = z_tr (r.2 i)
def zMV (nu : Nat) (V : Nat → zP) (I : Nat → Nat → Int32) : Prop := I 84 1 = nI nu ∧ ∀ p, p < nu → I 95 p = nI (V p 0) ∧ I 96 p = nI (V p 1) ∧ I 97 p = nI (V p 2) ∧ I 98 p = nI (V p 3) ∧ I 99 p = nI (V p 4) ∧ I 88 p = nI (V p 5)
theorem zMS_fr {S : zS} {I J : Nat → Nat → Int32} {L F : List Nat} (h : zMS S I) (hf : zfm L F I J) (hd : ([84, 85, 86, 87, 92].all (fun c => !L.contains c)) = true) : zMS S J := by
  have q : ∀ c, c ∈ [84, 85, 86, 87, 92] → J c = I c := fun c hc => by
    have h1 := List.all_eq_true.mp hd c hc
    refine hf.1 c (by rintro rfl; simp at hc) (fun hl => ?_)
    rw [List.contains_iff_mem.mpr hl] at h1
    cases h1
  unfold zMS at h ⊢
  rw [q 84 (by simp), q 85 (by simp), q 86 (by simp), q 87 (by simp), q 92 (by simp)]
  exact h
theorem zMV_fr {nu : Nat} {V : Nat → zP} {I J : Nat → Nat → Int32} {L F : List Nat} (h : zMV nu V I) (hf : zfm L F I J) (hd : ([84, 88, 95, 96, 97, 98, 99].all (fun c => !L.contains c)) = true) : zMV nu V J := by
  have q : ∀ c, c ∈ [84, 88, 95, 96, 97, 98, 99] → J c = I c := fun c hc => by
    have h1 := List.all_eq_true.mp hd c hc
    refine hf.1 c (by rintro rfl; simp at hc) (fun hl => ?_)
    rw [List.contains_iff_mem.mpr hl] at h1
    cases h1
  unfold zMV at h ⊢
  rw [q 84 (by simp), q 88 (by simp), q 95 (by simp), q 96 (by simp), q 97 (by simp), q 98 (by simp), q 99 (by simp)]
  exact h
section ZM
variable {N : Nat} {R : Nat → Nat → Nat} {q p nu : Nat} {S : zS} {I : Nat → Nat → Int32} {V : Nat → zP}
theorem m_isDone (hR : sR R q) (hso : z_sok S) (hS : zMS S I) (hV : zMV nu V I) (h7 : nu ≤ 7) (hp : p < nu) (ho : z_pok S (V p)) : f_X12_isDone N R 80 (nI p) I = some ((if V p 3 < z_bn S (V p 2) then 0 else 1), I) := by
  obtain ⟨v0, v1, v2, v3, v4, v5⟩ := hV.2 p hp
  obtain ⟨o0, o1, o2, o3, o4, o5⟩ := ho
  have h6 := hso.1
  have hb := (hS.2.1 _ o2).1
  have h8 := (hso.2.1 _ o2).2.1
  by_cases hc : V p 3 < z_bn S (V p 2)
  · simp (disch := omega) only [f_X12_isDone, kd_80, r80_28 hR, kd_98, r80_27 hR, kd_97, r80_6 hR, kd_86, v2, v3, hb, gd_t, gd_pos, lt_eq, Option.bind_some, true_and, and_true, not_true, not_false_iff, false_or, or_false, if_true, if_false, if_pos, if_neg, up_s, up_n, up_uu, zl_0, zl_1, zl_2, zl_3, zl_4, zl_5, zl_6, zl_7, zl_8, zl_9, zl_10, zl_12, zl_14, zl_16, zl_20, zl_21, zl_28, zl_30, zl_32, zl_37, zl_40, zl_60, zl_64, zl_99, zl_100, zl_680, zl_700, zl_999, zl_9999, zl_10000, zl_20000, zl_20001, zl_20002, zl_20003, zl_20004, zl_20005, zl_20006, zl_20007, zl_ofNat, nI_add, pk_mul, nI_leI, nI_ltI, nI_eq, nI_clamp, mx_nI, mn_nI, pk_sub, zz_m1]
  · simp (disch := omega) only [f_X12_isDone, kd_80, r80_28 hR, kd_98, r80_27 hR, kd_97, r80_6 hR, kd_86, v2, v3, hb, gd_t, gd_pos, lt_eq, Option.bind_some, true_and, and_true, not_true, not_false_iff, false_or, or_false, if_true, if_false, if_pos, if_neg, up_s, up_n, up_uu, zl_0, zl_1, zl_2, zl_3, zl_4, zl_5, zl_6, zl_7, zl_8, zl_9, zl_10, zl_12, zl_14, zl_16, zl_20, zl_21, zl_28, zl_30, zl_32, zl_37, zl_40, zl_60, zl_64, zl_99, zl_100, zl_680, zl_700, zl_999, zl_9999, zl_10000, zl_20000, zl_20001, zl_20002, zl_20003, zl_20004, zl_20005, zl_20006, zl_20007, zl_ofNat, nI_add, pk_mul, nI_leI, nI_ltI, nI_eq, nI_clamp, mx_nI, mn_nI, pk_sub, zz_m1]
theorem m_hardOf (hR : sR R q) (hso : z_sok S) (hS : zMS S I) {w i : Nat} (hw : w < z_np S) (hi : i < z_bn S w) : f_X12_hardOf N R 80 (nI w) (nI i) I = some (nI (z_hd S w i), I) := by
  have h6 := hso.1
  have h8 := (hso.2.1 _ hw).2.1
  have hb := (hS.2.1 _ hw).2.2 i hi
  simp (disch := omega) only [f_X12_hardOf, kd_80, r80_7 hR, kd_87, hb, gd_t, gd_pos, lt_eq, Option.bind_some, true_and, and_true, not_true, not_false_iff, false_or, or_false, if_true, if_false, if_pos, if_neg, up_s, up_n, up_uu, zl_0, zl_1, zl_2, zl_3, zl_4, zl_5, zl_6, zl_7, zl_8, zl_9, zl_10, zl_12, zl_14, zl_16, zl_20, zl_21, zl_28, zl_30, zl_32, zl_37, zl_40, zl_60, zl_64, zl_99, zl_100, zl_680, zl_700, zl_999, zl_9999, zl_10000, zl_20000, zl_20001, zl_20002, zl_20003, zl_20004, zl_20005, zl_20006, zl_20007, zl_ofNat, nI_add, pk_mul, nI_leI, nI_ltI, nI_eq, nI_clamp, mx_nI, mn_nI, pk_sub, zz_m1]
theorem m_nextHard (hR : sR R q) (hso : z_sok S) (hS : zMS S I) (hV : zMV nu V I) (h7 : nu ≤ 7) (hp : p < nu) (ho : z_pok S (V p)) : f_X12_nextHard N R 80 (nI p) I = some (nI (z_nh S (V p)), I) := by
  have e := m_isDone (N := N) hR hso hS hV h7 hp ho
  obtain ⟨v0, v1, v2, v3, v4, v5⟩ := hV.2 p hp
  obtain ⟨o0, o1, o2, o3, o4, o5⟩ := ho
  have h6 := hso.1
  unfold z_nh
  by_cases hc : V p 3 < z_bn S (V p 2)
  · have e2 := m_hardOf (N := N) hR hso hS o2 hc
    rw [if_pos hc] at e
    simp (disch := omega) only [f_X12_nextHard, kd_80, r80_28 hR, kd_98, r80_27 hR, kd_97, v2, v3, e, e2, gd_t, gd_pos, lt_eq, Option.bind_some, true_and, and_true, not_true, not_false_iff, false_or, or_false, if_true, if_false, if_pos, if_neg, up_s, up_n, up_uu, zl_0, zl_1, zl_2, zl_3, zl_4, zl_5, zl_6, zl_7, zl_8, zl_9, zl_10, zl_12, zl_14, zl_16, zl_20, zl_21, zl_28, zl_30, zl_32, zl_37, zl_40, zl_60, zl_64, zl_99, zl_100, zl_680, zl_700, zl_999, zl_9999, zl_10000, zl_20000, zl_20001, zl_20002, zl_20003, zl_20004, zl_20005, zl_20006, zl_20007, zl_ofNat, nI_add, pk_mul, nI_leI, nI_ltI, nI_eq, nI_clamp, mx_nI, mn_nI, pk_sub, zz_m1]
  · rw [if_neg hc] at e
    simp (disch := omega) only [f_X12_nextHard, kd_80, r80_28 hR, kd_98, r80_27 hR, kd_97, v2, v3, e, gd_t, gd_pos, lt_eq, Option.bind_some, true_and, and_true, not_true, not_false_iff, false_or, or_false, if_true, if_false, if_pos, if_neg, up_s, up_n, up_uu, zl_0, zl_1, zl_2, zl_3, zl_4, zl_5, zl_6, zl_7, zl_8, zl_9, zl_10, zl_12, zl_14, zl_16, zl_20, zl_21, zl_28, zl_30, zl_32, zl_37, zl_40, zl_60, zl_64, zl_99, zl_100, zl_680, zl_700, zl_999, zl_9999, zl_10000, zl_20000, zl_20001, zl_20002, zl_20003, zl_20004, zl_20005, zl_20006, zl_20007, zl_ofNat, nI_add, pk_mul, nI_leI, nI_ltI, nI_eq, nI_clamp, mx_nI, mn_nI, pk_sub, zz_m1]
theorem z_tr_num {c : Nat} (h : c < 10000) : z_tr c = nI c := if_pos h
theorem z_tr_val {c : Nat} (h : ¬ c < 10000) (h2 : c < 10006) : z_tr c = -(nI (c - 9999)) := by
  have hc : c = 10000 ∨ c = 10001 ∨ c = 10002 ∨ c = 10003 ∨ c = 10004 ∨ c = 10005 := by omega
  rcases hc with rfl | rfl | rfl | rfl | rfl | rfl <;> decide
theorem m_reckon {c : Nat} (h1 : 20000 ≤ c) (h2 : c ≤ 20008) (h3 : c ≠ 20002) (a b : Int32) : f_X12_reckon N R (z_tr c) a b I = some (z_op c a b, I) := by
  have hc : c = 20000 ∨ c = 20001 ∨ c = 20003 ∨ c = 20004 ∨ c = 20005 ∨ c = 20006 ∨ c = 20007 ∨ c = 20008 := by omega
  rcases hc with rfl | rfl | rfl | rfl | rfl | rfl | rfl | rfl
  · show f_X12_reckon N R (-27) a b I = some ((if a = 0 then (if b = 0 then 0 else 1) else 1), I)
    by_cases ha : a = 0 <;> by_cases hb : b = 0 <;> simp [f_X12_reckon, sm_gd, ha, hb]
  · show f_X12_reckon N R (-26) a b I = some ((if a = 0 then 0 else if b = 0 then 0 else 1), I)
    by_cases ha : a = 0 <;> by_cases hb : b = 0 <;> simp [f_X12_reckon, sm_gd, ha, hb]
  · show f_X12_reckon N R (-24) a b I = some ((if b ≤ a then 0 else 1), I)
    by_cases ha : b ≤ a <;> simp [f_X12_reckon, sm_gd, ha]
  · show f_X12_reckon N R (-25) a b I = some ((if a = b then 1 else 0), I)
    by_cases ha : a = b <;> simp [f_X12_reckon, sm_gd, ha]
  · rfl
  · rfl
  · rfl
  · show f_X12_reckon N R (-23) a b I = some ((if b = 0 then 0 else a / b), I)
    by_cases hb : b = 0 <;> simp [f_X12_reckon, sm_gd, hb]
end ZM
