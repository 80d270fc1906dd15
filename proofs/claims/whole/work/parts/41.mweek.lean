/-! ===== PURE PART: the model: the rule, to practise, a lesson, a week ===== -/
theorem z_tr_n {c : Nat} (h : c < 10000) : z_tr c = nI c ∧ ¬ nI c ≤ -nI 20 := by
  refine ⟨if_pos h, fun q => ?_⟩
  rw [zz_le, nI_toInt (by omega), zz_neg (by omega)] at q
  omega
theorem z_tr_v {c : Nat} (h : ¬ c < 10000) (h2 : c < 10006) : ¬ z_tr c ≤ -nI 20 ∧ z_tr c < nI 0 ∧ -nI 1 - z_tr c = nI (c - 10000) := by
  have hc : c = 10000 ∨ c = 10001 ∨ c = 10002 ∨ c = 10003 ∨ c = 10004 ∨ c = 10005 := by omega
  rcases hc with rfl | rfl | rfl | rfl | rfl | rfl <;> decide
theorem z_tr_o {c : Nat} (h : 20000 ≤ c) (h2 : c ≤ 20008) : z_tr c ≤ -nI 20 ∧ (z_tr c = -nI 28 ↔ c = 20002) := by
  have hc : c = 20000 ∨ c = 20001 ∨ c = 20002 ∨ c = 20003 ∨ c = 20004 ∨ c = 20005 ∨ c = 20006 ∨ c = 20007 ∨ c = 20008 := by omega
  rcases hc with rfl | rfl | rfl | rfl | rfl | rfl | rfl | rfl | rfl <;> decide

theorem zMV_up95 {nu p v : Nat} {V : Nat → zP} {I : Nat → Nat → Int32} (h : zMV nu V I) : zMV nu (sm_up V p (sm_up (V p) 0 v)) (sm_up I 95 (sm_up (I 95) p (nI v))) := by
  refine ⟨by rw [up_n _ _ (by omega)]; exact h.1, fun a ha => ?_⟩
  obtain ⟨v0, v1, v2, v3, v4, v5⟩ := h.2 a ha
  by_cases e : a = p
  · subst e
    simp (disch := omega) only [up_s, up_n, v0, v1, v2, v3, v4, v5, and_self]
  · simp (disch := omega) only [up_s, up_n, v0, v1, v2, v3, v4, v5, and_self]
theorem zMV_up96 {nu p v : Nat} {V : Nat → zP} {I : Nat → Nat → Int32} (h : zMV nu V I) : zMV nu (sm_up V p (sm_up (V p) 1 v)) (sm_up I 96 (sm_up (I 96) p (nI v))) := by
  refine ⟨by rw [up_n _ _ (by omega)]; exact h.1, fun a ha => ?_⟩
  obtain ⟨v0, v1, v2, v3, v4, v5⟩ := h.2 a ha
  by_cases e : a = p
  · subst e
    simp (disch := omega) only [up_s, up_n, v0, v1, v2, v3, v4, v5, and_self]
  · simp (disch := omega) only [up_s, up_n, v0, v1, v2, v3, v4, v5, and_self]
theorem zMV_up97 {nu p v : Nat} {V : Nat → zP} {I : Nat → Nat → Int32} (h : zMV nu V I) : zMV nu (sm_up V p (sm_up (V p) 2 v)) (sm_up I 97 (sm_up (I 97) p (nI v))) := by
  refine ⟨by rw [up_n _ _ (by omega)]; exact h.1, fun a ha => ?_⟩
  obtain ⟨v0, v1, v2, v3, v4, v5⟩ := h.2 a ha
  by_cases e : a = p
  · subst e
    simp (disch := omega) only [up_s, up_n, v0, v1, v2, v3, v4, v5, and_self]
  · simp (disch := omega) only [up_s, up_n, v0, v1, v2, v3, v4, v5, and_self]
theorem zMV_up98 {nu p v : Nat} {V : Nat → zP} {I : Nat → Nat → Int32} (h : zMV nu V I) : zMV nu (sm_up V p (sm_up (V p) 3 v)) (sm_up I 98 (sm_up (I 98) p (nI v))) := by
  refine ⟨by rw [up_n _ _ (by omega)]; exact h.1, fun a ha => ?_⟩
  obtain ⟨v0, v1, v2, v3, v4, v5⟩ := h.2 a ha
  by_cases e : a = p
  · subst e
    simp (disch := omega) only [up_s, up_n, v0, v1, v2, v3, v4, v5, and_self]
  · simp (disch := omega) only [up_s, up_n, v0, v1, v2, v3, v4, v5, and_self]
theorem zMV_up99 {nu p v : Nat} {V : Nat → zP} {I : Nat → Nat → Int32} (h : zMV nu V I) : zMV nu (sm_up V p (sm_up (V p) 4 v)) (sm_up I 99 (sm_up (I 99) p (nI v))) := by
  refine ⟨by rw [up_n _ _ (by omega)]; exact h.1, fun a ha => ?_⟩
  obtain ⟨v0, v1, v2, v3, v4, v5⟩ := h.2 a ha
  by_cases e : a = p
  · subst e
    simp (disch := omega) only [up_s, up_n, v0, v1, v2, v3, v4, v5, and_self]
  · simp (disch := omega) only [up_s, up_n, v0, v1, v2, v3, v4, v5, and_self]
section ZM
variable {N : Nat} {R : Nat → Nat → Nat} {q p nu : Nat} {S : zS} {I : Nat → Nat → Int32} {V : Nat → zP}
set_option maxHeartbeats 4000000 in
theorem m_value_4 (hR : sR R q) {m : Nat} {cd : Nat → Nat} (hs : I 84 3 = nI m) (hm : m ≤ 700) (hc : ∀ i, i < m → I 92 i = z_tr (cd i)) : ∀ (d i h : Nat) (f : Nat → Int32) (n : Nat), i + d = m → d < n → z_ok cd d i h → h ≤ 64 → ∃ g, f_X12_valueNow_4 N R n 80 (nI h) (nI i) (sm_up I 102 f) = some (z_ev (I 101) cd d i h f, sm_up I 102 g)
  | 0, i, h, f, n + 1, e, _, ho, _ => by
    obtain rfl : h = 1 := ho
    obtain rfl : i = m := by omega
    refine ⟨f, ?_⟩
    simp (disch := omega) only [f_X12_valueNow_4, z_ev, kd_80, r80_4 hR, kd_84, r80_36 hR, kd_102, gd_t, gd_pos, lt_eq, Option.bind_some, true_and, and_true, not_true, not_false_iff, false_or, or_false, if_true, if_false, if_pos, if_neg, up_s, up_n, up_uu, hs, zl_0, zl_1, zl_2, zl_3, zl_4, zl_5, zl_6, zl_7, zl_8, zl_9, zl_10, zl_12, zl_14, zl_16, zl_20, zl_21, zl_28, zl_30, zl_32, zl_37, zl_40, zl_60, zl_64, zl_99, zl_100, zl_680, zl_700, zl_999, zl_9999, zl_10000, zl_20000, zl_20001, zl_20002, zl_20003, zl_20004, zl_20005, zl_20006, zl_20007, zl_ofNat, nI_add, pk_mul, nI_leI, nI_ltI, nI_eq, nI_clamp, mx_nI, mn_nI, pk_sub, zz_m1]
  | d + 1, i, h, f, n + 1, e, hn, ho, h64 => by
    have hci := hc i (by omega)
    obtain ⟨o1, o2, o3⟩ := ho
    by_cases c1 : cd i < 20000
    · obtain ⟨a1, a2, a3⟩ := o1 c1
      by_cases c2 : cd i < 10000
      · obtain ⟨g, hg⟩ := m_value_4 hR hs hm hc d (i + 1) (h + 1) (sm_up f h (nI (cd i))) n (by omega) (by omega) a3 (by omega)
        obtain ⟨t1, t2⟩ := z_tr_n c2
        rw [t1] at hci
        refine ⟨g, ?_⟩
        simp (disch := omega) only [f_X12_valueNow_4, z_ev, kd_80, r80_4 hR, kd_84, r80_36 hR, kd_102, r80_12 hR, kd_92, t2, gd_t, gd_pos, lt_eq, Option.bind_some, true_and, and_true, not_true, not_false_iff, false_or, or_false, if_true, if_false, if_pos, if_neg, up_s, up_n, up_uu, hs, hci, zl_0, zl_1, zl_2, zl_3, zl_4, zl_5, zl_6, zl_7, zl_8, zl_9, zl_10, zl_12, zl_14, zl_16, zl_20, zl_21, zl_28, zl_30, zl_32, zl_37, zl_40, zl_60, zl_64, zl_99, zl_100, zl_680, zl_700, zl_999, zl_9999, zl_10000, zl_20000, zl_20001, zl_20002, zl_20003, zl_20004, zl_20005, zl_20006, zl_20007, zl_ofNat, nI_add, pk_mul, nI_leI, nI_ltI, nI_eq, nI_clamp, mx_nI, mn_nI, pk_sub, zz_m1, hg]
      · obtain ⟨g, hg⟩ := m_value_4 hR hs hm hc d (i + 1) (h + 1) (sm_up f h (I 101 (cd i - 10000))) n (by omega) (by omega) a3 (by omega)
        obtain ⟨t1, t2, t3⟩ := z_tr_v c2 a1
        refine ⟨g, ?_⟩
        simp (disch := omega) only [f_X12_valueNow_4, z_ev, kd_80, r80_4 hR, kd_84, r80_36 hR, kd_102, r80_12 hR, kd_92, r80_35 hR, kd_101, t1, t2, t3, gd_t, gd_pos, lt_eq, Option.bind_some, true_and, and_true, not_true, not_false_iff, false_or, or_false, if_true, if_false, if_pos, if_neg, up_s, up_n, up_uu, hs, hci, zl_0, zl_1, zl_2, zl_3, zl_4, zl_5, zl_6, zl_7, zl_8, zl_9, zl_10, zl_12, zl_14, zl_16, zl_20, zl_21, zl_28, zl_30, zl_32, zl_37, zl_40, zl_60, zl_64, zl_99, zl_100, zl_680, zl_700, zl_999, zl_9999, zl_10000, zl_20000, zl_20001, zl_20002, zl_20003, zl_20004, zl_20005, zl_20006, zl_20007, zl_ofNat, nI_add, pk_mul, nI_leI, nI_ltI, nI_eq, nI_clamp, mx_nI, mn_nI, pk_sub, zz_m1, hg]
    · by_cases c2 : cd i = 20002
      · obtain ⟨a1, a2⟩ := o2 c2
        obtain ⟨t1, t2⟩ := z_tr_o (c := cd i) (by omega) (by omega)
        have t2 := t2.mpr c2
        have t3 : -nI 28 ≤ -nI 20 := by decide
        rw [t2] at hci
        by_cases hz : f (h - 1) = 0
        · obtain ⟨g, hg⟩ := m_value_4 hR hs hm hc d (i + 1) h (sm_up f (h - 1) (nI 1)) n (by omega) (by omega) a2 (by omega)
          refine ⟨g, ?_⟩
          rw [zl_0] at hz
          simp (disch := omega) only [f_X12_valueNow_4, z_ev, kd_80, r80_4 hR, kd_84, r80_36 hR, kd_102, r80_12 hR, kd_92, t3, gd_t, gd_pos, lt_eq, Option.bind_some, true_and, and_true, not_true, not_false_iff, false_or, or_false, if_true, if_false, if_pos, if_neg, up_s, up_n, up_uu, hs, hci, zl_0, zl_1, zl_2, zl_3, zl_4, zl_5, zl_6, zl_7, zl_8, zl_9, zl_10, zl_12, zl_14, zl_16, zl_20, zl_21, zl_28, zl_30, zl_32, zl_37, zl_40, zl_60, zl_64, zl_99, zl_100, zl_680, zl_700, zl_999, zl_9999, zl_10000, zl_20000, zl_20001, zl_20002, zl_20003, zl_20004, zl_20005, zl_20006, zl_20007, zl_ofNat, nI_add, pk_mul, nI_leI, nI_ltI, nI_eq, nI_clamp, mx_nI, mn_nI, pk_sub, zz_m1, c2, hz, hg]
        · obtain ⟨g, hg⟩ := m_value_4 hR hs hm hc d (i + 1) h (sm_up f (h - 1) (nI 0)) n (by omega) (by omega) a2 (by omega)
          refine ⟨g, ?_⟩
          rw [zl_0] at hz
          simp (disch := omega) only [f_X12_valueNow_4, z_ev, kd_80, r80_4 hR, kd_84, r80_36 hR, kd_102, r80_12 hR, kd_92, t3, gd_t, gd_pos, lt_eq, Option.bind_some, true_and, and_true, not_true, not_false_iff, false_or, or_false, if_true, if_false, if_pos, if_neg, up_s, up_n, up_uu, hs, hci, zl_0, zl_1, zl_2, zl_3, zl_4, zl_5, zl_6, zl_7, zl_8, zl_9, zl_10, zl_12, zl_14, zl_16, zl_20, zl_21, zl_28, zl_30, zl_32, zl_37, zl_40, zl_60, zl_64, zl_99, zl_100, zl_680, zl_700, zl_999, zl_9999, zl_10000, zl_20000, zl_20001, zl_20002, zl_20003, zl_20004, zl_20005, zl_20006, zl_20007, zl_ofNat, nI_add, pk_mul, nI_leI, nI_ltI, nI_eq, nI_clamp, mx_nI, mn_nI, pk_sub, zz_m1, c2, hz, hg]
      · obtain ⟨a1, a2, a3⟩ := o3 (by omega) c2
        obtain ⟨g, hg⟩ := m_value_4 hR hs hm hc d (i + 1) (h - 1) (sm_up f (h - 2) (z_op (cd i) (f (h - 2)) (f (h - 1)))) n (by omega) (by omega) a3 (by omega)
        obtain ⟨t1, t2⟩ := z_tr_o (c := cd i) (by omega) (by omega)
        have t2 : ¬ z_tr (cd i) = -nI 28 := fun q => c2 (t2.mp q)
        refine ⟨g, ?_⟩
        have e2 : h - 1 - 1 = h - 2 := by omega
        have e3 := fun J a b => m_reckon (N := N) (R := R) (I := J) (c := cd i) (by omega) a1 c2 a b
        simp (disch := omega) only [f_X12_valueNow_4, z_ev, kd_80, r80_4 hR, kd_84, r80_36 hR, kd_102, r80_12 hR, kd_92, t1, t2, gd_t, gd_pos, lt_eq, Option.bind_some, true_and, and_true, not_true, not_false_iff, false_or, or_false, if_true, if_false, if_pos, if_neg, up_s, up_n, up_uu, hs, hci, zl_0, zl_1, zl_2, zl_3, zl_4, zl_5, zl_6, zl_7, zl_8, zl_9, zl_10, zl_12, zl_14, zl_16, zl_20, zl_21, zl_28, zl_30, zl_32, zl_37, zl_40, zl_60, zl_64, zl_99, zl_100, zl_680, zl_700, zl_999, zl_9999, zl_10000, zl_20000, zl_20001, zl_20002, zl_20003, zl_20004, zl_20005, zl_20006, zl_20007, zl_ofNat, nI_add, pk_mul, nI_leI, nI_ltI, nI_eq, nI_clamp, mx_nI, mn_nI, pk_sub, zz_m1, e2, e3, hg]
theorem m_gain104 (hR : sR R q) (hV : zMV nu V I) (h7 : nu ≤ 7) (hp : p < nu) (ho : z_pok S (V p)) (x : Int32) : f_X12_gainOf_104 N R 80 (nI p) x I = some (nI (min (99 - V p 0) (if V p 5 = 1 then 2 * zz_cl 20 x else zz_cl 20 x)), I) := by
  obtain ⟨v0, v1, v2, v3, v4, v5⟩ := hV.2 p hp
  obtain ⟨o0, o1, o2, o3, o4, o5⟩ := ho
  have hl := zz_cl_le 20 x
  have e := mxmn (m := 20) (by omega) x
  by_cases hc : V p 5 = 1
  · simp (disch := omega) only [f_X12_gainOf_104, kd_80, r80_25 hR, kd_95, r80_8 hR, kd_88, v0, v5, zl_0, zl_20, e, gd_t, gd_pos, lt_eq, Option.bind_some, true_and, and_true, not_true, not_false_iff, false_or, or_false, if_true, if_false, if_pos, if_neg, up_s, up_n, up_uu, zl_0, zl_1, zl_2, zl_3, zl_4, zl_5, zl_6, zl_7, zl_8, zl_9, zl_10, zl_12, zl_14, zl_16, zl_20, zl_21, zl_28, zl_30, zl_32, zl_37, zl_40, zl_60, zl_64, zl_99, zl_100, zl_680, zl_700, zl_999, zl_9999, zl_10000, zl_20000, zl_20001, zl_20002, zl_20003, zl_20004, zl_20005, zl_20006, zl_20007, zl_ofNat, nI_add, pk_mul, nI_leI, nI_ltI, nI_eq, nI_clamp, mx_nI, mn_nI, pk_sub, zz_m1]
  · simp (disch := omega) only [f_X12_gainOf_104, kd_80, r80_25 hR, kd_95, r80_8 hR, kd_88, v0, v5, zl_0, zl_20, e, gd_t, gd_pos, lt_eq, Option.bind_some, true_and, and_true, not_true, not_false_iff, false_or, or_false, if_true, if_false, if_pos, if_neg, up_s, up_n, up_uu, zl_0, zl_1, zl_2, zl_3, zl_4, zl_5, zl_6, zl_7, zl_8, zl_9, zl_10, zl_12, zl_14, zl_16, zl_20, zl_21, zl_28, zl_30, zl_32, zl_37, zl_40, zl_60, zl_64, zl_99, zl_100, zl_680, zl_700, zl_999, zl_9999, zl_10000, zl_20000, zl_20001, zl_20002, zl_20003, zl_20004, zl_20005, zl_20006, zl_20007, zl_ofNat, nI_add, pk_mul, nI_leI, nI_ltI, nI_eq, nI_clamp, mx_nI, mn_nI, pk_sub, zz_m1]
set_option maxHeartbeats 4000000 in
theorem m_gain (hN : 5000 ≤ N) (hR : sR R q) (hso : z_sok S) (hS : zMS S I) (hV : zMV nu V I) (h7 : nu ≤ 7) (hp : p < nu) (ho : z_pok S (V p)) : ∃ J, f_X12_gainOf N R 80 (nI p) I = some (nI (z_up S (V p)), J) ∧ zfm [101, 102] [] I J := by
  obtain ⟨v0, v1, v2, v3, v4, v5⟩ := hV.2 p hp
  obtain ⟨o0, o1, o2, o3, o4, o5⟩ := id ho
  obtain ⟨c1, c2, c3, c4⟩ := id hS
  have h6 := hso.1
  rcases hr : z_rl S with _ | ⟨m, cd⟩
  · have c3 := c3 hr
    have e := m_gain104 (N := N) hR hV h7 hp ho (nI (5 - V p 1 / 2))
    have hf : f_X12_gainOf N R 80 (nI p) I = f_X12_gainOf_104 N R 80 (nI p) (nI (5 - V p 1 / 2)) I := by
      simp (disch := omega) only [f_X12_gainOf, kd_80, r80_26 hR, kd_96, r80_4 hR, kd_84, v1, c3, pk_div, gd_t, gd_pos, lt_eq, Option.bind_some, true_and, and_true, not_true, not_false_iff, false_or, or_false, if_true, if_false, if_pos, if_neg, up_s, up_n, up_uu, zl_0, zl_1, zl_2, zl_3, zl_4, zl_5, zl_6, zl_7, zl_8, zl_9, zl_10, zl_12, zl_14, zl_16, zl_20, zl_21, zl_28, zl_30, zl_32, zl_37, zl_40, zl_60, zl_64, zl_99, zl_100, zl_680, zl_700, zl_999, zl_9999, zl_10000, zl_20000, zl_20001, zl_20002, zl_20003, zl_20004, zl_20005, zl_20006, zl_20007, zl_ofNat, nI_add, pk_mul, nI_leI, nI_ltI, nI_eq, nI_clamp, mx_nI, mn_nI, pk_sub, zz_m1]
    refine ⟨I, ?_, zfm_refl _ _ _⟩
    rw [hf, e]
    unfold z_up z_v
    rw [hr]
  · obtain ⟨c6, c7⟩ := c4 _ hr
    obtain ⟨w1, w2⟩ := hso.2.2 _ hr
    have hb := (c2 _ o2).1
    have h8 := (hso.2.1 _ o2).2.1
    have fr : ∀ g, zfm [101, 102] [] I (sm_up I 101 g) := fun g => zfm_up (zfm_refl _ _ _) (by simp) (by omega) g
    have e1 := fun g => m_nextHard (N := N) hR hso (zMS_fr hS (fr g) (by decide)) (zMV_fr hV (fr g) (by decide)) h7 hp ho
    have e3 := fun g => m_bitsOf (N := N) (R := R) (I := sm_up I 101 g) hN (a := V p 4) (by omega)
    have hm0 : m ≠ 0 := by
      rintro rfl
      have w3 : (0 : Nat) = 1 := w2
      omega
    have hG : ∃ G, f_X12_gainOf N R 80 (nI p) I = (f_X12_valueNow N R 80 (sm_up I 101 G)).bind (fun p' => f_X12_gainOf_104 N R 80 (nI p) p'.1 p'.2) ∧ ∀ v, v < 6 → G v = z_ask S (V p) v := by
      refine ⟨sm_up (sm_up (sm_up (sm_up (sm_up (sm_up (I 101) 0 (nI (V p 0))) 1 (nI (V p 1))) 2 (nI (z_nh S (V p)))) 3 (nI (V p 3))) 4 (nI (z_bn S (V p 2)))) 5 (nI (z_pc 32 (V p 4))), ?_, ?_⟩
      · simp (disch := omega) only [f_X12_gainOf, kd_80, r80_26 hR, kd_96, r80_4 hR, kd_84, r80_25 hR, kd_95, r80_35 hR, kd_101, r80_28 hR, kd_98, r80_27 hR, kd_97, r80_6 hR, kd_86, r80_29 hR, kd_99, v0, v1, v2, v3, v4, c6, hb, e1, e3, gd_t, gd_pos, lt_eq, Option.bind_some, true_and, and_true, not_true, not_false_iff, false_or, or_false, if_true, if_false, if_pos, if_neg, up_s, up_n, up_uu, zl_0, zl_1, zl_2, zl_3, zl_4, zl_5, zl_6, zl_7, zl_8, zl_9, zl_10, zl_12, zl_14, zl_16, zl_20, zl_21, zl_28, zl_30, zl_32, zl_37, zl_40, zl_60, zl_64, zl_99, zl_100, zl_680, zl_700, zl_999, zl_9999, zl_10000, zl_20000, zl_20001, zl_20002, zl_20003, zl_20004, zl_20005, zl_20006, zl_20007, zl_ofNat, nI_add, pk_mul, nI_leI, nI_ltI, nI_eq, nI_clamp, mx_nI, mn_nI, pk_sub, zz_m1]
      · intro v hv
        match v, hv with
        | 0, _ => rfl
        | 1, _ => rfl
        | 2, _ => rfl
        | 3, _ => rfl
        | 4, _ => rfl
        | 5, _ => rfl
    obtain ⟨G, hG1, hG2⟩ := hG
    have s1 : (sm_up I 101 G) 84 3 = nI m := by
      rw [up_n I G (by omega)]
      exact c6
    have s2 : ∀ i, i < m → (sm_up I 101 G) 92 i = z_tr (cd i) := fun i hi => by
      rw [up_n I G (by omega)]
      exact c7 i hi
    obtain ⟨g, hg⟩ := m_value_4 (N := N) hR s1 w1 s2 m 0 0 (sm_up I 101 G 102) N (by omega) (by omega) w2 (by omega)
    rw [up_id, up_s, z_ev_cong hG2 m 0 0 _ (fun _ => 0) w2 (fun j hj => absurd hj (Nat.not_lt_zero j))] at hg
    have ev : z_v S (V p) = z_ev (z_ask S (V p)) cd m 0 0 (fun _ => 0) := by
      unfold z_v
      rw [hr]
    rw [← ev] at hg
    have fr2 : zfm [101, 102] [] I (sm_up (sm_up I 101 G) 102 g) := zfm_up (fr G) (by simp) (by omega) g
    have e := m_gain104 (N := N) (S := S) hR (zMV_fr hV fr2 (by decide)) h7 hp ho (z_v S (V p))
    refine ⟨_, ?_, fr2⟩
    rw [hG1, show f_X12_valueNow N R 80 (sm_up I 101 G) = _ from hg, Option.bind_some]
    exact e
theorem m_practise (hN : 5000 ≤ N) (hR : sR R q) (hso : z_sok S) (hS : zMS S I) (hV : zMV nu V I) (h7 : nu ≤ 7) (hp : p < nu) (ho : z_pok S (V p)) : ∃ J, f_X12_practise N R 80 (nI p) I = some ((), J) ∧ zMV nu (sm_up V p (z_pr S (V p))) J ∧ zfm [95, 101, 102] [] I J := by
  obtain ⟨J, j1, j2⟩ := m_gain hN hR hso hS hV h7 hp ho
  obtain ⟨v0, v1, v2, v3, v4, v5⟩ := hV.2 p hp
  have hV2 := zMV_fr hV j2 (by decide)
  refine ⟨sm_up J 95 (sm_up (J 95) p (nI (V p 0 + z_up S (V p)))), ?_, zMV_up95 hV2, zfm_up (zfm_mono j2 (by simp) (by simp)) (by simp) (by omega) _⟩
  simp (disch := omega) only [f_X12_practise, kd_80, r80_25 hR, kd_95, v0, j1, gd_t, gd_pos, lt_eq, Option.bind_some, true_and, and_true, not_true, not_false_iff, false_or, or_false, if_true, if_false, if_pos, if_neg, up_s, up_n, up_uu, zl_0, zl_1, zl_2, zl_3, zl_4, zl_5, zl_6, zl_7, zl_8, zl_9, zl_10, zl_12, zl_14, zl_16, zl_20, zl_21, zl_28, zl_30, zl_32, zl_37, zl_40, zl_60, zl_64, zl_99, zl_100, zl_680, zl_700, zl_999, zl_9999, zl_10000, zl_20000, zl_20001, zl_20002, zl_20003, zl_20004, zl_20005, zl_20006, zl_20007, zl_ofNat, nI_add, pk_mul, nI_leI, nI_ltI, nI_eq, nI_clamp, mx_nI, mn_nI, pk_sub, zz_m1]
theorem m_mayGoOn (hR : sR R q) (hso : z_sok S) (hS : zMS S I) (hV : zMV nu V I) (h7 : nu ≤ 7) (hp : p < nu) (ho : z_pok S (V p)) : f_X12_mayGoOn N R 80 (nI p) I = some ((if V p 3 < z_bn S (V p 2) ∧ z_hd S (V p 2) (V p 3) ≤ V p 0 then 1 else 0), I) := by
  have e1 := m_isDone (N := N) hR hso hS hV h7 hp ho
  have e2 := m_nextHard (N := N) hR hso hS hV h7 hp ho
  obtain ⟨v0, v1, v2, v3, v4, v5⟩ := hV.2 p hp
  obtain ⟨o0, o1, o2, o3, o4, o5⟩ := ho
  unfold z_nh at e2
  by_cases c1 : V p 3 < z_bn S (V p 2)
  · rw [if_pos c1] at e1 e2
    have h9 := (hso.2.1 _ o2).2.2.2 _ c1
    by_cases c2 : z_hd S (V p 2) (V p 3) ≤ V p 0
    · simp (disch := omega) only [f_X12_mayGoOn, kd_80, r80_25 hR, kd_95, v0, e1, e2, gd_t, gd_pos, lt_eq, Option.bind_some, true_and, and_true, not_true, not_false_iff, false_or, or_false, if_true, if_false, if_pos, if_neg, up_s, up_n, up_uu, zl_0, zl_1, zl_2, zl_3, zl_4, zl_5, zl_6, zl_7, zl_8, zl_9, zl_10, zl_12, zl_14, zl_16, zl_20, zl_21, zl_28, zl_30, zl_32, zl_37, zl_40, zl_60, zl_64, zl_99, zl_100, zl_680, zl_700, zl_999, zl_9999, zl_10000, zl_20000, zl_20001, zl_20002, zl_20003, zl_20004, zl_20005, zl_20006, zl_20007, zl_ofNat, nI_add, pk_mul, nI_leI, nI_ltI, nI_eq, nI_clamp, mx_nI, mn_nI, pk_sub, zz_m1]
    · simp (disch := omega) only [f_X12_mayGoOn, kd_80, r80_25 hR, kd_95, v0, e1, e2, gd_t, gd_pos, lt_eq, Option.bind_some, true_and, and_true, not_true, not_false_iff, false_or, or_false, if_true, if_false, if_pos, if_neg, up_s, up_n, up_uu, zl_0, zl_1, zl_2, zl_3, zl_4, zl_5, zl_6, zl_7, zl_8, zl_9, zl_10, zl_12, zl_14, zl_16, zl_20, zl_21, zl_28, zl_30, zl_32, zl_37, zl_40, zl_60, zl_64, zl_99, zl_100, zl_680, zl_700, zl_999, zl_9999, zl_10000, zl_20000, zl_20001, zl_20002, zl_20003, zl_20004, zl_20005, zl_20006, zl_20007, zl_ofNat, nI_add, pk_mul, nI_leI, nI_ltI, nI_eq, nI_clamp, mx_nI, mn_nI, pk_sub, zz_m1]
  · rw [if_neg c1] at e1
    simp (disch := omega) only [f_X12_mayGoOn, kd_80, e1, gd_t, gd_pos, lt_eq, Option.bind_some, true_and, and_true, not_true, not_false_iff, false_or, or_false, if_true, if_false, if_pos, if_neg, up_s, up_n, up_uu, zl_0, zl_1, zl_2, zl_3, zl_4, zl_5, zl_6, zl_7, zl_8, zl_9, zl_10, zl_12, zl_14, zl_16, zl_20, zl_21, zl_28, zl_30, zl_32, zl_37, zl_40, zl_60, zl_64, zl_99, zl_100, zl_680, zl_700, zl_999, zl_9999, zl_10000, zl_20000, zl_20001, zl_20002, zl_20003, zl_20004, zl_20005, zl_20006, zl_20007, zl_ofNat, nI_add, pk_mul, nI_leI, nI_ltI, nI_eq, nI_clamp, mx_nI, mn_nI, pk_sub, zz_m1]
theorem z_lb_sat {S : zS} {w s : Nat} : ∀ d e b, z_bn S w ≤ b + d → z_bn S w ≤ b + e → z_lb S w s d b = z_lb S w s e b
  | 0, 0, _, _, _ => rfl
  | 0, e + 1, b, h, _ => by
    unfold z_lb
    rw [if_neg (by omega)]
  | d + 1, 0, b, _, h => by
    unfold z_lb
    rw [if_neg (by omega)]
  | d + 1, e + 1, b, h1, h2 => by
    unfold z_lb
    split
    · exact z_lb_sat d e (b + 1) (by omega) (by omega)
    · rfl
theorem zMV_b {b : Nat} (hV : zMV nu V I) : zMV nu (sm_up V p (sm_up (V p) 3 b)) (sm_up I 98 (sm_up (I 98) p (nI b))) := zMV_up98 hV
theorem m_less18 (hR : sR R q) (hso : z_sok S) (hS : zMS S I) (hV : zMV nu V I) (h7 : nu ≤ 7) (hp : p < nu) (ho : z_pok S (V p)) (hst : z_st S (V p 2) = 1) : ∀ d b n, b + d = z_bn S (V p 2) → d < n → f_X12_lesson_18 N R n 80 (nI p) (sm_up I 98 (sm_up (I 98) p (nI b))) = some ((), sm_up I 98 (sm_up (I 98) p (nI (z_lb S (V p 2) (V p 0) d b))))
  | d, b, 0, _, h => absurd h (Nat.not_lt_zero d)
  | d, b, n + 1, hd, hn => by
    obtain ⟨v0, v1, v2, v3, v4, v5⟩ := hV.2 p hp
    obtain ⟨o0, o1, o2, o3, o4, o5⟩ := id ho
    have h6 := hso.1
    have h8 := (hso.2.1 _ o2).2.1
    have fr : zfm [98] [] I (sm_up I 98 (sm_up (I 98) p (nI b))) := zfm_up (zfm_refl _ _ _) (by simp) (by omega) _
    have hS2 := zMS_fr hS fr (by decide)
    have hst2 := (hS.2.1 _ o2).2.1
    rw [hst] at hst2
    have ho2 : z_pok S (sm_up V p (sm_up (V p) 3 b) p) := by
      rw [up_s]
      unfold z_pok
      simp (disch := omega) only [up_s, up_n]
      omega
    have e := m_mayGoOn (N := N) hR hso hS2 (zMV_b (p := p) (b := b) hV) h7 hp ho2
    simp (disch := omega) only [up_s, up_n] at e
    by_cases c1 : b < z_bn S (V p 2) ∧ z_hd S (V p 2) b ≤ V p 0
    · rw [if_pos c1] at e
      obtain ⟨d', rfl⟩ : ∃ d', d = d' + 1 := ⟨d - 1, by omega⟩
      have ih := m_less18 hR hso hS hV h7 hp ho hst d' (b + 1) n (by omega) (by omega)
      have ez : z_lb S (V p 2) (V p 0) (d' + 1) b = z_lb S (V p 2) (V p 0) d' (b + 1) := if_pos c1
      simp (disch := omega) only [f_X12_lesson_18, kd_80, r80_27 hR, kd_97, r80_5 hR, kd_85, r80_28 hR, kd_98, v2, hst2, e, gd_t, gd_pos, lt_eq, Option.bind_some, true_and, and_true, not_true, not_false_iff, false_or, or_false, if_true, if_false, if_pos, if_neg, up_s, up_n, up_uu, zl_0, zl_1, zl_2, zl_3, zl_4, zl_5, zl_6, zl_7, zl_8, zl_9, zl_10, zl_12, zl_14, zl_16, zl_20, zl_21, zl_28, zl_30, zl_32, zl_37, zl_40, zl_60, zl_64, zl_99, zl_100, zl_680, zl_700, zl_999, zl_9999, zl_10000, zl_20000, zl_20001, zl_20002, zl_20003, zl_20004, zl_20005, zl_20006, zl_20007, zl_ofNat, nI_add, pk_mul, nI_leI, nI_ltI, nI_eq, nI_clamp, mx_nI, mn_nI, pk_sub, zz_m1, ih, ez]
    · rw [if_neg c1] at e
      have ez : z_lb S (V p 2) (V p 0) d b = b := by
        cases d with
        | zero => rfl
        | succ d => exact if_neg c1
      simp (disch := omega) only [f_X12_lesson_18, kd_80, r80_27 hR, kd_97, r80_5 hR, kd_85, r80_28 hR, kd_98, v2, hst2, e, gd_t, gd_pos, lt_eq, Option.bind_some, true_and, and_true, not_true, not_false_iff, false_or, or_false, if_true, if_false, if_pos, if_neg, up_s, up_n, up_uu, zl_0, zl_1, zl_2, zl_3, zl_4, zl_5, zl_6, zl_7, zl_8, zl_9, zl_10, zl_12, zl_14, zl_16, zl_20, zl_21, zl_28, zl_30, zl_32, zl_37, zl_40, zl_60, zl_64, zl_99, zl_100, zl_680, zl_700, zl_999, zl_9999, zl_10000, zl_20000, zl_20001, zl_20002, zl_20003, zl_20004, zl_20005, zl_20006, zl_20007, zl_ofNat, nI_add, pk_mul, nI_leI, nI_ltI, nI_eq, nI_clamp, mx_nI, mn_nI, pk_sub, zz_m1, ez]
theorem m_lesson (hN : 5000 ≤ N) (hR : sR R q) (hso : z_sok S) (hS : zMS S I) (hV : zMV nu V I) (h7 : nu ≤ 7) (hp : p < nu) (ho : z_pok S (V p)) : f_X12_lesson N R 80 (nI p) I = some ((), sm_up I 98 (sm_up (I 98) p (nI (z_le S (V p) 3)))) := by
  obtain ⟨v0, v1, v2, v3, v4, v5⟩ := hV.2 p hp
  obtain ⟨o0, o1, o2, o3, o4, o5⟩ := id ho
  have h6 := hso.1
  have h8 := (hso.2.1 _ o2).2.1
  have hsl := (hso.2.1 _ o2).2.2.1
  have hst2 := (hS.2.1 _ o2).2.1
  have e := m_mayGoOn (N := N) hR hso hS hV h7 hp ho
  have e2 : I = sm_up I 98 (sm_up (I 98) p (nI (V p 3))) := by rw [← v3, up_id, up_id]
  unfold z_le
  rw [up_s]
  by_cases hst : z_st S (V p 2) = 1
  · rw [if_pos hst]
    by_cases c1 : V p 3 < z_bn S (V p 2) ∧ z_hd S (V p 2) (V p 3) ≤ V p 0
    · rw [if_pos c1] at e
      have l := m_less18 (N := N) hR hso hS hV h7 hp ho hst (z_bn S (V p 2) - (V p 3 + 1)) (V p 3 + 1) N (by omega) (by omega)
      have ez : z_lb S (V p 2) (V p 0) 8 (V p 3) = z_lb S (V p 2) (V p 0) (z_bn S (V p 2) - (V p 3 + 1)) (V p 3 + 1) := by
        rw [z_lb_sat 8 (z_bn S (V p 2) - (V p 3 + 1) + 1) (V p 3) (by omega) (by omega)]
        exact if_pos c1
      simp (disch := omega) only [f_X12_lesson, kd_80, r80_28 hR, kd_98, v3, e, gd_t, gd_pos, lt_eq, Option.bind_some, true_and, and_true, not_true, not_false_iff, false_or, or_false, if_true, if_false, if_pos, if_neg, up_s, up_n, up_uu, zl_0, zl_1, zl_2, zl_3, zl_4, zl_5, zl_6, zl_7, zl_8, zl_9, zl_10, zl_12, zl_14, zl_16, zl_20, zl_21, zl_28, zl_30, zl_32, zl_37, zl_40, zl_60, zl_64, zl_99, zl_100, zl_680, zl_700, zl_999, zl_9999, zl_10000, zl_20000, zl_20001, zl_20002, zl_20003, zl_20004, zl_20005, zl_20006, zl_20007, zl_ofNat, nI_add, pk_mul, nI_leI, nI_ltI, nI_eq, nI_clamp, mx_nI, mn_nI, pk_sub, zz_m1, l, ez]
    · rw [if_neg c1] at e
      have l := m_less18 (N := N) hR hso hS hV h7 hp ho hst (z_bn S (V p 2) - V p 3) (V p 3) N (by omega) (by omega)
      rw [← e2] at l
      rw [z_lb_sat 8 (z_bn S (V p 2) - V p 3) (V p 3) (by omega) (by omega)]
      simp (disch := omega) only [f_X12_lesson, kd_80, e, gd_t, gd_pos, lt_eq, Option.bind_some, true_and, and_true, not_true, not_false_iff, false_or, or_false, if_true, if_false, if_pos, if_neg, zl_0, zl_1, zl_2, zl_3, zl_4, zl_5, zl_6, zl_7, zl_8, zl_9, zl_10, zl_12, zl_14, zl_16, zl_20, zl_21, zl_28, zl_30, zl_32, zl_37, zl_40, zl_60, zl_64, zl_99, zl_100, zl_680, zl_700, zl_999, zl_9999, zl_10000, zl_20000, zl_20001, zl_20002, zl_20003, zl_20004, zl_20005, zl_20006, zl_20007, zl_ofNat, nI_add, pk_mul, nI_leI, nI_ltI, nI_eq, nI_clamp, mx_nI, mn_nI, pk_sub, zz_m1, l]
  · rw [if_neg hst]
    have l : ∀ b, f_X12_lesson_18 N R N 80 (nI p) (sm_up I 98 (sm_up (I 98) p (nI b))) = some ((), sm_up I 98 (sm_up (I 98) p (nI b))) := fun b => by
      obtain ⟨N', rfl⟩ : ∃ N', N = N' + 1 := ⟨N - 1, by omega⟩
      simp (disch := omega) only [f_X12_lesson_18, kd_80, r80_27 hR, kd_97, r80_5 hR, kd_85, v2, hst2, gd_t, gd_pos, lt_eq, Option.bind_some, true_and, and_true, not_true, not_false_iff, false_or, or_false, if_true, if_false, if_pos, if_neg, up_s, up_n, up_uu, zl_0, zl_1, zl_2, zl_3, zl_4, zl_5, zl_6, zl_7, zl_8, zl_9, zl_10, zl_12, zl_14, zl_16, zl_20, zl_21, zl_28, zl_30, zl_32, zl_37, zl_40, zl_60, zl_64, zl_99, zl_100, zl_680, zl_700, zl_999, zl_9999, zl_10000, zl_20000, zl_20001, zl_20002, zl_20003, zl_20004, zl_20005, zl_20006, zl_20007, zl_ofNat, nI_add, pk_mul, nI_leI, nI_ltI, nI_eq, nI_clamp, mx_nI, mn_nI, pk_sub, zz_m1]
    by_cases c1 : V p 3 < z_bn S (V p 2) ∧ z_hd S (V p 2) (V p 3) ≤ V p 0
    · rw [if_pos c1] at e
      have ez : z_lb S (V p 2) (V p 0) 1 (V p 3) = V p 3 + 1 := if_pos c1
      simp (disch := omega) only [f_X12_lesson, kd_80, r80_28 hR, kd_98, v3, e, gd_t, gd_pos, lt_eq, Option.bind_some, true_and, and_true, not_true, not_false_iff, false_or, or_false, if_true, if_false, if_pos, if_neg, up_s, up_n, up_uu, zl_0, zl_1, zl_2, zl_3, zl_4, zl_5, zl_6, zl_7, zl_8, zl_9, zl_10, zl_12, zl_14, zl_16, zl_20, zl_21, zl_28, zl_30, zl_32, zl_37, zl_40, zl_60, zl_64, zl_99, zl_100, zl_680, zl_700, zl_999, zl_9999, zl_10000, zl_20000, zl_20001, zl_20002, zl_20003, zl_20004, zl_20005, zl_20006, zl_20007, zl_ofNat, nI_add, pk_mul, nI_leI, nI_ltI, nI_eq, nI_clamp, mx_nI, mn_nI, pk_sub, zz_m1, l, ez]
    · rw [if_neg c1] at e
      have ez : z_lb S (V p 2) (V p 0) 1 (V p 3) = V p 3 := if_neg c1
      have l := l (V p 3)
      rw [← e2] at l
      rw [ez, ← e2]
      simp (disch := omega) only [f_X12_lesson, kd_80, e, gd_t, gd_pos, lt_eq, Option.bind_some, true_and, and_true, not_true, not_false_iff, false_or, or_false, if_true, if_false, if_pos, if_neg, zl_0, zl_1, zl_2, zl_3, zl_4, zl_5, zl_6, zl_7, zl_8, zl_9, zl_10, zl_12, zl_14, zl_16, zl_20, zl_21, zl_28, zl_30, zl_32, zl_37, zl_40, zl_60, zl_64, zl_99, zl_100, zl_680, zl_700, zl_999, zl_9999, zl_10000, zl_20000, zl_20001, zl_20002, zl_20003, zl_20004, zl_20005, zl_20006, zl_20007, zl_ofNat, nI_add, pk_mul, nI_leI, nI_ltI, nI_eq, nI_clamp, mx_nI, mn_nI, pk_sub, zz_m1, l]
end ZM
