/-! ===== PURE PART: the class, one pupil: a lesson, weeks, the door ===== -/
section ZC
variable {N : Nat} {R : Nat → Nat → Nat} {q k : Nat} {S : zS} {I : Nat → Nat → Int32} {pl : zP}
theorem c_less20 (hq : qR R q) (hso : z_sok S) (hS : zCS S q I) (hk : sm_kd k = (4, 6)) (hp : zPl pl (I k)) (ho : z_pok S pl) {m : Nat} (hm : m ≤ 8) : ∀ d i b n, i + d = m → d < n → b ≤ z_bn S (pl 2) → f_X7_haveLesson_20 N R n q k (nI m) (nI i) (sm_up I k (sm_up (I k) 3 (nI b))) = some ((), sm_up I k (sm_up (I k) 3 (nI (z_lb S (pl 2) (pl 0) d b))))
  | 0, i, b, n + 1, e, _, hb => by
    simp (disch := omega) only [f_X7_haveLesson_20, gd_t, gd_pos, lt_eq, Option.bind_some, true_and, and_true, not_true, not_false_iff, false_or, or_false, if_true, if_false, if_pos, if_neg, nI_leI, z_lb]
  | d + 1, i, b, n + 1, e, hn, hb => by
    have k0 := hq.1.1
    obtain ⟨o0, o1, o2, o3, o4, o5⟩ := id ho
    have h8 := (hso.2.1 _ o2).2.1
    have fr : zfr [k, q + 6, q + 16] I (sm_up I k (sm_up (I k) 3 (nI b))) := zfr_up (zfr_refl _ _) (by simp) _
    have hp2 : zPl (sm_up pl 3 b) (sm_up I k (sm_up (I k) 3 (nI b)) k) := by
      rw [up_s]
      exact zPl_up hp 3 b
    have ho2 : z_pok S (sm_up pl 3 b) := by
      unfold z_pok
      simp (disch := omega) only [up_s, up_n]
      omega
    have e1 := c_isDone (N := N) hq hso (zCS_k hq hk hS fr) hk hp2 ho2
    have e2 := c_nextHard (N := N) hq hso (zCS_k hq hk hS fr) hk hp2 ho2
    have h0 := hp 0 (by omega)
    unfold z_nh at e2
    simp (disch := omega) only [up_s, up_n] at e1 e2
    by_cases c1 : b < z_bn S (pl 2)
    · rw [if_pos c1] at e1 e2
      have h99 := (hso.2.1 _ o2).2.2.2 b c1
      by_cases c2 : z_hd S (pl 2) b ≤ pl 0
      · have ih := c_less20 hq hso hS hk hp ho hm d (i + 1) (b + 1) n (by omega) (by omega) (by omega)
        simp (disch := omega) only [f_X7_haveLesson_20, k0, hk, h0, e1, e2, gd_t, gd_pos, lt_eq, Option.bind_some, true_and, and_true, not_true, not_false_iff, false_or, or_false, if_true, if_false, if_pos, if_neg, up_s, up_n, up_uu, nI_leI, nI_ltI, nI_add, zl_1, zl_0, ih, z_lb]
      · simp (disch := omega) only [f_X7_haveLesson_20, k0, hk, h0, e1, e2, gd_t, gd_pos, lt_eq, Option.bind_some, true_and, and_true, not_true, not_false_iff, false_or, or_false, if_true, if_false, if_pos, if_neg, up_s, up_n, up_uu, nI_leI, nI_ltI, nI_add, zl_1, zl_0, z_lb]
    · rw [if_neg c1] at e1 e2
      simp (disch := omega) only [f_X7_haveLesson_20, k0, hk, h0, e1, e2, gd_t, gd_pos, lt_eq, Option.bind_some, true_and, and_true, not_true, not_false_iff, false_or, or_false, if_true, if_false, if_pos, if_neg, up_s, up_n, up_uu, nI_leI, nI_ltI, nI_eq, nI_add, zl_1, zl_0, z_lb]
theorem c_lesson (hN : 5000 ≤ N) (hq : qR R q) (hso : z_sok S) (hS : zCS S q I) (hk : sm_kd k = (4, 6)) (hp : zPl pl (I k)) (ho : z_pok S pl) : f_X7_haveLesson N R q k I = some ((), sm_up I k (sm_up (I k) 3 (nI (z_le S pl 3)))) := by
  have k0 := hq.1.1
  obtain ⟨o0, o1, o2, o3, o4, o5⟩ := id ho
  have h2 := hp 2 (by omega)
  have h3 := hp 3 (by omega)
  have e := c_isStudy (N := N) hq hso hS o2
  have e2 : I = sm_up I k (sm_up (I k) 3 (nI (pl 3))) := by rw [← h3, up_id, up_id]
  have l1 := c_less20 (N := N) hq hso hS hk hp ho (m := 1) (by omega) 1 0 (pl 3) N (by omega) (by omega) o3
  have l8 := c_less20 (N := N) hq hso hS hk hp ho (m := 8) (by omega) 8 0 (pl 3) N (by omega) (by omega) o3
  rw [← e2] at l1 l8
  unfold z_le
  rw [up_s]
  by_cases hc : z_st S (pl 2) = 1
  · rw [if_pos hc] at e ⊢
    simp (disch := omega) only [f_X7_haveLesson, k0, hk, h2, e, gd_t, gd_pos, lt_eq, Option.bind_some, true_and, and_true, not_true, not_false_iff, false_or, or_false, if_true, if_false, if_pos, if_neg, zl_0, zl_1, zl_8, nI_eq, l8]
  · rw [if_neg hc] at e ⊢
    simp (disch := omega) only [f_X7_haveLesson, k0, hk, h2, e, gd_t, gd_pos, lt_eq, Option.bind_some, true_and, and_true, not_true, not_false_iff, false_or, or_false, if_true, if_false, if_pos, if_neg, zl_0, zl_1, zl_8, nI_eq, l1]
theorem z_wk_away {S : zS} {pl : zP} (h : pl 4 % 2 = 1) : z_wk S pl = z_aw pl := if_pos h
theorem z_wk_here {S : zS} {pl : zP} (h : ¬ pl 4 % 2 = 1) : z_wk S pl = z_aw (sm_up (z_le S (z_pr S pl)) 1 (pl 1 - 1)) := if_neg h
set_option maxHeartbeats 4000000 in
theorem c_week (hN : 5000 ≤ N) (hq : qR R q) (hso : z_sok S) (hS : zCS S q I) (hk : sm_kd k = (4, 6)) (hp : zPl pl (I k)) (ho : z_pok S pl) (n : Nat) {m i : Nat} (hi : i < m) (hm : m ≤ 60) : ∃ J, f_X7_passWeeks_2 N R (n + 1) q k (nI m) (nI i) I = f_X7_passWeeks_2 N R n q k (nI m) (nI (i + 1)) J ∧ zPl (z_wk S pl) (J k) ∧ zfr [k, q + 6, q + 16] I J := by
  have k0 := hq.1.1
  have o4 := ho.2.2.2.2.1
  have e := c_isAwayIn (N := N) (R := R) (j := 1) hk hp o4 (by omega) (by omega)
  rw [Nat.sub_self, Nat.pow_zero, Nat.div_one] at e
  have h4 := hp 4 (by omega)
  have hu : ∀ x, x < 2 ^ 30 → sm_us (nI x) (nI 1) = nI (x / 2) := fun x hx => zb_us (k := 1) (by omega) (by omega)
  by_cases hc : pl 4 % 2 = 1
  · rw [if_pos hc] at e
    refine ⟨sm_up I k (sm_up (I k) 4 (nI (pl 4 / 2))), ?_, ?_, ?_⟩
    · simp (disch := omega) only [f_X7_passWeeks_2, k0, hk, h4, zl_1, zl_0, e, gd_t, gd_pos, lt_eq, Option.bind_some, true_and, and_true, not_true, not_false_iff, false_or, or_false, if_true, if_false, if_pos, if_neg, nI_leI, nI_eq, nI_add, hu]
    · rw [z_wk_away hc, up_s]
      exact zPl_up hp 4 _
    · exact zfr_up (zfr_refl _ _) (by simp) _
  · rw [if_neg hc] at e
    obtain ⟨J, j1, j2, j3⟩ := c_practise hN hq hso hS hk hp ho
    have ho2 := z_pok_pr ho
    have e2 := c_lesson hN hq hso (zCS_k hq hk hS j3) hk j2 ho2
    have p3 : zPl (z_le S (z_pr S pl)) (sm_up J k (sm_up (J k) 3 (nI (z_le S (z_pr S pl) 3))) k) := by
      rw [up_s]
      have := zPl_up j2 3 (z_le S (z_pr S pl) 3)
      have e : sm_up (z_pr S pl) 3 (z_le S (z_pr S pl) 3) = z_le S (z_pr S pl) := by
        unfold z_le
        rw [up_s]
      rw [e] at this
      exact this
    have l1 : z_le S (z_pr S pl) 1 = pl 1 := rfl
    have l4 : z_le S (z_pr S pl) 4 = pl 4 := rfl
    have e3 := c_addSore (N := N) (R := R) (x := -nI 1) hk p3 (v := pl 1 - 1) (by rw [l1]; exact zz_cl_less ho.2.1 (by omega))
    have h4' := p3 4 (by omega)
    rw [l4] at h4'
    refine ⟨sm_up J k (sm_up (sm_up (sm_up (J k) 3 (nI (z_le S (z_pr S pl) 3))) 1 (nI (pl 1 - 1))) 4 (nI (pl 4 / 2))), ?_, ?_, ?_⟩
    · rw [up_s] at e3 h4'
      have h4'' : J k 4 = nI (pl 4) := by
        rw [← h4', up_n _ _ (by omega)]
      simp (disch := omega) only [f_X7_passWeeks_2, k0, hk, h4'', e, j1, e2, e3, gd_t, gd_pos, lt_eq, Option.bind_some, true_and, and_true, not_true, not_false_iff, false_or, or_false, if_true, if_false, if_pos, if_neg, up_s, up_n, up_uu, nI_leI, zl_0, zl_1, nI_add, hu]
    · rw [z_wk_here hc, up_s]
      rw [up_s] at p3
      have := zPl_up (zPl_up p3 1 (pl 1 - 1)) 4 (pl 4 / 2)
      exact this
    · exact zfr_trans j3 (zfr_up (zfr_refl _ _) (by simp) _)
theorem c_pass2 (hN : 5000 ≤ N) (hq : qR R q) (hso : z_sok S) (hk : sm_kd k = (4, 6)) {m : Nat} (hm : m ≤ 60) : ∀ (d i n : Nat) (I : Nat → Nat → Int32) (pl : zP), i + d = m → d < n → zCS S q I → zPl pl (I k) → z_pok S pl → ∃ J, f_X7_passWeeks_2 N R n q k (nI m) (nI i) I = some ((), J) ∧ zPl (z_wks S d pl) (J k) ∧ zfr [k, q + 6, q + 16] I J
  | 0, i, n + 1, I, pl, e, _, _, hp, _ => ⟨I, by simp (disch := omega) only [f_X7_passWeeks_2, gd_t, gd_pos, lt_eq, Option.bind_some, true_and, and_true, not_true, not_false_iff, false_or, or_false, if_true, if_false, if_pos, if_neg, nI_leI], hp, zfr_refl _ _⟩
  | d + 1, i, n + 1, I, pl, e, hn, hS, hp, ho => by
    obtain ⟨J, j1, j2, j3⟩ := c_week hN hq hso hS hk hp ho n (m := m) (i := i) (by omega) hm
    obtain ⟨K, k1, k2, k3⟩ := c_pass2 hN hq hso hk hm d (i + 1) n J _ (by omega) (by omega) (zCS_k hq hk hS j3) j2 (z_pok_wk ho)
    exact ⟨K, j1.trans k1, k2, zfr_trans j3 k3⟩
theorem c_pass (hN : 5000 ≤ N) (hq : qR R q) (hso : z_sok S) (hS : zCS S q I) (hk : sm_kd k = (4, 6)) (hp : zPl pl (I k)) (ho : z_pok S pl) {m : Nat} (hm : m ≤ 60) : ∃ J, f_X7_passWeeks N R q k (nI m) I = some ((), J) ∧ zPl (z_wks S m pl) (J k) ∧ zfr [k, q + 6, q + 16] I J :=
  c_pass2 hN hq hso hk hm m 0 N I pl (by omega) (by omega) hS hp ho
theorem c_go (hN : 5000 ≤ N) (hq : qR R q) (hso : z_sok S) (hS : zCS S q I) (hk : sm_kd k = (4, 6)) (hp : zPl pl (I k)) (ho : z_pok S pl) {j : Nat} (h1 : 1 ≤ j) (h2 : j ≤ 30) : ∃ J, f_X7_goThrough N R q k (nI j) I = some ((), J) ∧ zPl (z_go S pl j) (J k) ∧ zfr [k, q + 6, q + 16] I J := by
  have k0 := hq.1.1
  obtain ⟨J, j1, j2, j3⟩ := c_practise hN hq hso hS hk hp ho
  have h4 := j2 4 (by omega)
  have q4 : z_pr S pl 4 = pl 4 := rfl
  have q1 : z_pr S pl 1 = pl 1 := rfl
  have e3 := c_addSore (N := N) (R := R) (x := nI 2) hk j2 (v := min 9 (pl 1 + 2)) (by rw [q1, nI_add]; exact zz_cl_add (by omega) (by have := ho.2.1; omega))
  rw [q4] at h4
  refine ⟨sm_up J k (sm_up (sm_up (J k) 1 (nI (min 9 (pl 1 + 2)))) 4 (nI (pl 4 ||| 2 ^ (j - 1)))), ?_, ?_, ?_⟩
  · simp (disch := omega) only [f_X7_goThrough, k0, hk, j1, h4, zl_2, zl_1, e3, gd_t, gd_pos, lt_eq, Option.bind_some, true_and, and_true, not_true, not_false_iff, false_or, or_false, if_true, if_false, if_pos, if_neg, up_s, up_n, up_uu, pk_sub, zb_shl, zb_or]
  · rw [up_s]
    exact zPl_up (zPl_up j2 1 _) 4 _
  · exact zfr_trans j3 (zfr_up (zfr_refl _ _) (by simp) _)
theorem c_become {c : Nat} (hk : sm_kd k = (4, 6)) (hc : sm_kd c = (4, 6)) (hne : k ≠ c) (hp : zPl pl (I k)) : ∃ J, f_X4_become N R c k I = some ((), J) ∧ zPl pl (J c) ∧ zfr [c] I J := by
  refine ⟨sm_up I c (sm_up (sm_up (sm_up (sm_up (sm_up (sm_up (I c) 0 (I k 0)) 1 (I k 1)) 2 (I k 2)) 3 (I k 3)) 4 (I k 4)) 5 (I k 5)), ?_, ?_, ?_⟩
  · simp (disch := omega) only [f_X4_become, hk, hc, gd_t, gd_pos, lt_eq, Option.bind_some, true_and, and_true, not_true, not_false_iff, false_or, or_false, if_true, if_false, if_pos, if_neg, up_s, up_n, up_uu]
  · rw [up_s]
    intro j hj
    match j, hj with
    | 0, _ => exact hp 0 (by omega)
    | 1, _ => exact hp 1 (by omega)
    | 2, _ => exact hp 2 (by omega)
    | 3, _ => exact hp 3 (by omega)
    | 4, _ => exact hp 4 (by omega)
    | 5, _ => exact hp 5 (by omega)
  · exact zfr_up (zfr_refl _ _) (by simp) _
end ZC
