/-! ===== PURE PART: been: whether a guess agrees ===== -/
def z_agr (S : zS) (ns : Nat) (sn : Nat → Nat × Nat × Nat) (p : Nat) (g : zP) : Option Nat := zfs (fun j => decide (¬ z_sx ns sn p (j + 1) (z_wks S (j + 1) g 3) = none)) (z_lw sn p ns) 0
theorem z_ga_pok {S : zS} {pl : zP} (h : z_pok S pl) {w : Nat} (hw : w ≤ 30) : z_pok S (z_ga pl w) := by
  unfold z_ga
  split
  · exact h
  · exact z_pok_away h (Nat.or_lt_two_pow h.2.2.2.2.1 (Nat.pow_lt_pow_right (by omega) (by omega)))
section ZC
variable {N : Nat} {R : Nat → Nat → Nat} {q nu ns : Nat} {S : zS} {sn : Nat → Nat × Nat × Nat} {I : Nat → Nat → Int32} {pl : zP}
theorem c_guess (hR : sR R q) {p : Nat} (hp : p < 7) (hpl : zPl pl (I (q + 7 + 2 + p))) (ho : pl 4 < 2 ^ 30) {w : Nat} (hw : w ≤ 30) : ∃ J, f_X8_guessAway N R 69 q (nI p) (nI w) I = some ((), J) ∧ zPl (z_ga pl w) (J 71) ∧ zfr [71] I J := by
  have hq9 := sR_q hR
  obtain ⟨J, j1, j2, j3⟩ := c_become (N := N) (R := R) (q_t4 hR p hp) kd_71 (by omega) hpl
  unfold z_ga
  by_cases h0 : w = 0
  · rw [if_pos h0]
    subst h0
    refine ⟨J, ?_, j2, j3⟩
    simp (disch := omega) only [f_X8_guessAway, kd_69, kd_71, r69_3 hR, q_k0 hR, q_r5 hR, q_t0 hR, q_t1 hR, q_t2 hR, q_t3 hR, j1, zl_0, nI_leI, nI_ltI, nI_clamp, gd_t, gd_pos, lt_eq, Option.bind_some, true_and, and_true, not_true, not_false_iff, false_or, or_false, if_true, if_false, if_pos, if_neg]
  · rw [if_neg h0]
    have l4 := j2 4 (by omega)
    refine ⟨sm_up J 71 (sm_up (J 71) 4 (nI (pl 4 ||| 2 ^ (w - 1)))), ?_, by rw [up_s]; exact zPl_up j2 4 _, zfr_up j3 (by simp) _⟩
    simp (disch := omega) only [f_X8_guessAway, kd_69, kd_71, r69_3 hR, q_k0 hR, q_r5 hR, q_t0 hR, q_t1 hR, q_t2 hR, q_t3 hR, j1, l4, zb_shl, zb_or, pk_sub, zl_0, zl_1, nI_leI, nI_ltI, nI_clamp, gd_t, gd_pos, lt_eq, Option.bind_some, true_and, and_true, not_true, not_false_iff, false_or, or_false, if_true, if_false, if_pos, if_neg]
theorem c_agree (hN : 5000 ≤ N) (hR : sR R q) (hso : z_sok S) (hS : zCS S q I) (hk : zNok nu ns sn) (h7 : nu ≤ 7) (hn : zCN ns sn 43 I) {p : Nat} (hp : p < nu) (hpl : zPl pl (I (q + 7 + 2 + p))) (ho : z_pok S pl) {w : Nat} (hw : w ≤ 30) : ∃ J, f_X8_agrees N R 69 q 43 (nI p) (nI w) I = some ((if z_agr S ns sn p (z_ga pl w) = none then 1 else 0), J) ∧ zfr [71, q + 6, q + 16] I J := by
  have hq9 := sR_q hR
  obtain ⟨J0, b1, b2, b3⟩ := c_guess (N := N) hR (show p < 7 by omega) hpl ho.2.2.2.2.1 hw
  have b3 : zfr [71, q + 6, q + 16] I J0 := zfr_mono b3 (by simp)
  have hg := z_ga_pok ho hw
  have fs : ∀ {J : Nat → Nat → Int32}, zfr [71, q + 6, q + 16] I J → zCS S q J := fun h => zCS_fr hS (fun c h1 h2 => h c (by simp; omega))
  have fn : ∀ {J : Nat → Nat → Int32}, zfr [71, q + 6, q + 16] I J → zCN ns sn 43 J := fun h => zCN_fr hn (fun c h1 h2 => h c (by simp; omega))
  have e0 := c_lastWeek (N := N) hN hR hk h7 (fn b3) (show p < 7 by omega)
  have l20 := z_lw_le hk p ns (Nat.le_refl _)
  have h8 : ∀ i, z_wks S i (z_ga pl w) 3 ≤ 8 := fun i => by
    have := z_pok_wks i _ hg
    have h1 := (hso.2.1 _ this.2.2.1).2.1
    have h2 := this.2.2.2.1
    omega
  have L := zfs_loop (fun n i s => f_X8_agrees_18 N R n 69 q 43 (nI p) (nI (z_lw sn p ns)) (nI (i + 1)) s) (fun j => decide (¬ z_sx ns sn p (j + 1) (z_wks S (j + 1) (z_ga pl w) 3) = none)) (fun i s => zPl (z_wks S i (z_ga pl w)) (s 71) ∧ zfr [71, q + 6, q + 16] I s) (fun o y => y.1 = (if o = none then 1 else 0) ∧ zfr [71, q + 6, q + 16] I y.2) (z_lw sn p ns)
    (fun n s hs => ⟨(1, s), by simp (disch := omega) only [f_X8_agrees_18, nI_ltI, if_pos], rfl, hs.2⟩)
    (fun n i s hi hs hc => by
      obtain ⟨K, k1, k2, k3⟩ := c_pass (m := 1) hN hR.q hso (fs hs.2) kd_71 hs.1 (z_pok_wks i _ hg) (by omega)
      have k4 := zfr_trans hs.2 k3
      have w3 : K 71 3 = nI (z_wks S (i + 1) (z_ga pl w) 3) := by
        rw [z_wks_s]
        exact k2 3 (by omega)
      have e := c_spk (N := N) hN hR hk h7 (fn k4) (p := p) (w := i + 1) (b := z_wks S (i + 1) (z_ga pl w) 3) (by omega) (by omega) (h8 _)
      rw [if_neg (of_decide_eq_true hc)] at e
      exact ⟨(0, K), by simp (disch := omega) only [f_X8_agrees_18, kd_69, kd_71, kd_43, r69_3 hR, q_k0 hR, k1, w3, e, zl_0, zl_1, nI_ltI, nI_eq, gd_t, gd_pos, lt_eq, Option.bind_some, true_and, and_true, not_true, not_false_iff, false_or, or_false, if_true, if_false, if_pos, if_neg], rfl, k4⟩)
    (fun n i s hi hs hc => by
      obtain ⟨K, k1, k2, k3⟩ := c_pass (m := 1) hN hR.q hso (fs hs.2) kd_71 hs.1 (z_pok_wks i _ hg) (by omega)
      have k4 := zfr_trans hs.2 k3
      have w3 : K 71 3 = nI (z_wks S (i + 1) (z_ga pl w) 3) := by
        rw [z_wks_s]
        exact k2 3 (by omega)
      have e := c_spk (N := N) hN hR hk h7 (fn k4) (p := p) (w := i + 1) (b := z_wks S (i + 1) (z_ga pl w) 3) (by omega) (by omega) (h8 _)
      rw [if_pos (Decidable.of_not_not (fun h => hc (decide_eq_true h)))] at e
      refine ⟨K, ?_, ?_, k4⟩
      · simp (disch := omega) only [f_X8_agrees_18, kd_69, kd_71, kd_43, r69_3 hR, q_k0 hR, k1, w3, e, zl_0, zl_1, nI_add, nI_ltI, nI_eq, gd_t, gd_pos, lt_eq, Option.bind_some, true_and, and_true, not_true, not_false_iff, false_or, or_false, if_true, if_false, if_pos, if_neg]
      · rw [z_wks_s]
        exact k2) (z_lw sn p ns) 0 J0 N (by omega) (by omega) ⟨b2, b3⟩
  obtain ⟨⟨v, J⟩, l1, l2, l3⟩ := L
  have l2 : v = (if z_agr S ns sn p (z_ga pl w) = none then 1 else 0) := l2
  subst l2
  refine ⟨J, Eq.trans ?_ l1, l3⟩
  simp (disch := omega) only [f_X8_agrees, kd_69, kd_43, b1, e0, zl_1, Nat.zero_add, gd_t, gd_pos, lt_eq, Option.bind_some, true_and, and_true, not_true, not_false_iff, false_or, or_false, if_true, if_false, if_pos, if_neg]
end ZC
