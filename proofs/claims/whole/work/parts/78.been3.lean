/-! ===== PURE PART: been: the weeks that agree ===== -/
def z_wa (S : zS) (ns : Nat) (sn : Nat → Nat × Nat × Nat) (p : Nat) (pl : zP) (j : Nat) : Bool := !z_in pl (j + 1) && decide (z_agr S ns sn p (z_ga pl (j + 1)) = none)
theorem c_wta {N : Nat} {R : Nat → Nat → Nat} {q nu ns : Nat} {S : zS} {sn : Nat → Nat × Nat × Nat} {I : Nat → Nat → Int32} {pl : zP} (hN : 5000 ≤ N) (hR : sR R q) (hso : z_sok S) (hS : zCS S q I) (hk : zNok nu ns sn) (h7 : nu ≤ 7) (hn : zCN ns sn 43 I) {p : Nat} (hp : p < nu) (hpl : zPl pl (I (q + 7 + 2 + p))) (ho : z_pok S pl) : ∃ J, f_X8_weeksThatAgree N R 69 q 43 (nI p) I = some (nI (zbt (z_wa S ns sn p pl) 20), J) ∧ zfr [71, q + 6, q + 16] I J := by
  have hq9 := sR_q hR
  have kp := q_t4 hR p (by omega)
  have L := zm_loop (fun n i (s : Int32 × (Nat → Nat → Int32)) => f_X8_weeksThatAgree_6 N R n 69 q 43 (nI p) s.1 (nI (i + 1)) s.2) (fun i s => s.1 = nI (zbt (z_wa S ns sn p pl) i) ∧ zfr [71, q + 6, q + 16] I s.2) (fun y => y.1 = nI (zbt (z_wa S ns sn p pl) 20) ∧ zfr [71, q + 6, q + 16] I y.2) 20
    (fun n s hs => by
      obtain ⟨a, s⟩ := s
      obtain ⟨h1, h2⟩ := hs
      have h1 : a = _ := h1
      subst h1
      refine ⟨(nI (zbt (z_wa S ns sn p pl) 20), s), ?_, rfl, h2⟩
      simp (disch := omega) only [f_X8_weeksThatAgree_6, zl_20, nI_ltI, if_pos])
    (fun n i s hi hs => by
      obtain ⟨a, s⟩ := s
      obtain ⟨h1, h2⟩ := hs
      have h1 : a = _ := h1
      subst h1
      have h2 : zfr [71, q + 6, q + 16] I s := h2
      have spl : zPl pl (s (q + 7 + 2 + p)) := by
        rw [h2 _ (by simp; omega)]
        exact hpl
      have e1 := c_isAwayIn (N := N) (R := R) kp spl ho.2.2.2.2.1 (j := i + 1) (by omega) (by omega)
      by_cases ha : pl 4 / 2 ^ (i + 1 - 1) % 2 = 1
      · rw [if_pos ha] at e1
        have e8 : zbt (z_wa S ns sn p pl) (i + 1) = zbt (z_wa S ns sn p pl) i := zbt_f (fun h => by
          unfold z_wa at h
          rw [z_in_t ha] at h
          cases h)
        refine ⟨(nI (zbt (z_wa S ns sn p pl) (i + 1)), s), ?_, rfl, h2⟩
        rw [e8]
        simp (disch := omega) only [f_X8_weeksThatAgree_6, q_k0 hR, q_r5 hR, q_t0 hR, q_t1 hR, q_t2 hR, q_t3 hR, kp, e1, zl_0, zl_1, zl_20, nI_add, nI_leI, nI_ltI, nI_eq, nI_clamp, gd_t, gd_pos, lt_eq, Option.bind_some, true_and, and_true, not_true, not_false_iff, false_or, or_false, if_true, if_false, if_pos, if_neg]
      · rw [if_neg ha] at e1
        have hin : z_in pl (i + 1) = false := Bool.eq_false_iff.mpr (z_in_f ha)
        obtain ⟨J, j1, j2⟩ := c_agree hN hR hso (zCS_fr hS (fun c h1 h3 => h2 c (by simp; omega))) hk h7 (zCN_fr hn (fun c h1 h3 => h2 c (by simp; omega))) hp spl ho (w := i + 1) (by omega)
        refine ⟨(nI (zbt (z_wa S ns sn p pl) (i + 1)), J), ?_, rfl, zfr_trans h2 j2⟩
        by_cases hg : z_agr S ns sn p (z_ga pl (i + 1)) = none
        · rw [if_pos hg] at j1
          have e8 : zbt (z_wa S ns sn p pl) (i + 1) = zbt (z_wa S ns sn p pl) i ||| 2 ^ i := zbt_t (by
            unfold z_wa
            rw [hin, decide_eq_true hg]
            rfl)
          rw [e8]
          simp (disch := omega) only [f_X8_weeksThatAgree_6, kd_69, q_k0 hR, q_r5 hR, q_t0 hR, q_t1 hR, q_t2 hR, q_t3 hR, kp, e1, j1, zb_shl, zb_or, pk_sub, Nat.add_sub_cancel, zl_0, zl_1, zl_20, nI_add, nI_leI, nI_ltI, nI_eq, nI_clamp, gd_t, gd_pos, lt_eq, Option.bind_some, true_and, and_true, not_true, not_false_iff, false_or, or_false, if_true, if_false, if_pos, if_neg]
        · rw [if_neg hg] at j1
          have e8 : zbt (z_wa S ns sn p pl) (i + 1) = zbt (z_wa S ns sn p pl) i := zbt_f (fun h => by
            unfold z_wa at h
            rw [hin, decide_eq_false hg] at h
            cases h)
          rw [e8]
          simp (disch := omega) only [f_X8_weeksThatAgree_6, kd_69, q_k0 hR, q_r5 hR, q_t0 hR, q_t1 hR, q_t2 hR, q_t3 hR, kp, e1, j1, zl_0, zl_1, zl_20, nI_add, nI_leI, nI_ltI, nI_eq, nI_clamp, gd_t, gd_pos, lt_eq, Option.bind_some, true_and, and_true, not_true, not_false_iff, false_or, or_false, if_true, if_false, if_pos, if_neg]) 20 0 (0, I) N (by omega) (by omega) ⟨rfl, zfr_refl _ _⟩
  obtain ⟨⟨v, J⟩, l1, l2, l3⟩ := L
  have l2 : v = _ := l2
  subst l2
  exact ⟨J, l1, l3⟩
