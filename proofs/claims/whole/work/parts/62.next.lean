/-! ===== PURE PART: next, heard, stuck ===== -/
def z_np1 (o : Option Nat) : Option Nat := o.map (· + 1)
theorem zo_next_ok {N : Nat} (hN : 5000 ≤ N) : zo_next N zInv := by
  intro I R a1 hI
  obtain ⟨q, S, nu, pr, T, na, A, ns, sn, st, nt, tp, fp, im, hR, hO, hC, hM⟩ := hI
  have hR : sR R q := hR
  have hC : zCi q S nu T na A ns sn st nt tp fp im I := hC
  have hM : zMi S nu T na A ns sn st nt tp fp im I := hM
  obtain ⟨hso, h7, ⟨hT1, hT2, hT3, hT4⟩, hAk, hNk, hTp, hIm⟩ := id hO
  have h6 := hso.1
  have hpo : ∀ p, p < nu → z_pok S (T.2.2 p) := fun p hp => (hT4 p hp).1
  have haw : ∀ p, p < nu → T.2.2 p 4 < 2 ^ 30 := fun p hp => (hpo p hp).2.2.2.2.1
  obtain ⟨c1, c2, c3, c4, c5, c6, c7, c8, c9, c10⟩ := id hC
  have cS1 := c1.1
  have cV1 := c2.1
  have hq := hR.q
  have ht := q_t hR
  have hM0 := zcd_M hM 0
  obtain ⟨d1, d2, d3, d4, d5, d6, d7, d8, d9, d10⟩ := id hM0
  rcases zrx a1 nu with ⟨p, hp, rfl⟩ | hx
  · have hq9 := sR_q hR
    have e1 := c_pupil_in (N := N) hR c2 h7 hp
    have e2 := m_isPupil (N := N) hR h7 d2 (nI p)
    rw [nI_toInt (by omega), if_pos (by omega)] at e2
    have kp := q_t9 hR (show p < 7 by omega)
    have pl := c2.2 p hp
    rw [show q + 7 + 2 + p = q + 9 + p by omega] at pl
    have h8 : ∀ i, z_wks S i (T.2.2 p) 3 ≤ 8 := fun i => by
      have := z_pok_wks i _ (hpo p hp)
      have h1 := (hso.2.1 _ this.2.2.1).2.1
      have h2 := this.2.2.2.1
      omega
    have h80 : T.2.2 p 3 ≤ 8 := h8 0
    obtain ⟨J0, b1, b2, b3⟩ := c_become (N := N) (R := R) kp kd_57 (by omega) pl
    have b3 : zfr [57, q + 6, q + 16] I J0 := zfr_mono b3 (by simp)
    have L := zfs_loop (fun n i s => f_X11_next_16 N R n 0 (q + 9 + p) (nI (i + 1)) s) (fun i => decide (T.2.2 p 3 < z_wks S (i + 1) (T.2.2 p) 3)) (fun i s => zPl (z_wks S i (T.2.2 p)) (s 57) ∧ zfr [57, q + 6, q + 16] I s) (fun o y => y.1 = .inl (zn1 (z_np1 o)) ∧ zfr [57, q + 6, q + 16] I y.2) 60
      (fun n s hs => ⟨(.inl (-1), s), by simp (disch := omega) only [f_X11_next_16, zl_60, nI_ltI, gd_t, gd_pos, lt_eq, Option.bind_some, true_and, and_true, not_true, not_false_iff, false_or, or_false, if_true, if_false, if_pos, if_neg, zcd], rfl, hs.2⟩)
      (fun n i s hi hs hc => by
        obtain ⟨K, k1, k2, k3⟩ := c_pass (m := 1) hN hR.q hso (zW_S hR hs.2 c1) kd_57 hs.1 (z_pok_wks i _ (hpo p hp)) (by omega)
        have k4 := zfr_trans hs.2 k3
        have w3 : K 57 3 = nI (z_wks S (i + 1) (T.2.2 p) 3) := by
          rw [z_wks_s]
          exact k2 3 (by omega)
        have l3 : K (q + 9 + p) 3 = nI (T.2.2 p 3) := by
          rw [k4 (q + 9 + p) (by simp; omega)]
          exact pl 3 (by omega)
        have hc := of_decide_eq_true hc
        have g8 := h8 (i + 1)
        exact ⟨(.inl (nI (i + 1)), K), by simp (disch := omega) only [f_X11_next_16, kd_0, hR.2.2.1, q_k0 hR, r0_8 hR, kd_57, kp, k1, w3, l3, zl_0, zl_1, zl_2, zl_3, zl_4, zl_5, zl_6, zl_7, zl_8, zl_9, zl_10, zl_12, zl_14, zl_16, zl_20, zl_21, zl_28, zl_30, zl_32, zl_37, zl_40, zl_60, zl_64, zl_99, zl_100, zl_680, zl_700, zl_999, zl_9999, zl_10000, zl_20000, zl_20001, zl_20002, zl_20003, zl_20004, zl_20005, zl_20006, zl_20007, nI_eq, nI_ltI, nI_leI, gd_t, gd_pos, lt_eq, Option.bind_some, true_and, and_true, not_true, not_false_iff, false_or, or_false, if_true, if_false, if_pos, if_neg, zcd], rfl, k4⟩)
      (fun n i s hi hs hc => by
        obtain ⟨K, k1, k2, k3⟩ := c_pass (m := 1) hN hR.q hso (zW_S hR hs.2 c1) kd_57 hs.1 (z_pok_wks i _ (hpo p hp)) (by omega)
        have k4 := zfr_trans hs.2 k3
        have w3 : K 57 3 = nI (z_wks S (i + 1) (T.2.2 p) 3) := by
          rw [z_wks_s]
          exact k2 3 (by omega)
        have l3 : K (q + 9 + p) 3 = nI (T.2.2 p 3) := by
          rw [k4 (q + 9 + p) (by simp; omega)]
          exact pl 3 (by omega)
        have hc : ¬ T.2.2 p 3 < z_wks S (i + 1) (T.2.2 p) 3 := fun h => hc (decide_eq_true h)
        have g8 := h8 (i + 1)
        refine ⟨K, ?_, ?_, k4⟩
        · simp (disch := omega) only [f_X11_next_16, kd_0, hR.2.2.1, q_k0 hR, r0_8 hR, kd_57, kp, k1, w3, l3, zl_0, zl_1, zl_2, zl_3, zl_4, zl_5, zl_6, zl_7, zl_8, zl_9, zl_10, zl_12, zl_14, zl_16, zl_20, zl_21, zl_28, zl_30, zl_32, zl_37, zl_40, zl_60, zl_64, zl_99, zl_100, zl_680, zl_700, zl_999, zl_9999, zl_10000, zl_20000, zl_20001, zl_20002, zl_20003, zl_20004, zl_20005, zl_20006, zl_20007, nI_eq, nI_ltI, nI_leI, nI_add, gd_t, gd_pos, lt_eq, Option.bind_some, true_and, and_true, not_true, not_false_iff, false_or, or_false, if_true, if_false, if_pos, if_neg, zcd]
        · rw [z_wks_s]
          exact k2) 60 0 J0 N (by omega) (by omega) ⟨b2, b3⟩
    obtain ⟨⟨v, J⟩, j1, j2, j4⟩ := L
    have j2 : v = _ := j2
    subst j2
    have hJ := zW_s j4
    have hMJ := zMq hR hM hJ
    have f2 := m_isPupil (N := N) hR h7 hMJ.2.1 (nI p)
    rw [nI_toInt (by omega), if_pos (by omega)] at f2
    obtain ⟨X, x1, x2, x3, x4, x5⟩ := m_pk0 hN hR h7 hMJ
    have xb := (x2.2.1.2 p hp).2.2.2.1
    have L := zfs_loop (fun n i s => f_X12_next_40 N R n 80 (nI p) (nI (T.2.2 p 3)) (-nI 1) (nI (i + 1)) s) (fun i => decide (T.2.2 p 3 < z_wks S (i + 1) (T.2.2 p) 3)) (fun i s => zMV nu (fun p => z_wks S i (T.2.2 p)) s ∧ zfm zLd zFd X s) (fun o y => y.1 = zn1 (z_np1 o) ∧ zMi S nu T na A ns sn st nt tp fp im y.2 ∧ y.2 80 3 = X 80 3 ∧ ∀ k, k < 80 → y.2 k = X k) 60
      (fun n s hs => by
        obtain ⟨L, l1, l2, l3, l4⟩ := m_back hN hR h7 x2 x3 hs.2
        exact ⟨(-nI 1, L), by simp (disch := omega) only [f_X12_next_40, kd_80, r80_37 hR, kd_103, l1, zl_0, zl_60, nI_ltI, gd_t, gd_pos, lt_eq, Option.bind_some, true_and, and_true, not_true, not_false_iff, false_or, or_false, if_true, if_false, if_pos, if_neg, zcd], rfl, l2, l3, l4⟩)
      (fun n i s hi hs hc => by
        have hS2 := zMS_fr x2.1 hs.2 (by decide)
        obtain ⟨K, k1, k2, k3, k4⟩ := m_week hN hR hso h7 hS2 hs.1 (fun p hp => z_pok_wks i _ (hpo p hp))
        have v3 : K 98 p = nI (z_wks S (i + 1) (T.2.2 p) 3) := by
          rw [z_wks_s]
          exact (k2.2 p hp).2.2.2.1
        obtain ⟨L, l1, l2, l3, l4⟩ := m_back hN hR h7 x2 x3 (zfm_trans hs.2 (zfm_d k4 (by decide) (by decide)))
        have hc := of_decide_eq_true hc
        have g8 := h8 (i + 1)
        refine ⟨(nI (i + 1), L), ?_, rfl, l2, l3, l4⟩
        by_cases h60 : 60 < i + 2
        · simp (disch := omega) only [f_X12_next_40, kd_80, r80_37 hR, kd_103, r80_28 hR, kd_98, l1, k1, v3, zl_0, zl_1, zl_60, nI_ltI, nI_leI, nI_clamp, nI_eq, nI_add, gd_t, gd_pos, lt_eq, Option.bind_some, true_and, and_true, not_true, not_false_iff, false_or, or_false, if_true, if_false, if_pos, if_neg, zcd]
        · simp (disch := omega) only [f_X12_next_40, kd_80, r80_37 hR, kd_103, r80_28 hR, kd_98, l1, k1, v3, zl_0, zl_1, zl_60, nI_ltI, nI_leI, nI_clamp, nI_eq, nI_add, nn_m1, if_false, gd_t, gd_pos, lt_eq, Option.bind_some, true_and, and_true, not_true, not_false_iff, false_or, or_false, if_true, if_false, if_pos, if_neg, zcd])
      (fun n i s hi hs hc => by
        have hS2 := zMS_fr x2.1 hs.2 (by decide)
        obtain ⟨K, k1, k2, k3, k4⟩ := m_week hN hR hso h7 hS2 hs.1 (fun p hp => z_pok_wks i _ (hpo p hp))
        have v3 : K 98 p = nI (z_wks S (i + 1) (T.2.2 p) 3) := by
          rw [z_wks_s]
          exact (k2.2 p hp).2.2.2.1
        have hc : ¬ T.2.2 p 3 < z_wks S (i + 1) (T.2.2 p) 3 := fun h => hc (decide_eq_true h)
        have g8 := h8 (i + 1)
        refine ⟨K, ?_, zMV_cong k2 (fun p hp => (z_wks_s S i _).symm), zfm_trans hs.2 (zfm_d k4 (by decide) (by decide))⟩
        simp (disch := omega) only [f_X12_next_40, kd_80, r80_28 hR, kd_98, k1, v3, zl_0, zl_1, zl_60, nI_ltI, nI_leI, nI_clamp, nI_eq, nI_add, gd_t, gd_pos, lt_eq, Option.bind_some, true_and, and_true, not_true, not_false_iff, false_or, or_false, if_true, if_false, if_pos, if_neg, zcd]) 60 0 X N (by omega) (by omega) ⟨x2.2.1, zfm_refl _ _ _⟩
    obtain ⟨⟨v, L1⟩, l1, l2, l3, l4, l5⟩ := L
    have l2 : v = _ := l2
    subst l2
    have l4 : L1 80 3 = nI 0 := (l4.trans x4).trans (zcd_3 J 0)
    refine ⟨_, J, _, L1, Eq.trans ?_ j1, Eq.trans ?_ l1, ag_ok _ _ _ l4, zInv_q hR hO hC hJ l3 (fun k hk => ((l5 k hk).trans (x5 k hk)).trans (zcd_lo J 0 k hk))⟩
    · simp (disch := omega) only [f_X11_next, kd_0, r0_8 hR, kd_57, e1, tb_l, b1, zl_1, Nat.zero_add, gd_t, gd_pos, lt_eq, Option.bind_some, true_and, and_true, not_true, not_false_iff, false_or, or_false, if_true, if_false, if_pos, if_neg, zcd]
    · simp (disch := omega) only [f_X12_next, kd_80, zl_0, zl_1, f2, r80_37 hR, kd_103, r80_28 hR, kd_98, xb, x1, nI_eq, nI_ltI, nI_leI, nI_clamp, Nat.zero_add, gd_t, gd_pos, lt_eq, Option.bind_some, true_and, and_true, not_true, not_false_iff, false_or, or_false, if_true, if_false, if_pos, if_neg, zcd]
  · have e1 := c_pupil_out (N := N) hR c2 h7 hx
    have e2 := m_isPupil (N := N) hR h7 d2 a1
    rw [if_neg (by omega)] at e2
    refine ⟨_, I, 0, zcd I 1, ?_, ?_, ag_n _ _ (zcd_3 I 1), zInv_q hR hO hC (zfr_refl _ _) (zcd_M hM 1) (zcd_lo I 1)⟩
    · simp (disch := omega) only [f_X11_next, kd_0, hR.2.2.1, q_k0 hR, q_r5 hR, q_t0 hR, e1, tb_r, tb_l, gd_t, gd_pos, lt_eq, Option.bind_some, true_and, and_true, not_true, not_false_iff, false_or, or_false, if_true, if_false, if_pos, if_neg, zcd]
    · simp (disch := omega) only [f_X12_next, kd_80, zl_0, zl_1, e2, m_fail, gd_t, gd_pos, lt_eq, Option.bind_some, true_and, and_true, not_true, not_false_iff, false_or, or_false, if_true, if_false, if_pos, if_neg, zcd, up_s, up_n, up_uu, nI_eq]
theorem zz_hh (A B x y : Nat) : nI A - nI B + (nI x - nI y) = nI (A + x) - nI (B + y) := by
  rw [← nI_add, ← nI_add, Int32.sub_eq_add_neg, Int32.sub_eq_add_neg, Int32.sub_eq_add_neg, Int32.neg_add, Int32.sub_eq_add_neg (-nI B)]
  ac_rfl
theorem zo_heard_ok {N : Nat} (hN : 5000 ≤ N) : zo_heard N zInv := by
  intro I R a1 hI
  obtain ⟨q, S, nu, pr, T, na, A, ns, sn, st, nt, tp, fp, im, hR, hO, hC, hM⟩ := hI
  have hR : sR R q := hR
  have hC : zCi q S nu T na A ns sn st nt tp fp im I := hC
  have hM : zMi S nu T na A ns sn st nt tp fp im I := hM
  obtain ⟨hso, h7, ⟨hT1, hT2, hT3, hT4⟩, hAk, hNk, hTp, hIm⟩ := id hO
  have h6 := hso.1
  have hpo : ∀ p, p < nu → z_pok S (T.2.2 p) := fun p hp => (hT4 p hp).1
  have haw : ∀ p, p < nu → T.2.2 p 4 < 2 ^ 30 := fun p hp => (hpo p hp).2.2.2.2.1
  obtain ⟨c1, c2, c3, c4, c5, c6, c7, c8, c9, c10⟩ := id hC
  have cS1 := c1.1
  have cV1 := c2.1
  have hq := hR.q
  have ht := q_t hR
  have hM0 := zcd_M hM 0
  obtain ⟨d1, d2, d3, d4, d5, d6, d7, d8, d9, d10⟩ := id hM0
  have e2 := m_isIn (N := N) (R := R) (I := zcd I 0) a1.toInt64 0 60
  rw [z64, zq_0, zq_60] at e2
  rcases zrg a1 0 60 with ⟨m, -, hm, rfl⟩ | hx
  · have hq9 := sR_q hR
    have e1 := c_betw_in (N := N) (R := R) (I := I) (m := 60) (by omega) (Nat.zero_le m) hm
    have L := zm_loop (fun n i (s : Int32 × (Nat → Nat → Int32)) => f_X11_heard_11 N R n 0 (nI m) s.1 (nI i) s.2) (fun i s => s.1 = nI (zsm (fun p => z_wks S m (T.2.2 p) 3) i) - nI (zsm (fun p => T.2.2 p 3) i) ∧ zfr [57, q + 6, q + 16] I s.2) (fun y => y.1 = .inl (nI (zsm (fun p => z_wks S m (T.2.2 p) 3) nu) - nI (zsm (fun p => T.2.2 p 3) nu)) ∧ zfr [57, q + 6, q + 16] I y.2) nu
      (fun n s hs => by
        obtain ⟨a, s⟩ := s
        obtain ⟨h1, h2⟩ := hs
        have h1 : a = _ := h1
        subst h1
        have g := (zW_V hR h2 h7 c2).1
        try dsimp only at g h2 ⊢
        refine ⟨(.inl (nI (zsm (fun p => z_wks S m (T.2.2 p) 3) nu) - nI (zsm (fun p => T.2.2 p 3) nu)), s), ?_, rfl, h2⟩
        simp (disch := omega) only [f_X11_heard_11, kd_0, hR.2.2.1, q_k0 hR, q_r5 hR, q_t0 hR, g, nI_leI, gd_t, gd_pos, lt_eq, Option.bind_some, true_and, and_true, not_true, not_false_iff, false_or, or_false, if_true, if_false, if_pos, if_neg, zcd])
      (fun n i s hi hs => by
        obtain ⟨a, s⟩ := s
        obtain ⟨h1, h2⟩ := hs
        have h1 : a = _ := h1
        subst h1
        try dsimp only at h2 ⊢
        have hV2 := zW_V hR h2 h7 c2
        have g := hV2.1
        obtain ⟨J1, J, j1, j2, j3, j4⟩ := c_dr hN hR hso (zW_S hR h2 c1) (q_t4 hR i (by omega)) (by omega) (hV2.2 i hi) (hpo i hi) hm
        have g3 := j3 3 (by omega)
        have g4 : J (q + 7 + 2 + i) 3 = nI (T.2.2 i 3) := by
          rw [j4 _ (by simp; omega)]
          exact hV2.2 i hi 3 (by omega)
        have k4 := q_t4 hR i (by omega)
        refine ⟨(nI (zsm (fun p => z_wks S m (T.2.2 p) 3) (i + 1)) - nI (zsm (fun p => T.2.2 p 3) (i + 1)), J), ?_, rfl, zfr_trans h2 j4⟩
        have ee : nI (zsm (fun p => z_wks S m (T.2.2 p) 3) (i + 1)) - nI (zsm (fun p => T.2.2 p 3) (i + 1)) = nI (zsm (fun p => z_wks S m (T.2.2 p) 3) i) - nI (zsm (fun p => T.2.2 p 3) i) + (nI (z_wks S m (T.2.2 i) 3) - nI (T.2.2 i 3)) := (zz_hh _ _ _ _).symm
        rw [ee]
        simp (disch := omega) only [f_X11_heard_11, kd_0, hR.2.2.1, q_k0 hR, q_r5 hR, q_t0 hR, q_t1 hR, q_t2 hR, q_t3 hR, g, k4, r0_8 hR, kd_57, j1, j2, g3, g4, nI_leI, nI_ltI, nI_clamp, nI_add, zl_0, zl_1, gd_t, gd_pos, lt_eq, Option.bind_some, true_and, and_true, not_true, not_false_iff, false_or, or_false, if_true, if_false, if_pos, if_neg, zcd]) nu 0 (0, I) N (by omega) (by omega) ⟨by show (0 : Int32) = nI 0 - nI 0; decide, zfr_refl _ _⟩
    obtain ⟨⟨v, J⟩, j1, j2, j4⟩ := L
    have j2 : v = _ := j2
    subst j2
    have hJ := zW_s j4
    have hMJ := zMq hR hM hJ
    have f6 := m_isIn (N := N) (R := R) (I := zcd J 0) (nI m).toInt64 0 60
    rw [z64, zq_0, zq_60, nI_toInt (by omega), if_pos (by omega)] at f6
    obtain ⟨X, K, L, x1, k1, l1, x2, k2, k3, l2, l3, l4⟩ := m_dr hN hR hO hMJ hm
    have l3 : L 80 3 = nI 0 := l3.trans (zcd_3 J 0)
    have l4 : ∀ k, k < 80 → L k = J k := fun k hk => (l4 k hk).trans (zcd_lo J 0 k hk)
    have b1 := m_allBars hN hR x2.2.1 h7
    have b2 := m_allBars hN hR k3 h7
    refine ⟨_, J, nI (zsm (fun p => z_wks S m (T.2.2 p) 3) nu) - nI (zsm (fun p => T.2.2 p 3) nu), L, Eq.trans ?_ j1, ?_, ag_ok _ _ _ l3, zInv_q hR hO hC hJ l2 l4⟩
    · simp (disch := omega) only [f_X11_heard, zl_0, zl_60, e1, tb_l, gd_t, gd_pos, lt_eq, Option.bind_some, true_and, and_true, not_true, not_false_iff, false_or, or_false, if_true, if_false, if_pos, if_neg, zcd]
    · simp (disch := omega) only [f_X12_heard, kd_80, zl_0, zl_1, f6, r80_37 hR, kd_103, x1, b1, k1, b2, l1, nI_eq, gd_t, gd_pos, lt_eq, Option.bind_some, true_and, and_true, not_true, not_false_iff, false_or, or_false, if_true, if_false, if_pos, if_neg, zcd]
  · have e1 := c_betw_out (N := N) (R := R) (I := I) (a := 0) (m := 60) (by omega) (by omega) hx
    rw [if_neg (by omega)] at e2
    refine ⟨_, I, 0, zcd I 1, ?_, ?_, ag_i _ (zcd_3 I 1), zInv_q hR hO hC (zfr_refl _ _) (zcd_M hM 1) (zcd_lo I 1)⟩
    · simp (disch := omega) only [f_X11_heard, kd_0, hR.2.2.1, q_k0 hR, zl_0, zl_1, zl_60, e1, tb_r, gd_t, gd_pos, lt_eq, Option.bind_some, true_and, and_true, not_true, not_false_iff, false_or, or_false, if_true, if_false, if_pos, if_neg, zcd]
    · simp (disch := omega) only [f_X12_heard, kd_80, zl_0, zl_1, zl_2, e2, m_fail, gd_t, gd_pos, lt_eq, Option.bind_some, true_and, and_true, not_true, not_false_iff, false_or, or_false, if_true, if_false, if_pos, if_neg, zcd, up_s, up_n, up_uu, nI_eq]
theorem zb_not (c : Nat → Bool) {n : Nat} (hn : n ≤ 7) : nI (2 ^ n - 1) &&& (nI (zbt c n) ^^^ (-1)) = nI (zbt (fun i => !c i) n) := by
  apply Int32.toBitVec_inj.1
  show BitVec.ofNat 32 (2 ^ n - 1) &&& (BitVec.ofNat 32 (zbt c n) ^^^ BitVec.allOnes 32) = BitVec.ofNat 32 (zbt (fun i => !c i) n)
  apply BitVec.eq_of_getLsbD_eq
  intro i hi
  rw [BitVec.getLsbD_and, BitVec.getLsbD_xor, BitVec.getLsbD_ofNat, BitVec.getLsbD_ofNat, BitVec.getLsbD_ofNat, BitVec.getLsbD_allOnes, zbt_bit, zbt_bit, Nat.testBit_two_pow_sub_one]
  by_cases h : i < n
  · simp [h, hi]
  · simp [h]
theorem zo_stuck_ok {N : Nat} (hN : 5000 ≤ N) : zo_stuck N zInv := by
  intro I R hI
  obtain ⟨q, S, nu, pr, T, na, A, ns, sn, st, nt, tp, fp, im, hR, hO, hC, hM⟩ := hI
  have hR : sR R q := hR
  have hC : zCi q S nu T na A ns sn st nt tp fp im I := hC
  have hM : zMi S nu T na A ns sn st nt tp fp im I := hM
  obtain ⟨hso, h7, ⟨hT1, hT2, hT3, hT4⟩, hAk, hNk, hTp, hIm⟩ := id hO
  have h6 := hso.1
  have hpo : ∀ p, p < nu → z_pok S (T.2.2 p) := fun p hp => (hT4 p hp).1
  have haw : ∀ p, p < nu → T.2.2 p 4 < 2 ^ 30 := fun p hp => (hpo p hp).2.2.2.2.1
  obtain ⟨c1, c2, c3, c4, c5, c6, c7, c8, c9, c10⟩ := id hC
  have cS1 := c1.1
  have cV1 := c2.1
  have hq := hR.q
  have ht := q_t hR
  have hM0 := zcd_M hM 0
  obtain ⟨d1, d2, d3, d4, d5, d6, d7, d8, d9, d10⟩ := id hM0
  have hq9 := sR_q hR
  have L := zm_loop (fun n i (s : Int32 × (Nat → Nat → Int32)) => f_X11_stuck_4 N R n 0 s.1 (nI i) s.2) (fun i s => s.1 = nI (zbt (fun p => !z_dn S (z_wks S 60 (T.2.2 p))) i) ∧ zfr [57, q + 6, q + 16] I s.2) (fun y => y.1 = nI (zbt (fun p => !z_dn S (z_wks S 60 (T.2.2 p))) nu) ∧ zfr [57, q + 6, q + 16] I y.2) nu
    (fun n s hs => by
      obtain ⟨a, s⟩ := s
      obtain ⟨h1, h2⟩ := hs
      have h1 : a = _ := h1
      subst h1
      have g := (zW_V hR h2 h7 c2).1
      try dsimp only at g h2 ⊢
      refine ⟨(nI (zbt (fun p => !z_dn S (z_wks S 60 (T.2.2 p))) nu), s), ?_, rfl, h2⟩
      simp (disch := omega) only [f_X11_stuck_4, kd_0, hR.2.2.1, q_k0 hR, q_r5 hR, q_t0 hR, g, nI_leI, gd_t, gd_pos, lt_eq, Option.bind_some, true_and, and_true, not_true, not_false_iff, false_or, or_false, if_true, if_false, if_pos, if_neg, zcd])
    (fun n i s hi hs => by
      obtain ⟨a, s⟩ := s
      obtain ⟨h1, h2⟩ := hs
      have h1 : a = _ := h1
      subst h1
      try dsimp only at h2 ⊢
      have hV2 := zW_V hR h2 h7 c2
      have g := hV2.1
      obtain ⟨J, j1, j4⟩ := c_wtd hN hR hso (zW_S hR h2 c1) (q_t4 hR i (by omega)) (by omega) (hV2.2 i hi) (hpo i hi)
      refine ⟨(nI (zbt (fun p => !z_dn S (z_wks S 60 (T.2.2 p))) (i + 1)), J), ?_, rfl, zfr_trans h2 j4⟩
      have hz := z_wd_60 S (T.2.2 i)
      rcases hw : z_wd S (T.2.2 i) with _ | k
      · rw [hw] at j1
        have hd := hz.mp hw
        have e8 : zbt (fun p => !z_dn S (z_wks S 60 (T.2.2 p))) (i + 1) = zbt (fun p => !z_dn S (z_wks S 60 (T.2.2 p))) i ||| 2 ^ i := zbt_t (by simpa using hd)
        rw [e8]
        simp (disch := omega) only [f_X11_stuck_4, kd_0, hR.2.2.1, q_k0 hR, q_r5 hR, q_t0 hR, q_t1 hR, q_t2 hR, q_t3 hR, g, j1, zn1_n, zb_shl, zb_or, nI_leI, nI_ltI, nI_clamp, nI_add, zl_0, zl_1, gd_t, gd_pos, lt_eq, Option.bind_some, true_and, and_true, not_true, not_false_iff, false_or, or_false, if_true, if_false, if_pos, if_neg, zcd]
      · rw [hw] at j1
        have hk := (zfs_some 61 0 k hw).2.1
        have hd : ¬ ¬ z_dn S (z_wks S 60 (T.2.2 i)) = true := fun h => by
          rw [hz.mpr h] at hw
          cases hw
        have e8 : zbt (fun p => !z_dn S (z_wks S 60 (T.2.2 p))) (i + 1) = zbt (fun p => !z_dn S (z_wks S 60 (T.2.2 p))) i := zbt_f (by simpa using hd)
        rw [e8]
        simp (disch := omega) only [f_X11_stuck_4, kd_0, hR.2.2.1, q_k0 hR, q_r5 hR, q_t0 hR, q_t1 hR, q_t2 hR, q_t3 hR, g, j1, zn1_s, nn_m1, if_false, nI_leI, nI_ltI, nI_clamp, nI_add, zl_0, zl_1, gd_t, gd_pos, lt_eq, Option.bind_some, true_and, and_true, not_true, not_false_iff, false_or, or_false, if_true, if_false, if_pos, if_neg, zcd]) nu 0 (0, I) N (by omega) (by omega) ⟨rfl, zfr_refl _ _⟩
  obtain ⟨⟨v, J⟩, j1, j2, j4⟩ := L
  have j2 : v = _ := j2
  subst j2
  have hJ := zW_s j4
  have hMJ := zMq hR hM hJ
  obtain ⟨X, K, L, x1, k1, l1, x2, k2, k3, l2, l3, l4⟩ := m_dr hN hR hO hMJ (m := 60) (by omega)
  have l4 : ∀ k, k < 80 → L k = J k := fun k hk => (l4 k hk).trans (zcd_lo J 0 k hk)
  have b2 := m_allDone hN hR hso k2 k3 h7 (fun p hp => z_pok_wks 60 _ (hpo p hp))
  have kV := k3.1
  have e9 := zb_not (fun p => z_dn S (z_wks S 60 (T.2.2 p))) h7
  have hp1 : 0 < 2 ^ nu := Nat.two_pow_pos nu
  refine ⟨_, J, L, j1, ?_, zInv_q hR hO hC hJ l2 l4⟩
  rw [← e9]
  simp (disch := omega) only [f_X12_stuck, kd_80, zl_0, zl_1, zl_60, r80_37 hR, kd_103, r80_4 hR, kd_84, x1, k1, kV, b2, l1, z_ald, zb_shl, pk_sub, nI_ltI, nI_leI, nI_clamp, zz_m1, gd_t, gd_pos, lt_eq, Option.bind_some, true_and, and_true, not_true, not_false_iff, false_or, or_false, if_true, if_false, if_pos, if_neg, zcd]
  try rfl
