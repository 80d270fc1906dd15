/-! ===== PURE PART: calls: gloves, begin, pianos, undo ===== -/
set_option maxHeartbeats 4000000 in
theorem zo_gloves_ok {N : Nat} (hN : 5000 ≤ N) : zo_gloves N zInv := by
  intro I R a1 a2 hI
  obtain ⟨q, S, nu, pr, T, na, A, ns, sn, st, nt, tp, fp, im, hR, hO, hC, hM⟩ := hI
  have hR : sR R q := hR
  have hC : zCi q S nu T na A ns sn st nt tp fp im I := hC
  have hM : zMi S nu T na A ns sn st nt tp fp im I := hM
  obtain ⟨hso, h7, ⟨hT1, hT2, hT3, hT4⟩, hAk, hNk, hTp, hIm⟩ := id hO
  have h6 := hso.1
  have hpo : ∀ p, p < nu → z_pok S (T.2.2 p) := fun p hp => (hT4 p hp).1
  have haw : ∀ p, p < nu → T.2.2 p 4 < 2 ^ 30 := fun p hp => (hpo p hp).2.2.2.2.1
  obtain ⟨c1, c2, c3, c4, c5, c6, c7, c8, c9, c10⟩ := id hC
  have cS1 := c1.1
  have cV1 := c2.1
  have hq := hR.q
  have ht := q_t hR
  have hM0 := zcd_M hM 0
  obtain ⟨d1, d2, d3, d4, d5, d6, d7, d8, d9, d10⟩ := id hM0
  rcases zrx a1 nu with ⟨p, hp, rfl⟩ | hx
  · have hz := hO
    have e1 := c_pupil_in (N := N) hR c2 h7 hp
    have e2 := m_isPupil (N := N) hR h7 d2 (nI p)
    rw [nI_toInt (by omega), if_pos (by omega)] at e2
    have kp := q_t9 hR (show p < 7 by omega)
    have pl := c2.2 p hp
    rw [show q + 7 + 2 + p = q + 9 + p by omega] at pl
    rcases zrg a2 1 9 with ⟨k, hk1, hk, rfl⟩ | hx
    · obtain ⟨J1, j1, jA, jS, jV, jw, jp, jo⟩ := c_kept hN hR h7 hC
      have jpl := jV.2 p hp
      rw [show q + 7 + 2 + p = q + 9 + p by omega] at jpl
      have o1 := (hpo p hp).2.1
      have i1 := c_addSore (N := N) (R := R) (x := -nI k) kp jpl (v := T.2.2 p 1 - k) (zz_cl_less o1 (by omega))
      obtain ⟨J, hJ⟩ : ∃ X, X = sm_up J1 (q + 9 + p) (sm_up (J1 (q + 9 + p)) 1 (nI (T.2.2 p 1 - k))) := ⟨_, rfl⟩
      rw [← hJ] at i1
      have i2 : zPl (sm_up (T.2.2 p) 1 (T.2.2 p 1 - k)) (J (q + 9 + p)) := by
        rw [hJ, up_s]
        exact zPl_up jpl 1 _
      have io2 : ∀ c, c ≠ q + 9 + p → J c = J1 c := fun c hc => by rw [hJ, up_n _ _ hc]
      have io : ∀ c, c ≠ q + 6 → c ≠ q + 16 → c ≠ q + 7 → ¬ (q + 9 ≤ c ∧ c ≤ q + 15) → J c = J1 c := fun c h1 h2 h3 h4 => io2 c (by omega)
      have hCJ := zCi_act (T' := (T.1, T.2.1, sm_up T.2.2 p (sm_up (T.2.2 p) 1 (T.2.2 p 1 - k)))) hR h7 hC jA (zCV_one h7 hp jV i2 (fun c h1 h2 => io2 c h1)) (by rw [io2 _ (by omega)]; exact jw) (by rw [io2 _ (by omega)]; exact jp) jo io
      have hMJ := zcd_M (zMi_lo2 hR hM jo io) 0
      have e3 := m_isPupil (N := N) hR h7 hMJ.2.1 (nI p)
      rw [nI_toInt (by omega), if_pos (by omega)] at e3
      have e4 := m_isIn (N := N) (R := R) (I := zcd J 0) (nI k).toInt64 1 9
      rw [z64, zq_1, zq_9, nI_toInt (by omega), if_pos (by omega)] at e4
      obtain ⟨K1, p1, p2, p3, p4⟩ := m_kept hN hR h7 hMJ
      have v1 := (p2.2.1.2 p hp).2.1
      have hsub : sm_mx (nI 0) (nI (T.2.2 p 1) - nI k) = nI (T.2.2 p 1 - k) := by
        by_cases h0 : k ≤ T.2.2 p 1
        · rw [pk_sub h0, mx_nI (by omega) (by omega), Nat.max_eq_right (by omega)]
        · have := pk_sub_toInt (a := T.2.2 p 1) (b := k) (by omega) (by omega)
          unfold sm_mx
          rw [if_neg (by rw [zlt_r (by omega), this]; omega), show T.2.2 p 1 - k = 0 by omega]
      have s2 := zMV_up96 (p := p) (v := T.2.2 p 1 - k) p2.2.1
      have s3 : zfm [96] [] K1 (sm_up K1 96 (sm_up (K1 96) p (nI (T.2.2 p 1 - k)))) := zfm_up (zfm_refl _ _ _) (by simp) (by omega) _
      obtain ⟨K, hK⟩ : ∃ X, X = sm_up K1 96 (sm_up (K1 96) p (nI (T.2.2 p 1 - k))) := ⟨_, rfl⟩
      have g6 : K 96 p = nI (T.2.2 p 1 - k) := by rw [hK, up_s, up_s]
      rw [← hK] at s2 s3
      have hMK := zMi_now (T' := (T.1, T.2.1, sm_up T.2.2 p (sm_up (T.2.2 p) 1 (T.2.2 p 1 - k)))) p2 s3 (by simp [zMsc]) (by simp) s2 (by rw [s3.2 31 (by simp)]; exact p2.2.2.1) (by rw [s3.2 32 (by simp)]; exact p2.2.2.2.1)
      have hO2 := zOk_act (T' := (T.1, T.2.1, sm_up T.2.2 p (sm_up (T.2.2 p) 1 (T.2.2 p 1 - k)))) hO (zTok_one hO.2.2.1 hp (z_pok_sore (hpo p hp) (by omega)) (up_n _ _ (by omega)))
      have g5 := i2 1 (by omega)
      rw [up_s] at g5
      refine ⟨.inl (nI (T.2.2 p 1 - k)), J, nI (T.2.2 p 1 - k), K, ?_, ?_, ag_ok _ _ _ (by rw [s3.2 3 (by simp), p3]; exact zcd_3 J 0), zInv_of hR hO2 hCJ hMK (fun j hj => (zfm_lo s3 (by simp) j hj).trans ((p4 j hj).trans (zcd_lo J 0 j hj)))⟩
      · simp (disch := omega) only [f_X11_gloves, kd_0, hR.2.2.1, q_k0 hR, q_r5 hR, q_t0 hR, r0_4 hR, kd_41, kp, e1, tb_l, g5, zl_0, zl_1, zl_9, nI_ltI, nI_leI, j1, i1, gd_t, gd_pos, lt_eq, Option.bind_some, true_and, and_true, not_true, not_false_iff, false_or, or_false, if_true, if_false, if_pos, if_neg, zcd]
      · simp (disch := omega) only [f_X12_gloves, kd_80, zl_0, zl_1, e3, e4, v1, hsub, r80_26 hR, kd_96, nI_eq, nI_ltI, nI_leI, nI_clamp, p1, ← hK, g6, gd_t, gd_pos, lt_eq, Option.bind_some, true_and, and_true, not_true, not_false_iff, false_or, or_false, if_true, if_false, if_pos, if_neg, zcd]
    · obtain ⟨J, j1, j2, j3, j4⟩ := c_ref (N := N) hR hO hC hM (j := 1) (by omega)
      obtain ⟨K, m1, m2, m3, m4⟩ := m_ref (N := N) hR (zcd_M j3 0) (j := 1) (by omega)
      have e3 := m_isPupil (N := N) hR h7 (zcd_M j3 0).2.1 (nI p)
      rw [nI_toInt (by omega), if_pos (by omega)] at e3
      have e4 := m_isIn (N := N) (R := R) (I := zcd J 0) a2.toInt64 1 9
      rw [z64, zq_1, zq_9, if_neg (by omega)] at e4
      refine ⟨.inl (-1), J, -1, K, ?_, ?_, ag_ok _ _ _ (by rw [m3]; exact zcd_3 J 0), zInv_of hR hO j2 m2 (fun k hk => (m4 k hk).trans (zcd_lo J 0 k hk))⟩
      · by_cases h1 : a2.toInt < (1 : Nat)
        · simp (disch := omega) only [f_X11_gloves, kd_0, e1, tb_l, zl_1, zlt_l, j1, gd_t, gd_pos, lt_eq, Option.bind_some, true_and, and_true, not_true, not_false_iff, false_or, or_false, if_true, if_false, if_pos, if_neg, zcd]
        · simp (disch := omega) only [f_X11_gloves, kd_0, e1, tb_l, zl_1, zl_9, zlt_l, zle_l, j1, gd_t, gd_pos, lt_eq, Option.bind_some, true_and, and_true, not_true, not_false_iff, false_or, or_false, if_true, if_false, if_pos, if_neg, zcd]
      · simp (disch := omega) only [f_X12_gloves, kd_80, zl_0, zl_1, e3, e4, m1, nI_eq, gd_t, gd_pos, lt_eq, Option.bind_some, true_and, and_true, not_true, not_false_iff, false_or, or_false, if_true, if_false, if_pos, if_neg, zcd]
  · have e1 := c_pupil_out (N := N) hR c2 h7 hx
    have e2 := m_isPupil (N := N) hR h7 d2 a1
    rw [if_neg (by omega)] at e2
    refine ⟨_, I, 0, zcd I 1, ?_, ?_, ag_n _ _ (zcd_3 I 1), zInv_q hR hO hC (zfr_refl _ _) (zcd_M hM 1) (zcd_lo I 1)⟩
    · simp (disch := omega) only [f_X11_gloves, kd_0, hR.2.2.1, q_k0 hR, q_r5 hR, q_t0 hR, e1, tb_r, tb_l, gd_t, gd_pos, lt_eq, Option.bind_some, true_and, and_true, not_true, not_false_iff, false_or, or_false, if_true, if_false, if_pos, if_neg, zcd]
    · simp (disch := omega) only [f_X12_gloves, kd_80, zl_0, zl_1, e2, m_fail, gd_t, gd_pos, lt_eq, Option.bind_some, true_and, and_true, not_true, not_false_iff, false_or, or_false, if_true, if_false, if_pos, if_neg, zcd, up_s, up_n, up_uu, nI_eq]
