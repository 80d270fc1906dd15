set_option maxHeartbeats 4000000 in
theorem zo_pianos_ok {N : Nat} (hN : 5000 ≤ N) : zo_pianos N zInv := by
  intro I R a1 hI
  obtain ⟨q, S, nu, pr, T, na, A, ns, sn, st, nt, tp, fp, im, hR, hO, hC, hM⟩ := hI
  have hR : sR R q := hR
  have hC : zCi q S nu T na A ns sn st nt tp fp im I := hC
  have hM : zMi S nu T na A ns sn st nt tp fp im I := hM
  obtain ⟨hso, h7, ⟨hT1, hT2, hT3, hT4⟩, hAk, hNk, hTp, hIm⟩ := id hO
  have h6 := hso.1
  have hpo : ∀ p, p < nu → z_pok S (T.2.2 p) := fun p hp => (hT4 p hp).1
  have haw : ∀ p, p < nu → T.2.2 p 4 < 2 ^ 30 := fun p hp => (hpo p hp).2.2.2.2.1
  obtain ⟨c1, c2, c3, c4, c5, c6, c7, c8, c9, c10⟩ := id hC
  have cS1 := c1.1
  have cV1 := c2.1
  have hq := hR.q
  have ht := q_t hR
  have hM0 := zcd_M hM 0
  obtain ⟨d1, d2, d3, d4, d5, d6, d7, d8, d9, d10⟩ := id hM0
  rcases zrg a1 1 4 with ⟨k, hk1, hk, rfl⟩ | hx
  · obtain ⟨J1, j1, jA, jS, jV, jw, jp, jo⟩ := c_kept hN hR h7 hC
    obtain ⟨J, hJ⟩ : ∃ X, X = sm_up J1 (q + 7) (sm_up (J1 (q + 7)) 3 (nI k)) := ⟨_, rfl⟩
    have io2 : ∀ c, c ≠ q + 7 → J c = J1 c := fun c hc => by rw [hJ, up_n _ _ hc]
    have io : ∀ c, c ≠ q + 6 → c ≠ q + 16 → c ≠ q + 7 → ¬ (q + 9 ≤ c ∧ c ≤ q + 15) → J c = J1 c := fun c h1 h2 h3 h4 => io2 c h3
    have hCJ := zCi_act (T' := (T.1, k, T.2.2)) hR h7 hC jA (show zCV nu T.2.2 (q + 7) J from ⟨by rw [hJ, up_s, up_n _ _ (by omega)]; exact jV.1, fun p hp => by rw [io2 _ (by omega)]; exact jV.2 p hp⟩) (by rw [hJ, up_s, up_n _ _ (by omega)]; exact jw) (by rw [hJ, up_s, up_s]) jo io
    have hMJ := zcd_M (zMi_lo2 hR hM jo io) 0
    have e4 := m_isIn (N := N) (R := R) (I := zcd J 0) (nI k).toInt64 1 4
    rw [z64, zq_1, zq_4, nI_toInt (by omega), if_pos (by omega)] at e4
    obtain ⟨K1, p1, p2, p3, p4⟩ := m_kept hN hR h7 hMJ
    have w2 := p2.2.2.2.1
    have s3 : zfm [] [32] K1 (sm_up K1 80 (sm_up (K1 80) 32 (nI k))) := zfm_f (zfm_refl _ _ _) (by simp) _
    obtain ⟨K, hK⟩ : ∃ X, X = sm_up K1 80 (sm_up (K1 80) 32 (nI k)) := ⟨_, rfl⟩
    rw [← hK] at s3
    have hMK := zMi_now (T' := (T.1, k, T.2.2)) p2 s3 (by simp) (by simp [zMsf]) (zMV_fr p2.2.1 s3 (by decide)) (by rw [s3.2 31 (by simp)]; exact p2.2.2.1) (by rw [hK, up_s, up_s])
    have hO2 := zOk_act (T' := (T.1, k, T.2.2)) hO ⟨hT1, hk1, hk, hT4⟩
    refine ⟨nI T.2.1, J, K, ?_, ?_, zInv_of hR hO2 hCJ hMK (fun j hj => (zfm_lo s3 (by simp) j hj).trans ((p4 j hj).trans (zcd_lo J 0 j hj)))⟩
    · rw [hJ]
      simp (disch := omega) only [f_X11_pianos, kd_0, hR.2.2.1, q_k0 hR, q_r5 hR, q_t0 hR, r0_4 hR, kd_41, jp, zl_1, zl_4, nI_ltI, nI_leI, j1, gd_t, gd_pos, lt_eq, Option.bind_some, true_and, and_true, not_true, not_false_iff, false_or, or_false, if_true, if_false, if_pos, if_neg, zcd]
    · rw [hK]
      simp (disch := omega) only [f_X12_pianos, kd_80, zl_0, zl_1, e4, w2, p1, nI_eq, gd_t, gd_pos, lt_eq, Option.bind_some, true_and, and_true, not_true, not_false_iff, false_or, or_false, if_true, if_false, if_pos, if_neg, zcd]
  · obtain ⟨J, j1, j2, j3, j4⟩ := c_ref (N := N) hR hO hC hM (j := 1) (by omega)
    obtain ⟨K, m1, m2, m3, m4⟩ := m_ref (N := N) hR (zcd_M j3 0) (j := 1) (by omega)
    have e4 := m_isIn (N := N) (R := R) (I := zcd J 0) a1.toInt64 1 4
    rw [z64, zq_1, zq_4, if_neg (by omega)] at e4
    refine ⟨-1, J, K, ?_, ?_, zInv_of hR hO j2 m2 (fun k hk => (m4 k hk).trans (zcd_lo J 0 k hk))⟩
    · by_cases h1 : a1.toInt < (1 : Nat)
      · simp (disch := omega) only [f_X11_pianos, kd_0, zl_1, zlt_l, j1, gd_t, gd_pos, lt_eq, Option.bind_some, true_and, and_true, not_true, not_false_iff, false_or, or_false, if_true, if_false, if_pos, if_neg, zcd]
      · simp (disch := omega) only [f_X11_pianos, kd_0, zl_1, zl_4, zlt_l, zle_l, j1, gd_t, gd_pos, lt_eq, Option.bind_some, true_and, and_true, not_true, not_false_iff, false_or, or_false, if_true, if_false, if_pos, if_neg, zcd]
    · simp (disch := omega) only [f_X12_pianos, kd_80, zl_0, zl_1, e4, m1, gd_t, gd_pos, lt_eq, Option.bind_some, true_and, and_true, not_true, not_false_iff, false_or, or_false, if_true, if_false, if_pos, if_neg, zcd]
