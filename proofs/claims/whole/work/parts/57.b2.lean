set_option maxHeartbeats 4000000 in
theorem zo_begin_ok {N : Nat} (hN : 5000 ≤ N) : zo_begin N zInv := by
  intro I R a1 a2 hI
  obtain ⟨q, S, nu, pr, T, na, A, ns, sn, st, nt, tp, fp, im, hR, hO, hC, hM⟩ := hI
  have hR : sR R q := hR
  have hC : zCi q S nu T na A ns sn st nt tp fp im I := hC
  have hM : zMi S nu T na A ns sn st nt tp fp im I := hM
  obtain ⟨hso, h7, ⟨hT1, hT2, hT3, hT4⟩, hAk, hNk, hTp, hIm⟩ := id hO
  have h6 := hso.1
  have hpo : ∀ p, p < nu → z_pok S (T.2.2 p) := fun p hp => (hT4 p hp).1
  have haw : ∀ p, p < nu → T.2.2 p 4 < 2 ^ 30 := fun p hp => (hpo p hp).2.2.2.2.1
  obtain ⟨c1, c2, c3, c4, c5, c6, c7, c8, c9, c10⟩ := id hC
  have cS1 := c1.1
  have cV1 := c2.1
  have hq := hR.q
  have ht := q_t hR
  have hM0 := zcd_M hM 0
  obtain ⟨d1, d2, d3, d4, d5, d6, d7, d8, d9, d10⟩ := id hM0
  rcases zrx a1 nu with ⟨p, hp, rfl⟩ | hx
  · have hz := hO
    have e1 := c_pupil_in (N := N) hR c2 h7 hp
    have e2 := m_isPupil (N := N) hR h7 d2 (nI p)
    rw [nI_toInt (by omega), if_pos (by omega)] at e2
    have kp := q_t9 hR (show p < 7 by omega)
    have pl := c2.2 p hp
    rw [show q + 7 + 2 + p = q + 9 + p by omega] at pl
    have l2 := pl 2 (by omega)
    have o2 := (hpo p hp).2.2.1
    rcases zrx a2 (z_np S) with ⟨w, hw, rfl⟩ | hx
    · have f3 := c_piece_in (N := N) hR hso c1 hw
      by_cases hc : T.2.2 p 2 = w
      · obtain ⟨J, j1, j2, j3, j4⟩ := c_ref (N := N) hR hO hC hM (j := 1) (by omega)
        obtain ⟨K, m1, m2, m3, m4⟩ := m_ref (N := N) hR (zcd_M j3 0) (j := 1) (by omega)
        have e3 := m_isPupil (N := N) hR h7 (zcd_M j3 0).2.1 (nI p)
        rw [nI_toInt (by omega), if_pos (by omega)] at e3
        have e4 := m_isPiece (N := N) hR hso (zcd_M j3 0).1 (nI w)
        rw [nI_toInt (by omega), if_pos (by omega)] at e4
        have v2 := ((zcd_M j3 0).2.1.2 p hp).2.2.1
        refine ⟨.inl (-1), J, -1, K, ?_, ?_, ag_ok _ _ _ (by rw [m3]; exact zcd_3 J 0), zInv_of hR hO j2 m2 (fun k hk => (m4 k hk).trans (zcd_lo J 0 k hk))⟩
        · simp (disch := omega) only [f_X11_begin, kd_0, kp, e1, f3, tb_l, l2, hc, zl_1, j1, gd_t, gd_pos, lt_eq, Option.bind_some, true_and, and_true, not_true, not_false_iff, false_or, or_false, if_true, if_false, if_pos, if_neg, zcd]
        · simp (disch := omega) only [f_X12_begin, kd_80, zl_0, zl_1, e3, e4, r80_27 hR, kd_97, v2, hc, m1, nI_eq, nI_ltI, nI_leI, nI_clamp, gd_t, gd_pos, lt_eq, Option.bind_some, true_and, and_true, not_true, not_false_iff, false_or, or_false, if_true, if_false, if_pos, if_neg, zcd]
      · obtain ⟨J1, j1, jA, jS, jV, jw, jp, jo⟩ := c_kept hN hR h7 hC
        have jpl := jV.2 p hp
        rw [show q + 7 + 2 + p = q + 9 + p by omega] at jpl
        have g2 := jpl 2 (by omega)
        obtain ⟨J, hJ⟩ : ∃ X, X = sm_up J1 (q + 9 + p) (sm_up (sm_up (J1 (q + 9 + p)) 2 (nI w)) 3 (nI 0)) := ⟨_, rfl⟩
        have i2 : zPl (sm_up (sm_up (T.2.2 p) 2 w) 3 0) (J (q + 9 + p)) := by
          rw [hJ, up_s]
          exact zPl_up (zPl_up jpl 2 _) 3 _
        have io2 : ∀ c, c ≠ q + 9 + p → J c = J1 c := fun c hc => by rw [hJ, up_n _ _ hc]
        have io : ∀ c, c ≠ q + 6 → c ≠ q + 16 → c ≠ q + 7 → ¬ (q + 9 ≤ c ∧ c ≤ q + 15) → J c = J1 c := fun c h1 h2 h3 h4 => io2 c (by omega)
        have hCJ := zCi_act (T' := (T.1, T.2.1, sm_up T.2.2 p (sm_up (sm_up (T.2.2 p) 2 w) 3 0))) hR h7 hC jA (zCV_one h7 hp jV i2 (fun c h1 h2 => io2 c h1)) (by rw [io2 _ (by omega)]; exact jw) (by rw [io2 _ (by omega)]; exact jp) jo io
        have hMJ := zcd_M (zMi_lo2 hR hM jo io) 0
        have e3 := m_isPupil (N := N) hR h7 hMJ.2.1 (nI p)
        rw [nI_toInt (by omega), if_pos (by omega)] at e3
        have e4 := m_isPiece (N := N) hR hso hMJ.1 (nI w)
        rw [nI_toInt (by omega), if_pos (by omega)] at e4
        obtain ⟨K1, p1, p2, p3, p4⟩ := m_kept hN hR h7 hMJ
        have v9 := (hMJ.2.1.2 p hp).2.2.1
        have v2 := (p2.2.1.2 p hp).2.2.1
        have s2 := zMV_up98 (p := p) (v := 0) (zMV_up97 (p := p) (v := w) p2.2.1)
        have s3 : zfm [97, 98] [] K1 (sm_up (sm_up K1 97 (sm_up (K1 97) p (nI w))) 98 (sm_up (sm_up K1 97 (sm_up (K1 97) p (nI w)) 98) p (nI 0))) := zfm_up (zfm_up (zfm_refl _ _ _) (by simp) (by omega) _) (by simp) (by omega) _
        have e98 : sm_up K1 97 (sm_up (K1 97) p (nI w)) 98 = K1 98 := up_n _ _ (by omega)
        rw [e98] at s2 s3
        obtain ⟨K, hK⟩ : ∃ X, X = sm_up (sm_up K1 97 (sm_up (K1 97) p (nI w))) 98 (sm_up (K1 98) p (nI 0)) := ⟨_, rfl⟩
        rw [← hK] at s2 s3
        have s4 : zMV nu (sm_up T.2.2 p (sm_up (sm_up (T.2.2 p) 2 w) 3 0)) K := zMV_cong s2 (fun a ha => by
          by_cases hap : a = p
          · rw [hap]
            simp (disch := omega) only [up_s, up_n]
          · simp (disch := omega) only [up_n])
        have hMK := zMi_now (T' := (T.1, T.2.1, sm_up T.2.2 p (sm_up (sm_up (T.2.2 p) 2 w) 3 0))) p2 s3 (by simp [zMsc]) (by simp) s4 (by rw [s3.2 31 (by simp)]; exact p2.2.2.1) (by rw [s3.2 32 (by simp)]; exact p2.2.2.2.1)
        have hok : z_pok S (sm_up (sm_up (T.2.2 p) 2 w) 3 0) := by
          obtain ⟨q0, q1, q2, q3, q4, q5⟩ := hpo p hp
          unfold z_pok
          simp (disch := omega) only [up_s, up_n]
          omega
        have hO2 := zOk_act (T' := (T.1, T.2.1, sm_up T.2.2 p (sm_up (sm_up (T.2.2 p) 2 w) 3 0))) hO (zTok_one hO.2.2.1 hp hok (by simp (disch := omega) only [up_n]))
        refine ⟨.inl (nI (T.2.2 p 2)), J, nI (T.2.2 p 2), K, ?_, ?_, ag_ok _ _ _ (by rw [s3.2 3 (by simp), p3]; exact zcd_3 J 0), zInv_of hR hO2 hCJ hMK (fun j hj => (zfm_lo s3 (by simp) j hj).trans ((p4 j hj).trans (zcd_lo J 0 j hj)))⟩
        · rw [hJ]
          simp (disch := omega) only [f_X11_begin, kd_0, hR.2.2.1, q_k0 hR, q_r5 hR, r0_4 hR, kd_41, kp, e1, f3, tb_l, l2, g2, zl_0, nI_eq, j1, up_s, up_uu, gd_t, gd_pos, lt_eq, Option.bind_some, true_and, and_true, not_true, not_false_iff, false_or, or_false, if_true, if_false, if_pos, if_neg, zcd]
        · rw [hK]
          simp (disch := omega) only [f_X12_begin, kd_80, zl_0, zl_1, e3, e4, r80_27 hR, kd_97, r80_28 hR, kd_98, v9, v2, p1, nI_eq, nI_ltI, nI_leI, nI_clamp, up_s, up_n, up_uu, gd_t, gd_pos, lt_eq, Option.bind_some, true_and, and_true, not_true, not_false_iff, false_or, or_false, if_true, if_false, if_pos, if_neg, zcd]
    · have f3 := c_piece_out (N := N) hR hso c1 hx
      have e4 := m_isPiece (N := N) hR hso d1 a2
      rw [if_neg (by omega)] at e4
      refine ⟨_, I, 0, zcd I 1, ?_, ?_, ag_n _ _ (zcd_3 I 1), zInv_q hR hO hC (zfr_refl _ _) (zcd_M hM 1) (zcd_lo I 1)⟩
      · simp (disch := omega) only [f_X11_begin, kd_0, e1, f3, tb_l, tb_r, gd_t, gd_pos, lt_eq, Option.bind_some, true_and, and_true, not_true, not_false_iff, false_or, or_false, if_true, if_false, if_pos, if_neg, zcd]
      · simp (disch := omega) only [f_X12_begin, kd_80, zl_0, zl_1, e2, e4, m_fail, gd_t, gd_pos, lt_eq, Option.bind_some, true_and, and_true, not_true, not_false_iff, false_or, or_false, if_true, if_false, if_pos, if_neg, zcd, up_s, up_n, up_uu, nI_eq]
  · have e1 := c_pupil_out (N := N) hR c2 h7 hx
    have e2 := m_isPupil (N := N) hR h7 d2 a1
    rw [if_neg (by omega)] at e2
    refine ⟨_, I, 0, zcd I 1, ?_, ?_, ag_n _ _ (zcd_3 I 1), zInv_q hR hO hC (zfr_refl _ _) (zcd_M hM 1) (zcd_lo I 1)⟩
    · simp (disch := omega) only [f_X11_begin, kd_0, hR.2.2.1, q_k0 hR, q_r5 hR, q_t0 hR, e1, tb_r, tb_l, gd_t, gd_pos, lt_eq, Option.bind_some, true_and, and_true, not_true, not_false_iff, false_or, or_false, if_true, if_false, if_pos, if_neg, zcd]
    · simp (disch := omega) only [f_X12_begin, kd_80, zl_0, zl_1, e2, m_fail, gd_t, gd_pos, lt_eq, Option.bind_some, true_and, and_true, not_true, not_false_iff, false_or, or_false, if_true, if_false, if_pos, if_neg, zcd, up_s, up_n, up_uu, nI_eq]
