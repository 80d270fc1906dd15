/-! ===== PURE PART: game: the call ===== -/
theorem zo_game_ok {N : Nat} (hN : 5000 ≤ N) : zo_game N zInv := by
  intro I R a1 a2 a3 hI
  obtain ⟨q, S, nu, pr, T, na, A, ns, sn, st, nt, tp, fp, im, hR, hO, hC, hM⟩ := hI
  have hR : sR R q := hR
  have hC : zCi q S nu T na A ns sn st nt tp fp im I := hC
  have hM : zMi S nu T na A ns sn st nt tp fp im I := hM
  obtain ⟨hso, h7, ⟨hT1, hT2, hT3, hT4⟩, hAk, hNk, hTp, hIm⟩ := id hO
  have h6 := hso.1
  have hpo : ∀ p, p < nu → z_pok S (T.2.2 p) := fun p hp => (hT4 p hp).1
  have haw : ∀ p, p < nu → T.2.2 p 4 < 2 ^ 30 := fun p hp => (hpo p hp).2.2.2.2.1
  obtain ⟨c1, c2, c3, c4, c5, c6, c7, c8, c9, c10⟩ := id hC
  have cS1 := c1.1
  have cV1 := c2.1
  have hq := hR.q
  have ht := q_t hR
  have hM0 := zcd_M hM 0
  obtain ⟨d1, d2, d3, d4, d5, d6, d7, d8, d9, d10⟩ := id hM0
  rcases zrx a1 nu with ⟨p, hp, rfl⟩ | hx
  · have hq9 := sR_q hR
    have e1 := c_pupil_in (N := N) hR c2 h7 hp
    have e2 := m_isPupil (N := N) hR h7 d2 (nI p)
    rw [nI_toInt (by omega), if_pos (by omega)] at e2
    rcases zrx a2 nu with ⟨r, hr, rfl⟩ | hx
    · have e3 := c_pupil_in (N := N) hR c2 h7 hr
      have e4 := m_isPupil (N := N) hR h7 d2 (nI r)
      rw [nI_toInt (by omega), if_pos (by omega)] at e4
      rcases zrg a3 0 1 with ⟨v, -, hv, rfl⟩ | hx
      · have e5 := c_what_in (N := N) (R := R) (I := I) (m := 1) (by omega) hv
        by_cases hne : p = r
        · subst hne
          refine ⟨_, I, 0, zcd I 2, ?_, ?_, ag_i2 _ (zcd_3 I 2), zInv_q hR hO hC (zfr_refl _ _) (zcd_M hM 2) (zcd_lo I 2)⟩
          · simp (disch := omega) only [f_X11_game, kd_0, zl_1, e1, e5, tb_l, gd_t, gd_pos, lt_eq, Option.bind_some, true_and, and_true, not_true, not_false_iff, false_or, or_false, if_true, if_false, if_pos, if_neg, zcd]
          · simp (disch := omega) only [f_X12_game, kd_80, zl_0, zl_1, zl_2, e2, m_fail, nI_eq, nI_ltI, nI_leI, gd_t, gd_pos, lt_eq, Option.bind_some, true_and, and_true, not_true, not_false_iff, false_or, or_false, if_true, if_false, if_pos, if_neg, zcd, up_s, up_n, up_uu]
        · obtain ⟨J, j1, j2, j3, j4, j5, j6⟩ := c_weighG hN hR hso c1 c2 h7 hpo c4 hT3 hp hr
          have hJ : zfr (zScr q) I J := zfr_mono j6 (fun x hx => by
            unfold zScr
            simp only [List.mem_cons, List.not_mem_nil, or_false] at hx ⊢
            omega)
          have hMJ := zMq hR hM hJ
          obtain ⟨rs, hrs⟩ : ∃ rs : Nat → Bool, ∀ k, rs k = z_rs S nu T.2.1 T.2.2 p r (k / 2) (k % 2) := ⟨_, fun _ => rfl⟩
          have L1 := zu_loop (fun n i (a : Int32 × Int32) => f_X11_game_55 N R n 0 (nI v) a.1 a.2 (nI i) J) (fun i => (nI (z_cn rs i), z_fs rs i)) (Sum.inl (if v = 0 then nI (z_cn rs 4) else z_fs rs 4), J) 4
            (fun n => by
              try dsimp only
              by_cases h0 : v = 0
              · rw [if_pos h0]
                simp (disch := omega) only [f_X11_game_55, zl_0, zl_4, nI_leI, nI_eq, if_true, if_pos]
              · rw [if_neg h0]
                simp (disch := omega) only [f_X11_game_55, zl_0, zl_4, nI_leI, nI_eq, if_true, if_pos, if_neg])
            (fun n k hk => by
              try dsimp only
              have hc9 := z_cn_le rs k
              obtain ⟨t1, t2⟩ := z_s1 k hk
              have e := c_atRest (N := N) (S := S) (nu := nu) (pn := T.2.1) (V := T.2.2) hR (show k / 2 < 2 by omega) (show k % 2 < 2 by omega) j2 j3 j4 j5
              rw [← hrs] at e
              by_cases h1 : rs k = true
              · rw [if_pos h1] at e
                have e8 : z_cn rs (k + 1) = z_cn rs k + 1 := if_pos h1
                by_cases h2 : z_cn rs k = 0
                · have e9 : z_fs rs (k + 1) = nI (10 * (k / 2) + k % 2) := (if_pos h1).trans (if_pos h2)
                  rw [e8, e9]
                  simp (disch := omega) only [f_X11_game_55, kd_0, kd_76, r0_14 hR, t1, t2, e, zl_0, zl_1, zl_4, zl_10, nI_add, pk_mul, nI_leI, nI_eq, gd_t, gd_pos, lt_eq, Option.bind_some, true_and, and_true, not_true, not_false_iff, false_or, or_false, if_true, if_false, if_pos, if_neg, zcd]
                · have e9 : z_fs rs (k + 1) = z_fs rs k := (if_pos h1).trans (if_neg h2)
                  rw [e8, e9]
                  simp (disch := omega) only [f_X11_game_55, kd_0, kd_76, r0_14 hR, t1, t2, e, zl_0, zl_1, zl_4, zl_10, nI_add, pk_mul, nI_leI, nI_eq, gd_t, gd_pos, lt_eq, Option.bind_some, true_and, and_true, not_true, not_false_iff, false_or, or_false, if_true, if_false, if_pos, if_neg, zcd]
              · rw [if_neg h1] at e
                have e8 : z_cn rs (k + 1) = z_cn rs k := if_neg h1
                have e9 : z_fs rs (k + 1) = z_fs rs k := if_neg h1
                rw [e8, e9]
                simp (disch := omega) only [f_X11_game_55, kd_0, kd_76, r0_14 hR, t1, t2, e, zl_0, zl_1, zl_4, nI_add, nI_leI, nI_eq, gd_t, gd_pos, lt_eq, Option.bind_some, true_and, and_true, not_true, not_false_iff, false_or, or_false, if_true, if_false, if_pos, if_neg, zcd]) 4 0 N (by omega) (by omega)
          obtain ⟨Y, hY⟩ : ∃ Y, Y = zcd J 0 := ⟨_, rfl⟩
          have hY2 : sm_up J 80 (sm_up (J 80) 3 (nI 0)) = Y := hY.symm
          have hY3 : Y 80 3 = nI 0 := by rw [hY]; exact zcd_3 J 0
          have hYl : ∀ k, k < 80 → Y k = J k := fun k hk => by rw [hY]; exact zcd_lo J 0 k hk
          rw [← hY] at hMJ
          have f2 := m_isPupil (N := N) hR h7 hMJ.2.1 (nI p)
          rw [nI_toInt (by omega), if_pos (by omega)] at f2
          have f4 := m_isPupil (N := N) hR h7 hMJ.2.1 (nI r)
          rw [nI_toInt (by omega), if_pos (by omega)] at f4
          have g1 := m_mayGo hN hR hMJ.2.1 h7 haw hMJ.2.2.2.1 hT3 hp (j := 1) (by omega) (by omega)
          have g2 := m_mayGo hN hR hMJ.2.1 h7 haw hMJ.2.2.2.1 hT3 hr (j := 1) (by omega) (by omega)
          obtain ⟨K, k1, k2, k3, k4, k5⟩ := m_tellGains hN hR hO hMJ hp hr hne
          have L2 := zu_loop (fun n i (a : Int32 × Int32) => f_X12_game_78 N R n 80 (nI v) (if z_may nu T.2.2 T.2.1 (T.2.2 p) 1 = true then 1 else 0) (if z_may nu T.2.2 T.2.1 (T.2.2 r) 1 = true then 1 else 0) a.1 a.2 (nI i) K) (fun i => (nI (z_cn rs i), z_fs rs i)) ((if v = 0 then nI (z_cn rs 4) else z_fs rs 4), K) 4
            (fun n => by
              try dsimp only
              by_cases h0 : v = 0
              · rw [if_pos h0]
                simp (disch := omega) only [f_X12_game_78, zl_0, zl_4, nI_leI, nI_eq, if_true, if_pos]
              · rw [if_neg h0]
                simp (disch := omega) only [f_X12_game_78, zl_0, zl_4, nI_leI, nI_eq, if_true, if_pos, if_neg])
            (fun n k hk => by
              try dsimp only
              obtain ⟨-, u2, u3, u4⟩ := z_x2 k hk
              obtain ⟨-, w2, w3, w4⟩ := z_x1 k hk
              have e := m_g78 (N := N) (K := K) hR hk (z_may nu T.2.2 T.2.1 (T.2.2 p) 1) (z_may nu T.2.2 T.2.1 (T.2.2 r) 1)
                (x1 := z_gg S (T.2.2 p) (if T.2.1 = z_pc 32 (z_awi nu T.2.2 1) + 1 ∧ r < p then 1 else 0) (k / 2) (k % 2)) (y1 := z_gg S (T.2.2 p) (if T.2.1 = z_pc 32 (z_awi nu T.2.2 1) + 1 ∧ r < p then 1 else 0) (1 - k / 2) (k % 2))
                (x2 := z_gg S (T.2.2 r) (if T.2.1 = z_pc 32 (z_awi nu T.2.2 1) + 1 ∧ p < r then 1 else 0) (k % 2) (k / 2)) (y2 := z_gg S (T.2.2 r) (if T.2.1 = z_pc 32 (z_awi nu T.2.2 1) + 1 ∧ p < r then 1 else 0) (1 - k % 2) (k / 2))
                (fun hm hm2 => ⟨by rw [(k3 k hk).1]; exact z_Wk_1 h7 hp hr hne hk hm hm2, by
                  rw [(k3 (k ^^^ 2) u2).1, z_Wk_1 h7 hp hr hne u2 hm (fun h => hm2 (by omega)), u3, u4]⟩)
                (fun hm hm2 => ⟨by rw [(k3 k hk).2]; exact z_Wk_2 h7 hp hr hne hk hm hm2, by
                  rw [(k3 (k ^^^ 1) w2).2, z_Wk_2 h7 hp hr hne w2 hm (fun h => hm2 (by omega)), w3, w4]⟩) n (nI v) (nI (z_cn rs k)) (z_fs rs k)
              have hz : (z_ct (z_may nu T.2.2 T.2.1 (T.2.2 p) 1) (k / 2) (z_gg S (T.2.2 p) (if T.2.1 = z_pc 32 (z_awi nu T.2.2 1) + 1 ∧ r < p then 1 else 0) (k / 2) (k % 2)) (z_gg S (T.2.2 p) (if T.2.1 = z_pc 32 (z_awi nu T.2.2 1) + 1 ∧ r < p then 1 else 0) (1 - k / 2) (k % 2)) && z_ct (z_may nu T.2.2 T.2.1 (T.2.2 r) 1) (k % 2) (z_gg S (T.2.2 r) (if T.2.1 = z_pc 32 (z_awi nu T.2.2 1) + 1 ∧ p < r then 1 else 0) (k % 2) (k / 2)) (z_gg S (T.2.2 r) (if T.2.1 = z_pc 32 (z_awi nu T.2.2 1) + 1 ∧ p < r then 1 else 0) (1 - k % 2) (k / 2))) = rs k := (hrs k).symm
              rw [hz] at e
              rw [e]
              have hf0 := z_fs_0 rs k (by omega)
              by_cases h1 : rs k = true
              · have e8 : z_cn rs (k + 1) = z_cn rs k + 1 := if_pos h1
                rw [if_pos h1, e8, nI_add]
                by_cases h2 : z_cn rs k = 0
                · have e9 : z_fs rs (k + 1) = nI (10 * (k / 2) + k % 2) := (if_pos h1).trans (if_pos h2)
                  rw [if_pos (hf0.mpr h2), e9]
                · have e9 : z_fs rs (k + 1) = z_fs rs k := (if_pos h1).trans (if_neg h2)
                  rw [if_neg (fun h => h2 (hf0.mp h)), e9]
              · have e8 : z_cn rs (k + 1) = z_cn rs k := if_neg h1
                have e9 : z_fs rs (k + 1) = z_fs rs k := if_neg h1
                rw [if_neg h1, e8, e9]) 4 0 N (by omega) (by omega)
          refine ⟨.inl (if v = 0 then nI (z_cn rs 4) else z_fs rs 4), J, (if v = 0 then nI (z_cn rs 4) else z_fs rs 4), K, Eq.trans ?_ L1, Eq.trans ?_ L2, ag_ok _ _ _ (k4.trans hY3), zInv_q hR hO hC hJ k2 (fun k hk => (k5 k hk).trans (hYl k hk))⟩
          · simp (disch := omega) only [f_X11_game, kd_0, kd_76, r0_14 hR, hR.2.2.1, zl_0, zl_1, e1, e3, e5, tb_l, j1, nI_eq, gd_t, gd_pos, lt_eq, Option.bind_some, true_and, and_true, not_true, not_false_iff, false_or, or_false, if_true, if_false, if_pos, if_neg, zcd]
            try rfl
          · simp (disch := omega) only [f_X12_game, kd_80, zl_0, zl_1, hY2, f2, f4, g1, g2, k1, nI_eq, nI_ltI, nI_leI, gd_t, gd_pos, lt_eq, Option.bind_some, if_true, if_false, if_pos, if_neg]
            try rfl
      · have e5 := c_what_out (N := N) (R := R) (I := I) (m := 1) (by omega) hx
        refine ⟨_, I, 0, zcd I 1, ?_, ?_, ag_n _ _ (zcd_3 I 1), zInv_q hR hO hC (zfr_refl _ _) (zcd_M hM 1) (zcd_lo I 1)⟩
        · simp (disch := omega) only [f_X11_game, kd_0, zl_1, e1, e3, e5, tb_l, tb_r, gd_t, gd_pos, lt_eq, Option.bind_some, true_and, and_true, not_true, not_false_iff, false_or, or_false, if_true, if_false, if_pos, if_neg, zcd]
        · by_cases h0 : a3.toInt < ((0 : Nat) : Int)
          · simp (disch := omega) only [f_X12_game, kd_80, zl_0, zl_1, e2, e4, zlt_l, m_fail, nI_eq, gd_t, gd_pos, lt_eq, Option.bind_some, true_and, and_true, not_true, not_false_iff, false_or, or_false, if_true, if_false, if_pos, if_neg, zcd, up_s, up_n, up_uu]
          · simp (disch := omega) only [f_X12_game, kd_80, zl_0, zl_1, e2, e4, zlt_l, zle_l, m_fail, nI_eq, gd_t, gd_pos, lt_eq, Option.bind_some, true_and, and_true, not_true, not_false_iff, false_or, or_false, if_true, if_false, if_pos, if_neg, zcd, up_s, up_n, up_uu]
    · have e3 := c_pupil_out (N := N) hR c2 h7 hx
      have e4 := m_isPupil (N := N) hR h7 d2 a2
      rw [if_neg (by omega)] at e4
      refine ⟨_, I, 0, zcd I 1, ?_, ?_, ag_n _ _ (zcd_3 I 1), zInv_q hR hO hC (zfr_refl _ _) (zcd_M hM 1) (zcd_lo I 1)⟩
      · simp (disch := omega) only [f_X11_game, kd_0, e1, e3, tb_l, tb_r, gd_t, gd_pos, lt_eq, Option.bind_some, true_and, and_true, not_true, not_false_iff, false_or, or_false, if_true, if_false, if_pos, if_neg, zcd]
      · simp (disch := omega) only [f_X12_game, kd_80, zl_0, zl_1, e2, e4, m_fail, gd_t, gd_pos, lt_eq, Option.bind_some, true_and, and_true, not_true, not_false_iff, false_or, or_false, if_true, if_false, if_pos, if_neg, zcd, up_s, up_n, up_uu, nI_eq]
  · have e1 := c_pupil_out (N := N) hR c2 h7 hx
    have e2 := m_isPupil (N := N) hR h7 d2 a1
    rw [if_neg (by omega)] at e2
    refine ⟨_, I, 0, zcd I 1, ?_, ?_, ag_n _ _ (zcd_3 I 1), zInv_q hR hO hC (zfr_refl _ _) (zcd_M hM 1) (zcd_lo I 1)⟩
    · simp (disch := omega) only [f_X11_game, kd_0, hR.2.2.1, q_k0 hR, q_r5 hR, q_t0 hR, e1, tb_r, tb_l, gd_t, gd_pos, lt_eq, Option.bind_some, true_and, and_true, not_true, not_false_iff, false_or, or_false, if_true, if_false, if_pos, if_neg, zcd]
    · simp (disch := omega) only [f_X12_game, kd_80, zl_0, zl_1, e2, m_fail, gd_t, gd_pos, lt_eq, Option.bind_some, true_and, and_true, not_true, not_false_iff, false_or, or_false, if_true, if_false, if_pos, if_neg, zcd, up_s, up_n, up_uu, nI_eq]
