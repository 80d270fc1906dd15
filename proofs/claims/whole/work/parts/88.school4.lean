/-! ===== PURE PART: school: the call, owed ===== -/
theorem zo_school_ok {N : Nat} (hN : 5000 ≤ N) : zo_school N zInv := by
  intro σ a1 hI
  obtain ⟨I, R⟩ := σ
  obtain ⟨q, S, nu, pr, T, na, A, ns, sn, st, nt, tp, fp, im, hR, hO, hC, hM⟩ := hI
  have hR : sR R q := hR
  have hC : zCi q S nu T na A ns sn st nt tp fp im I := hC
  have hM : zMi S nu T na A ns sn st nt tp fp im I := hM
  obtain ⟨hso, h7, ⟨hT1, hT2, hT3, hT4⟩, hAk, hNk, hTp, hIm⟩ := id hO
  have h6 := hso.1
  have hpo : ∀ p, p < nu → z_pok S (T.2.2 p) := fun p hp => (hT4 p hp).1
  have haw : ∀ p, p < nu → T.2.2 p 4 < 2 ^ 30 := fun p hp => (hpo p hp).2.2.2.2.1
  obtain ⟨c1, c2, c3, c4, c5, c6, c7, c8, c9, c10⟩ := id hC
  have cS1 := c1.1
  have cV1 := c2.1
  have hq := hR.q
  have ht := q_t hR
  have hM0 := zcd_M hM 0
  obtain ⟨d1, d2, d3, d4, d5, d6, d7, d8, d9, d10⟩ := id hM0
  have hM4 := hM
  obtain ⟨hnt7, htp⟩ := hTp
  rcases zrg a1 0 nt with ⟨n, -, hn, rfl⟩ | hx
  · obtain ⟨d, hd⟩ : ∃ d, d = 25 - q := ⟨_, rfl⟩
    have hq2 := hR.2.1
    have hd2 : d = 3 ∨ d = 22 := by omega
    have r3 : R 0 3 = q := hR.2.2.1
    have r4 : R 1 2 = d := hR.2.2.2.trans hd.symm
    obtain ⟨A', hA'⟩ : ∃ A', A' = sm_up I 0 (sm_up (I 0) 1 (nI 0)) := ⟨_, rfl⟩
    have aC : ∀ c, c ≠ 0 → A' c = I c := fun c hc => by rw [hA', up_n _ _ hc]
    have hA1 : ∀ i, i < n → A' 2 i = sm_i8 (nI (tp i)) := fun i hi => by
      rw [aC 2 (by omega)]
      exact c8.2 i (by omega)
    have htn : ∀ i, i < n → tp i < 256 := fun i hi => htp i (by omega)
    obtain ⟨J, L0, j1, -, j3, -, j5, -⟩ := r_school (N := N) (K := I) hN hR hR hd (show n ≤ 700 by omega) htn hA1 hn hnt7 hM.2.2.2.2.2.2.2.1.1 (fun i hi => hM.2.2.2.2.2.2.2.1.2 i (by omega))
    have jC : ∀ c, c ≠ 1 → (c < d ∨ d + 15 < c) → J c = A' c := fun c h1 h2 => j3 c (by
      unfold zDls
      simp only [List.mem_cons, List.not_mem_nil, or_false]
      omega)
    have jI : ∀ c, c ≠ 0 → c ≠ 1 → (c < d ∨ d + 15 < c) → J c = I c := fun c h0 h1 h2 => (jC c h1 h2).trans (aC c h0)
    have j01 : J 0 1 = nI 0 := by rw [jC 0 (by omega) (by omega), hA', up_s, up_s]
    rcases j5 with ⟨P, m, cd, X, hl, hP⟩ | hb
    · have j8 : J 1 8 = nI 0 := hl.1.1.1.2.2.2
      have j9 : J 1 9 = -nI 1 := hl.1.2.2.2.1.2
      obtain ⟨Q, hQ9⟩ : ∃ Q, Q = sm_up (sm_up R 0 (sm_up (R 0) 3 d)) 1 (sm_up (R 1) 2 q) := ⟨_, rfl⟩
      have hQ := sR_sw hR hd
      rw [← hQ9] at hQ
      obtain ⟨F, hF⟩ : ∃ F, F = sm_up (sm_up (sm_up (sm_up J 0 (sm_up (J 0) 2 (-nI 1))) 41 (sm_up (sm_up (J 41) 1 (nI 0)) 2 (nI 0))) 43 (sm_up (J 43) 3 (nI 0))) 48 (sm_up (J 48) 0 (nI 0)) := ⟨_, rfl⟩
      have fC : ∀ c, c ≠ 0 → c ≠ 41 → c ≠ 43 → c ≠ 48 → F c = J c := fun c h1 h2 h3 h4 => by rw [hF, up_n _ _ h4, up_n _ _ h3, up_n _ _ h2, up_n _ _ h1]
      have fhi : ∀ c, 80 ≤ c → F c = I c := fun c hc => (fC c (by omega) (by omega) (by omega) (by omega)).trans (jI c (by omega) (by omega) (by omega))
      obtain ⟨J2, L, k1, k2, -, k4, k5, l3, l15, l24⟩ := r_school (N := N) (K := F) hN hR hQ hd (show n ≤ 700 by omega) htn hA1 hn hnt7 (by rw [fhi 80 (by omega)]; exact hM.2.2.2.2.2.2.2.1.1) (fun i hi => by rw [fhi 94 (by omega)]; exact hM.2.2.2.2.2.2.2.1.2 i (by omega))
      rw [j1] at k1
      obtain rfl : J = J2 := (Prod.mk.inj (Option.some.inj k1)).2
      rcases k5 with ⟨P2, m2, cd2, X2, hl2, hP2⟩ | hb2
      · obtain ⟨K, x1, x2, x3⟩ := s_good (N := N) (st := st) hN hQ hd2 hl2 (F := F) (fun c h1 h2 => fC c (by omega) (by omega) (by omega) (by omega)) ⟨by rw [hF, up_n _ _ (by omega), up_n _ _ (by omega), up_s, up_n _ _ (by omega), up_s], by rw [hF, up_n _ _ (by omega), up_n _ _ (by omega), up_s, up_s]⟩ (by rw [hF, up_n _ _ (by omega), up_s, up_s]) (fun j hj => by rw [fC 47 (by omega) (by omega) (by omega) (by omega), jI 47 (by omega) (by omega) (by omega)]; exact c7 j hj) ⟨by rw [hF, up_n _ _ (by omega), up_n _ _ (by omega), up_n _ _ (by omega), up_s, up_n _ _ (by omega)]; exact j01, by rw [hF, up_n _ _ (by omega), up_n _ _ (by omega), up_n _ _ (by omega), up_s, up_s]⟩ (by rw [hF, up_s, up_s]) (fun j hj => by rw [fhi 93 (by omega)]; exact hM.2.2.2.2.2.2.1 j hj) k4 l3 l15 l24
        refine ⟨.inl (nI 0), (F, Q), nI 0, K, ?_, k2.trans x1, ag_ok _ _ _ x2, x3⟩
        have q6 : Q 0 4 = 41 := r0_4 hQ
        have q7 : Q 0 5 = 43 := r0_5 hQ
        have q9 : Q 0 7 = 48 := r0_7 hQ
        rw [hF]
        simp (disch := omega) only [f_X11_school, f_X0_clear, f_X9_clear, kd_0, kd_1, kd_41, kd_43, kd_48, c8, r3, r4, r0_0 hR, ← hA', j1, j8, j9, q6, q7, q9, r0_4 hR, r0_5 hR, r0_7 hR, zl_0, nI_ltI, nI_leI, up_s, up_n, up_uu, ← hQ9, gd_t, gd_pos, lt_eq, Option.bind_some, if_true, if_neg, if_pos]
      · obtain ⟨e, e1, e2, e3⟩ := zB_8 hb2
        rw [j8] at e3
        rw [nI_eq (by omega) (by omega)] at e3
        omega
    · obtain ⟨e0, -, -, ⟨he0, he05, -, -⟩, ⟨j8, -⟩, -, -⟩ := id hb
      obtain ⟨F, hF⟩ : ∃ F, F = sm_up (sm_up J 0 (sm_up (J 0) 2 (J 1 9))) 47 (sm_up (J 47) 0 (J 47 0 + nI 1)) := ⟨_, rfl⟩
      have fC : ∀ c, c ≠ 0 → c ≠ 47 → F c = J c := fun c h1 h2 => by rw [hF, up_n _ _ h2, up_n _ _ h1]
      have fhi : ∀ c, 80 ≤ c → F c = I c := fun c hc => (fC c (by omega) (by omega)).trans (jI c (by omega) (by omega) (by omega))
      obtain ⟨J2, L, k1, k2, -, k4, k5, l3, l15, l24⟩ := r_school (N := N) (K := F) hN hR hR hd (show n ≤ 700 by omega) htn hA1 hn hnt7 (by rw [fhi 80 (by omega)]; exact hM.2.2.2.2.2.2.2.1.1) (fun i hi => by rw [fhi 94 (by omega)]; exact hM.2.2.2.2.2.2.2.1.2 i (by omega))
      rw [j1] at k1
      obtain rfl : J = J2 := (Prod.mk.inj (Option.some.inj k1)).2
      rcases k5 with ⟨P2, m2, cd2, X2, hl2, hP2⟩ | hb2
      · have e3 : J 1 8 = nI 0 := hl2.1.1.1.2.2.2
        rw [j8] at e3
        rw [nI_eq (by omega) (by omega)] at e3
        omega
      · obtain ⟨e, pl, m, ⟨he, he5, hpl, hm⟩, ⟨b8, b9, b3, b4⟩, g22, g23⟩ := hb2
        obtain ⟨K, x1, x2, x3⟩ := s_bad (N := N) (F := F) hR hO hC hM he he5 g22 g23 (fun c hc => by rw [fC c (by omega) (by omega)]; exact jI c (by omega) (by omega) (by omega)) (fun j => by rw [hF, up_s, jI 47 (by omega) (by omega) (by omega)]; rfl) ⟨by rw [hF, up_n _ _ (by omega), up_s, up_n _ _ (by omega)]; exact j01, by rw [hF, up_n _ _ (by omega), up_s, up_s]; exact b9⟩ fhi k4 l3 l15
        refine ⟨.inl (nI e), (F, R), nI e, K, ?_, k2.trans x1, ag_ok _ _ _ x2, x3⟩
        rw [hF]
        simp (disch := omega) only [f_X11_school, kd_0, kd_1, kd_47, c8, r0_0 hR, r0_6 hR, ← hA', j1, b8, zl_0, zl_1, nI_eq, nI_ltI, nI_leI, nI_clamp, up_s, up_n, gd_t, gd_pos, lt_eq, Option.bind_some, true_and, and_true, not_true, not_false_iff, false_or, or_false, if_true, if_false, if_pos, if_neg, zcd]
  · refine ⟨.inr "java/lang/IllegalArgumentException", (I, R), 0, zcd I 1, ?_, ?_, ag_i _ (zcd_3 I 1), zInv_q hR hO hC (zfr_refl _ _) (zcd_M hM 1) (zcd_lo I 1)⟩
    · by_cases h0 : a1.toInt < ((0 : Nat) : Int)
      · simp (disch := omega) only [f_X11_school, kd_0, zl_0, zlt_l, gd_t, gd_pos, lt_eq, Option.bind_some, true_and, and_true, not_true, not_false_iff, false_or, or_false, if_true, if_false, if_pos, if_neg, zcd]
      · simp (disch := omega) only [f_X11_school, kd_0, c8, zl_0, zlt_l, zle_l, gd_t, gd_pos, lt_eq, Option.bind_some, true_and, and_true, not_true, not_false_iff, false_or, or_false, if_true, if_false, if_pos, if_neg, zcd]
    · by_cases h0 : a1.toInt < ((0 : Nat) : Int)
      · simp (disch := omega) only [f_X12_school, kd_80, zl_0, zl_1, zlt_l, m_fail, gd_t, gd_pos, lt_eq, Option.bind_some, true_and, and_true, not_true, not_false_iff, false_or, or_false, if_true, if_false, if_pos, if_neg, zcd, up_s, up_n, up_uu]
      · simp (disch := omega) only [f_X12_school, kd_80, d8, hM4.2.2.2.2.2.2.2.1.1, zl_0, zl_1, zlt_l, zle_l, m_fail, gd_t, gd_pos, lt_eq, Option.bind_some, true_and, and_true, not_true, not_false_iff, false_or, or_false, if_true, if_false, if_pos, if_neg, zcd, up_s, up_n, up_uu]
