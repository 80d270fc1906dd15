theorem zo_restore_ok {N : Nat} (hN : 5000 ≤ N) : zo_restore N zInv := by
  intro I R hI
  obtain ⟨q, S, nu, pr, T, na, A, ns, sn, st, nt, tp, fp, im, hR, hO, hC, hM⟩ := hI
  have hR : sR R q := hR
  have hC : zCi q S nu T na A ns sn st nt tp fp im I := hC
  have hM : zMi S nu T na A ns sn st nt tp fp im I := hM
  obtain ⟨hso, h7, ⟨hT1, hT2, hT3, hT4⟩, hAk, hNk, hTp, hIm⟩ := id hO
  have h6 := hso.1
  have hpo : ∀ p, p < nu → z_pok S (T.2.2 p) := fun p hp => (hT4 p hp).1
  have haw : ∀ p, p < nu → T.2.2 p 4 < 2 ^ 30 := fun p hp => (hpo p hp).2.2.2.2.1
  obtain ⟨c1, c2, c3, c4, c5, c6, c7, c8, c9, c10⟩ := id hC
  have cS1 := c1.1
  have cV1 := c2.1
  have hq := hR.q
  have ht := q_t hR
  have hM0 := zcd_M hM 0
  obtain ⟨d1, d2, d3, d4, d5, d6, d7, d8, d9, d10⟩ := id hM0
  have hq9 := sR_q hR
  rcases im with _ | x
  · have e1 : I 48 0 = nI 0 := c10
    have e2 : I 80 50 = nI 0 := hM.2.2.2.2.2.2.2.2.2
    refine ⟨0, I, zcd I 0, ?_, ?_, zInv_q hR hO hC (zfr_refl _ _) hM0 (zcd_lo I 0)⟩
    · simp (disch := omega) only [f_X11_restore, kd_0, r0_7 hR, kd_48, e1, zl_0, gd_t, gd_pos, lt_eq, Option.bind_some, true_and, and_true, not_true, not_false_iff, false_or, or_false, if_true, if_false, if_pos, if_neg, zcd]
    · simp (disch := omega) only [f_X12_restore, kd_80, e2, zl_0, up_s, up_n, gd_t, gd_pos, lt_eq, Option.bind_some, true_and, and_true, not_true, not_false_iff, false_or, or_false, if_true, if_false, if_pos, if_neg, zcd]
  · obtain ⟨Tx, ⟨nx, Ax⟩, ⟨mx, sx⟩, sy⟩ := x
    obtain ⟨hTx, hAx, hNx⟩ := hIm _ rfl
    have hTx : zTok S nu pr Tx := hTx
    have hAx : ∀ i, i < nx → zTok S nu pr (Ax i) := hAx
    have hNx : zNok nu mx sx := hNx
    have hpr : ∀ p, p < nu → Tx.2.2 p 5 = T.2.2 p 5 := fun p hp => ((hTx.2.2.2 p hp).2).trans (hT4 p hp).2.symm
    obtain ⟨i1, i2, i3, i4, i5⟩ := id c10
    have i1 : I 48 0 = nI 1 := i1
    obtain ⟨J1, p1, p2, p3, p4, p5⟩ := c_tread (I := I) (row := 49) (o := 0) (T := Tx) hN (q_t hR) h7 cV1 kd_49 (by omega) (by omega) i2 (fun p hp => by rw [hpr p hp]; exact c2.2 p hp 5 (by omega))
    have p5 : ∀ c, c ≠ q + 7 → ¬ (q + 9 ≤ c ∧ c ≤ q + 15) → J1 c = I c := fun c h1 h2 => p5 c (by
      unfold zTc
      simp only [List.mem_cons, List.not_mem_nil, or_false]
      omega)
    obtain ⟨J2, r1, r2, r3⟩ := c_abecome (N := N) (R := R) (c := 41) (c' := 50) h7 (aR_41 hR.1) (aR_50 hR.1) (by omega) (zCA_fr i3 (p5 50 (by omega) (by omega)) (p5 51 (by omega) (by omega)))
    have r3 : ∀ c, c ≠ 41 → c ≠ 42 → J2 c = J1 c := fun c hc hd => r3 c (by simp; omega)
    obtain ⟨J3, s1, s2, s3⟩ := c_nbec (N := N) (R := R) (c := 43) (c' := 52) hN (nR_43 hR.1) (nR_52 hR.1) (by omega) hNx.1 (zCN_fr i4 (fun c h1 h2 => (r3 c (by omega) (by omega)).trans (p5 c (by omega) (by omega))))
    have s3 : ∀ c, c < 43 ∨ 46 < c → J3 c = J2 c := fun c hc => s3 c (by simp; omega)
    obtain ⟨J, hJ⟩ : ∃ J, J = sm_up J3 47 (va_cpy (J3 56) (J3 47) 0 0 3) := ⟨_, rfl⟩
    have g4 : ∀ c, c ≠ 47 → J c = J3 c := fun c hc => by rw [hJ, up_n _ _ hc]
    have g1 : ∀ c, c < 41 ∨ 47 < c → J c = J1 c := fun c hc => (g4 c (by omega)).trans ((s3 c (by omega)).trans (r3 c (by omega) (by omega)))
    have g : ∀ c, c < 41 ∨ 47 < c → c ≠ q + 7 → ¬ (q + 9 ≤ c ∧ c ≤ q + 15) → J c = I c := fun c hc h1 h2 => (g1 c hc).trans (p5 c h1 h2)
    have hCJ : zCi q S nu Tx nx Ax mx sx sy nt tp fp (some (Tx, (nx, Ax), (mx, sx), sy)) J := zCi_mk hC (fun c hc => g c (by omega) (by omega) (by omega)) (g 0 (by omega) (by omega) (by omega)) (zCV_fr p2 h7 (fun c hc => g1 c (by omega))) (by rw [g1 _ (by omega)]; exact p3) (by rw [g1 _ (by omega)]; exact p4) (zCA_fr r2 ((g4 41 (by omega)).trans (s3 41 (by omega))) ((g4 42 (by omega)).trans (s3 42 (by omega)))) (zCN_fr s2 (fun c h1 h2 => g4 c (by omega))) (fun j hj => by
      rw [hJ, up_s]
      unfold va_cpy
      rw [if_pos (by omega), Nat.sub_zero, Nat.zero_add, s3 56 (by omega), r3 56 (by omega) (by omega), p5 56 (by omega) (by omega)]
      exact i5 j hj)
    have hMJ := zcd_M (zMi_lo (J := J) hM (fun k hk => g k (by omega) (by omega) (by omega))) 0
    obtain ⟨w1, w2, w3, w4, w5, w6, w7, w8, w9, v1, v2, v3, v4, v5⟩ := id hMJ
    obtain ⟨Y, hY⟩ : ∃ Y, Y = zcd J 0 := ⟨_, rfl⟩
    have hYl : ∀ k, k < 80 → Y k = J k := fun k hk => by rw [hY]; exact zcd_lo J 0 k hk
    have hY2 : sm_up J 80 (sm_up (J 80) 3 (nI 0)) = Y := hY.symm
    rw [← hY] at hMJ w1 w2 w3 w4 w5 w6 w7 w8 w9 v1 v2 v3 v4 v5
    have v1 : Y 80 50 = nI 1 := v1
    have y51 : Y 80 51 = nI nx := v3.2.1
    have y52 : Y 80 52 = nI mx := v4.1
    obtain ⟨Z, hZ⟩ : ∃ Z, Z = sm_up Y 80 (sm_up (sm_up (Y 80) 33 (nI nx)) 34 (nI mx)) := ⟨_, rfl⟩
    have hZf : zfm [] [33, 34] Y Z := by
      have h1 := zfm_f (L := []) (F := [33, 34]) (zfm_refl _ _ Y) (i := 33) (by simp) (nI nx)
      have h2 := zfm_f h1 (i := 34) (by simp) (nI mx)
      simp (disch := omega) only [up_s, up_uu] at h2
      rw [hZ]
      exact h2
    have zc : ∀ c, c ≠ 80 → Z c = Y c := fun c hc => hZf.1 c hc (by simp)
    have zf : ∀ f, f ≠ 33 → f ≠ 34 → Z 80 f = Y 80 f := fun f h1 h2 => hZf.2 f (by simp; omega)
    have z33 : Z 80 33 = nI nx := by rw [hZ, up_s, up_n _ _ (by omega), up_s]
    have z34 : Z 80 34 = nI mx := by rw [hZ, up_s, up_s]
    obtain ⟨X, x1, x2, x3, x4, x5⟩ := m_unpack (I := Z) (row := 114) (o := 0) (T := Tx) hN hR h7 (by rw [zc 84 (by omega)]; exact w2.1) kd_114 (by omega) (by omega) (by omega) (by rw [zc 114 (by omega)]; exact v2) (fun p hp => by rw [hpr p hp, zc 88 (by omega)]; exact (w2.2 p hp).2.2.2.2.2)
    have xc : ∀ c, c ≠ 80 → c < 95 ∨ 99 < c → X c = Y c := fun c hc hd => (x5.1 c hc (by simp; omega)).trans (zc c hc)
    have xf : ∀ f, f ≠ 31 → f ≠ 32 → X 80 f = Z 80 f := fun f h1 h2 => x5.2 f (by simp; omega)
    obtain ⟨K1, K2, K3, K4, K, q1, q2, q3, q4, q5, q6, q7, q8, q9⟩ := m_cps (R := R) (I := X) (a := 0) (fl := 51) (b := 115) (d := 116) (e := 119) (a' := 100) (d' := 107) (e' := 93) (nu := nu) (na := nx) (ns := mx) (A := Ax) (sn := sx) (st := sy) hN h7 (zMA_eq v3 ((xf 51 (by omega) (by omega)).trans (zf 51 (by omega) (by omega))) (xc 115 (by omega) (by omega))) hNx.1 (fun i hi => by rw [xc 116 (by omega) (by omega), xc (116 + 1) (by omega) (by omega), xc (116 + 2) (by omega) (by omega)]; exact v4.2 i hi) (fun j hj => by rw [xc 119 (by omega) (by omega)]; exact v5 j hj) kd_100 kd_115 kd_107 kd_108 kd_109 kd_116 kd_117 kd_118 kd_93 kd_119 (by omega) (by omega) (by omega) (by omega) (by omega) (by omega)
    have kx : ∀ c, c ≠ 80 → c ≠ 93 → c ≠ 100 → c < 107 ∨ 109 < c → K c = X c := fun c hc h1 h2 h3 => q9.1 c hc (by simp; omega)
    have kc : ∀ c, c ≠ 80 → c ≠ 93 → c ≠ 100 → c < 107 ∨ 109 < c → c < 95 ∨ 99 < c → K c = Y c := fun c hc h1 h2 h3 h4 => (kx c hc h1 h2 h3).trans (xc c hc h4)
    have kf : ∀ f, K 80 f = X 80 f := fun f => q9.2 f (by simp)
    have kf2 : ∀ f, f ≠ 31 → f ≠ 32 → f ≠ 33 → f ≠ 34 → K 80 f = Y 80 f := fun f h1 h2 h3 h4 => (kf f).trans ((xf f h1 h2).trans (zf f h3 h4))
    have hMK : zMi S nu Tx nx Ax mx sx sy nt tp fp (some (Tx, (nx, Ax), (mx, sx), sy)) K := by
      refine zMi_mk hMJ (fun c hc => kc c (by omega) (by omega) (by omega) (by omega) (by omega)) (fun f hf => kf2 f (by omega) (by omega) (by omega) (by omega)) ?_ ((kf 31).trans x3) ((kf 32).trans x4) ⟨v3.1, (kf 33).trans ((xf 33 (by omega) (by omega)).trans z33), q6⟩ ⟨(kf 34).trans ((xf 34 (by omega) (by omega)).trans z34), q7⟩ q8
      unfold zMV at x2 ⊢
      rw [kx 84 (by omega) (by omega) (by omega) (by omega), kx 95 (by omega) (by omega) (by omega) (by omega), kx 96 (by omega) (by omega) (by omega) (by omega), kx 97 (by omega) (by omega) (by omega) (by omega), kx 98 (by omega) (by omega) (by omega) (by omega), kx 99 (by omega) (by omega) (by omega) (by omega), kx 88 (by omega) (by omega) (by omega) (by omega)]
      exact x2
    have hO2 : zOk S nu pr Tx nx Ax mx sx nt tp (some (Tx, (nx, Ax), (mx, sx), sy)) := ⟨hso, h7, hTx, hAx, hNx, hTp, hIm⟩
    refine ⟨nI 1, J, K, ?_, ?_, zInv_of hR hO2 hCJ hMK (fun j hj => (kc j (by omega) (by omega) (by omega) (by omega) (by omega)).trans (hYl j hj))⟩
    · rw [hJ]
      simp (disch := omega) only [f_X11_restore, kd_0, hR.2.2.1, q_k0 hR, q_r5 hR, q_t0 hR, r0_4 hR, r0_5 hR, r0_6 hR, r0_7 hR, kd_41, kd_43, kd_47, kd_48, kd_56, r48_1 hR, r48_2 hR, r48_3 hR, r48_4 hR, i1, p1, r1, s1, zl_0, zl_1, zl_ofNat, nI_ltI, nI_eq, nI_clamp, Nat.zero_add, Nat.le_refl, gd_t, gd_pos, lt_eq, Option.bind_some, true_and, and_true, not_true, not_false_iff, false_or, or_false, if_true, if_false, if_pos, if_neg, zcd, up_s, up_n, up_uu]
    · simp (disch := omega) only [f_X12_restore, kd_80, zl_0, zl_1, hY2, v1, y51, y52, nI_eq, if_false, if_neg, ← hZ, x1, q1, q2, q3, q4, q5, r80_53 hR, r80_54 hR, r80_55 hR, r80_56 hR, r80_57 hR, r80_58 hR, r80_30 hR, r80_41 hR, r80_42 hR, r80_43 hR, r80_13 hR, gd_t, gd_pos, lt_eq, Option.bind_some, up_s, up_n, up_uu]
