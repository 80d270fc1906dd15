set_option maxHeartbeats 4000000 in
theorem zo_undo_ok {N : Nat} (hN : 5000 ≤ N) : zo_undo N zInv := by
  intro I R hI
  obtain ⟨q, S, nu, pr, T, na, A, ns, sn, st, nt, tp, fp, im, hR, hO, hC, hM⟩ := hI
  have hR : sR R q := hR
  have hC : zCi q S nu T na A ns sn st nt tp fp im I := hC
  have hM : zMi S nu T na A ns sn st nt tp fp im I := hM
  obtain ⟨hso, h7, ⟨hT1, hT2, hT3, hT4⟩, hAk, hNk, hTp, hIm⟩ := id hO
  have h6 := hso.1
  have hpo : ∀ p, p < nu → z_pok S (T.2.2 p) := fun p hp => (hT4 p hp).1
  have haw : ∀ p, p < nu → T.2.2 p 4 < 2 ^ 30 := fun p hp => (hpo p hp).2.2.2.2.1
  obtain ⟨c1, c2, c3, c4, c5, c6, c7, c8, c9, c10⟩ := id hC
  have cS1 := c1.1
  have cV1 := c2.1
  have hq := hR.q
  have ht := q_t hR
  have hM0 := zcd_M hM 0
  obtain ⟨d1, d2, d3, d4, d5, d6, d7, d8, d9, d10⟩ := id hM0
  obtain ⟨-, fs, -, -, c52, -⟩ := id c5
  have hna := c5.1
  rcases na with _ | m
  · have u51 := hM.2.2.2.2.1.2.1
    refine ⟨-1, I, zcd I 0, ?_, ?_, zInv_q hR hO hC (zfr_refl _ _) hM0 (zcd_lo I 0)⟩
    · simp (disch := omega) only [f_X11_undo, kd_0, r0_4 hR, kd_41, c52, zl_0, nI_eq, gd_t, gd_pos, lt_eq, Option.bind_some, true_and, and_true, not_true, not_false_iff, false_or, or_false, if_true, if_false, if_pos, if_neg, zcd]
    · simp (disch := omega) only [f_X12_undo, kd_80, zl_0, u51, nI_eq, up_s, up_n, gd_t, gd_pos, lt_eq, Option.bind_some, true_and, and_true, not_true, not_false_iff, false_or, or_false, if_true, if_false, if_pos, if_neg, zcd]
  · have hTm := hAk m (by omega)
    have hpr : ∀ p, p < nu → (A m).2.2 p 5 = T.2.2 p 5 := fun p hp => ((hTm.2.2.2 p hp).2).trans (hT4 p hp).2.symm
    obtain ⟨J, j1, j2, j3, j4, j5, j6⟩ := c_takeBack hN (q_t hR) (aR_41 hR.1) h7 cV1 c5 (fun p hp => by rw [hpr p hp]; exact c2.2 p hp 5 (by omega))
    have hq9 := sR_q hR
    have io : ∀ c, c ≠ 41 → c ≠ q + 7 → ¬ (q + 9 ≤ c ∧ c ≤ q + 15) → J c = I c := fun c h1 h2 h3 => j6 c (by
      unfold zTc
      simp only [List.mem_cons, List.not_mem_nil, or_false]
      omega)
    have hCJ : zCi q S nu (A m) m A ns sn st nt tp fp im J := zCi_mk hC (fun c hc => io c (by omega) (by omega) (by omega)) (io 0 (by omega) (by omega) (by omega)) j3 j4 j5 j2 (zCN_fr c6 (fun c h1 h2 => io c (by omega) (by omega) (by omega))) (fun j hj => by rw [io 47 (by omega) (by omega) (by omega)]; exact c7 j hj)
    have g2 : J 41 2 = nI m := by
      obtain ⟨-, fs', -, -, c53, -⟩ := j2
      exact c53
    have hMJ := zcd_M (zMi_lo (J := J) hM (fun k hk => io k (by omega) (by omega) (by omega))) 0
    obtain ⟨w1, w2, w3, w4, w5, w6, w7, w8, w9, w10⟩ := id hMJ
    have hf : zfm [] [33] (zcd J 0) (sm_up (zcd J 0) 80 (sm_up (zcd J 0 80) 33 (nI m))) := zfm_f (zfm_refl _ _ _) (by simp) _
    obtain ⟨X, hX⟩ : ∃ X, X = sm_up (zcd J 0) 80 (sm_up (zcd J 0 80) 33 (nI m)) := ⟨_, rfl⟩
    rw [← hX] at hf
    have x33 : X 80 33 = nI m := by rw [hX, up_s, up_s]
    have xg : ∀ c, c ≠ 80 → X c = zcd J 0 c := fun c hc => hf.1 c hc (by simp)
    have xv := zMV_fr w2 hf (by decide)
    obtain ⟨K, k1, k2, k3, k4, k5⟩ := m_unpack (I := X) (row := 100) (o := 37 * m) (T := A m) hN hR h7 xv.1 kd_100 (by omega) (by omega) (by omega) (by rw [xg 100 (by omega)]; exact w5.2.2 m (by omega)) (fun p hp => by rw [hpr p hp]; exact (xv.2 p hp).2.2.2.2.2)
    have k33 : K 80 33 = nI m := by rw [k5.2 33 (by simp)]; exact x33
    have kg : ∀ c, c ≠ 80 → ¬ (95 ≤ c ∧ c ≤ 99) → K c = zcd J 0 c := fun c h1 h2 => (k5.1 c h1 (by simp; omega)).trans (xg c h1)
    have kf : ∀ f, f ≠ 31 → f ≠ 32 → f ≠ 33 → K 80 f = zcd J 0 80 f := fun f h1 h2 h3 => (k5.2 f (by simp; omega)).trans (hf.2 f (by simp; omega))
    have hMK : zMi S nu (A m) m A ns sn st nt tp fp im K := zMi_mk hMJ (fun c hc => kg c (by omega) (by omega)) (fun f hf => kf f (by omega) (by omega) (by omega)) k2 k3 k4 ⟨by omega, k33, fun i hi => by rw [kg 100 (by omega) (by omega)]; exact w5.2.2 i (by omega)⟩ (zMN_eq w6 (kf 34 (by omega) (by omega) (by omega)) (kg 107 (by omega) (by omega)) (kg 108 (by omega) (by omega)) (kg 109 (by omega) (by omega))) (fun j hj => by rw [kg 93 (by omega) (by omega)]; exact w7 j hj)
    have hO2 : zOk S nu pr (A m) m A ns sn nt tp im := ⟨hso, h7, hTm, fun i hi => hAk i (by omega), hNk, hTp, hIm⟩
    refine ⟨nI m, J, K, ?_, ?_, zInv_of hR hO2 hCJ hMK (fun j hj => (kg j (by omega) (by omega)).trans (zcd_lo J 0 j hj))⟩
    · simp (disch := omega) only [f_X11_undo, kd_0, hR.2.2.1, q_k0 hR, q_r5 hR, r0_4 hR, kd_41, c52, zl_0, nI_eq, j1, g2, gd_t, gd_pos, lt_eq, Option.bind_some, true_and, and_true, not_true, not_false_iff, false_or, or_false, if_true, if_false, if_pos, if_neg, zcd]
    · have u51 : zcd J 0 80 33 = nI (m + 1) := w5.2.1
      obtain ⟨Y, hY⟩ : ∃ Y, Y = zcd J 0 := ⟨_, rfl⟩
      rw [← hY] at u51 hX
      have hY2 : sm_up J 80 (sm_up (J 80) 3 (nI 0)) = Y := hY.symm
      unfold f_X12_undo
      rw [gd_pos kd_80, lt_eq, zl_0, hY2, u51, if_neg (by rw [nI_eq (by omega) (by omega)]; omega), lt_eq, zl_1, pk_sub (by omega), Nat.add_sub_cancel, ← hX, x33, zl_37, pk_mul, r80_30 hR, k1, Option.bind_some]
      show some (K 80 33, K) = some (nI m, K)
      rw [k33]
