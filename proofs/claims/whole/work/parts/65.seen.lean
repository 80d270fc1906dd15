/-! ===== PURE PART: see, forget, image, restore ===== -/
section ZN
variable {N : Nat} {R : Nat → Nat → Nat} {q : Nat} {ns : Nat} {sn : Nat → Nat × Nat × Nat} {I J K : Nat → Nat → Int32}
theorem c_nadd (hR : sR R q) (h : zCN ns sn 43 I) (h8 : ns < 8) (p w b : Nat) : ∃ J, f_X9_add N R 43 (nI p) (nI w) (nI b) I = some ((), J) ∧ zCN (ns + 1) (sm_up sn ns (p, w, b)) 43 J ∧ zfr [43, 44, 45, 46] I J := by
  have h3 := h.1
  refine ⟨sm_up (sm_up (sm_up (sm_up I 44 (sm_up (I 44) ns (nI p))) 45 (sm_up (I 45) ns (nI w))) 46 (sm_up (I 46) ns (nI b))) 43 (sm_up (I 43) 3 (nI (ns + 1))), ?_, ⟨by rw [up_s, up_s], fun i hi => ?_⟩, zfr_up (zfr_up (zfr_up (zfr_up (zfr_refl _ _) (by simp) _) (by simp) _) (by simp) _) (by simp) _⟩
  · simp (disch := omega) only [f_X9_add, kd_43, kd_44, kd_45, kd_46, r43_0 hR, r43_1 hR, r43_2 hR, h3, zl_0, zl_1, zl_8, nI_ltI, nI_leI, nI_clamp, nI_add, gd_t, gd_pos, lt_eq, Option.bind_some, true_and, and_true, not_true, not_false_iff, false_or, or_false, if_true, if_false, if_pos, if_neg, zcd, up_s, up_n, up_uu]
  · by_cases e : i = ns
    · subst e
      simp (disch := omega) only [up_s, up_n, and_self]
    · have := h.2 i (by omega)
      simp (disch := omega) only [up_s, up_n]
      exact this
theorem c_nbec {c c' : Nat} (hN : 5000 ≤ N) (a : nR R c) (b : nR R c') (hne : c + 3 < c' ∨ c' + 3 < c) (h8 : ns ≤ 8) (h : zCN ns sn c' I) : ∃ J, f_X9_become N R c c' I = some ((), J) ∧ zCN ns sn c J ∧ zfr [c, c + 1, c + 2, c + 3] I J := by
  obtain ⟨a0, a1, a2, a3, a4, a5, a6⟩ := a
  obtain ⟨b0, b1, b2, b3, b4, b5, b6⟩ := b
  have h3 := h.1
  have key := zm_loop (fun n i s => f_X9_become_10 N R n c c' (nI i) s) (fun i s => s c 3 = nI ns ∧ (∀ j, j < i → s (c + 1) j = nI (sn j).1 ∧ s (c + 2) j = nI (sn j).2.1 ∧ s (c + 3) j = nI (sn j).2.2) ∧ zfr [c, c + 1, c + 2, c + 3] I s) (fun y => y.1 = () ∧ zCN ns sn c y.2 ∧ zfr [c, c + 1, c + 2, c + 3] I y.2) ns
    (fun n s hs => by
      have g := hs.1
      exact ⟨((), s), by simp (disch := omega) only [f_X9_become_10, a0, g, nI_leI, gd_t, gd_pos, lt_eq, Option.bind_some, true_and, and_true, not_true, not_false_iff, false_or, or_false, if_true, if_false, if_pos, if_neg, zcd], rfl, ⟨g, hs.2.1⟩, hs.2.2⟩)
    (fun n i s hi hs => by
      obtain ⟨g, g2, g3⟩ := hs
      have w1 : s (c' + 1) i = nI (sn i).1 := by rw [g3 (c' + 1) (by simp; omega)]; exact (h.2 i hi).1
      have w2 : s (c' + 2) i = nI (sn i).2.1 := by rw [g3 (c' + 2) (by simp; omega)]; exact (h.2 i hi).2.1
      have w3 : s (c' + 3) i = nI (sn i).2.2 := by rw [g3 (c' + 3) (by simp; omega)]; exact (h.2 i hi).2.2
      refine ⟨sm_up (sm_up (sm_up s (c + 1) (sm_up (s (c + 1)) i (nI (sn i).1))) (c + 2) (sm_up (s (c + 2)) i (nI (sn i).2.1))) (c + 3) (sm_up (s (c + 3)) i (nI (sn i).2.2)), ?_, ?_, ?_, zfr_up (zfr_up (zfr_up g3 (by simp) _) (by simp) _) (by simp) _⟩
      · simp (disch := omega) only [f_X9_become_10, a0, a1, a2, a3, a4, a5, a6, b0, b1, b2, b3, b4, b5, b6, g, w1, w2, w3, zl_0, zl_1, nI_ltI, nI_leI, nI_clamp, nI_add, gd_t, gd_pos, lt_eq, Option.bind_some, true_and, and_true, not_true, not_false_iff, false_or, or_false, if_true, if_false, if_pos, if_neg, zcd, up_s, up_n, up_uu]
      · simp (disch := omega) only [up_n]
        exact g
      · intro j hj
        by_cases e : j = i
        · subst e
          simp (disch := omega) only [up_s, up_n, and_self]
        · have := g2 j (by omega)
          simp (disch := omega) only [up_s, up_n]
          exact this) ns 0 (sm_up I c (sm_up (I c) 3 (nI ns))) N (by omega) (by omega) ⟨by rw [up_s, up_s], fun j hj => absurd hj (Nat.not_lt_zero j), zfr_up (zfr_refl _ _) (by simp) _⟩
  obtain ⟨⟨u, J⟩, l1, l2, l3, l4⟩ := key
  refine ⟨J, ?_, l3, l4⟩
  refine Eq.trans ?_ l1
  simp (disch := omega) only [f_X9_become, a0, b0, h3, zl_0, gd_t, gd_pos, lt_eq, Option.bind_some, true_and, and_true, not_true, not_false_iff, false_or, or_false, if_true, if_false, if_pos, if_neg, zcd]
end ZN
theorem zo_forget_ok {N : Nat} (hN : 5000 ≤ N) : zo_forget N zInv := by
  intro I R hI
  obtain ⟨q, S, nu, pr, T, na, A, ns, sn, st, nt, tp, fp, im, hR, hO, hC, hM⟩ := hI
  have hR : sR R q := hR
  have hC : zCi q S nu T na A ns sn st nt tp fp im I := hC
  have hM : zMi S nu T na A ns sn st nt tp fp im I := hM
  obtain ⟨hso, h7, ⟨hT1, hT2, hT3, hT4⟩, hAk, hNk, hTp, hIm⟩ := id hO
  have h6 := hso.1
  have hpo : ∀ p, p < nu → z_pok S (T.2.2 p) := fun p hp => (hT4 p hp).1
  have haw : ∀ p, p < nu → T.2.2 p 4 < 2 ^ 30 := fun p hp => (hpo p hp).2.2.2.2.1
  obtain ⟨c1, c2, c3, c4, c5, c6, c7, c8, c9, c10⟩ := id hC
  have cS1 := c1.1
  have cV1 := c2.1
  have hq := hR.q
  have ht := q_t hR
  have hM0 := zcd_M hM 0
  obtain ⟨d1, d2, d3, d4, d5, d6, d7, d8, d9, d10⟩ := id hM0
  have hq9 := sR_q hR
  obtain ⟨J, hJ⟩ : ∃ J, J = sm_up I 43 (sm_up (I 43) 3 (nI 0)) := ⟨_, rfl⟩
  have g : ∀ c, c ≠ 43 → J c = I c := fun c hc => by rw [hJ, up_n _ _ hc]
  have hCJ : zCi q S nu T na A 0 sn st nt tp fp im J := zCi_mk hC (fun c hc => g c (by omega)) (g 0 (by omega)) (zCV_fr c2 h7 (fun c hc => g c (by omega))) (by rw [g _ (by omega)]; exact c3) (by rw [g _ (by omega)]; exact c4) (zCA_fr c5 (g 41 (by omega)) (g 42 (by omega))) ⟨by rw [hJ, up_s, up_s], fun i hi => absurd hi (Nat.not_lt_zero i)⟩ (fun j hj => by rw [g 47 (by omega)]; exact c7 j hj)
  have hMJ := zcd_M (zMi_lo (J := J) hM (fun k hk => g k (by omega))) 0
  have hf : zfm [] [34] (zcd J 0) (sm_up (zcd J 0) 80 (sm_up (zcd J 0 80) 34 (nI 0))) := zfm_f (zfm_refl _ _ _) (by simp) _
  obtain ⟨K, hK⟩ : ∃ K, K = sm_up (zcd J 0) 80 (sm_up (zcd J 0 80) 34 (nI 0)) := ⟨_, rfl⟩
  rw [← hK] at hf
  have kc : ∀ c, c ≠ 80 → K c = zcd J 0 c := fun c hc => hf.1 c hc (by simp)
  have kf : ∀ f, f ≠ 34 → K 80 f = zcd J 0 80 f := fun f hx => hf.2 f (by simp; omega)
  obtain ⟨w1, w2, w3, w4, w5, w6, w7, w8, w9, w10⟩ := id hMJ
  have hMK : zMi S nu T na A 0 sn st nt tp fp im K := zMi_mk hMJ (fun c hc => kc c (by omega)) (fun f hf => kf f (by omega)) (zMV_fr w2 hf (by decide)) (by rw [kf 31 (by omega)]; exact w3) (by rw [kf 32 (by omega)]; exact w4) (zMA_eq w5 (kf 33 (by omega)) (kc 100 (by omega))) ⟨by rw [hK, up_s, up_s], fun i hi => absurd hi (Nat.not_lt_zero i)⟩ (fun j hj => by rw [kc 93 (by omega)]; exact w7 j hj)
  have hO2 : zOk S nu pr T na A 0 sn nt tp im := ⟨hso, h7, hO.2.2.1, hAk, ⟨by omega, fun i hi => absurd hi (Nat.not_lt_zero i)⟩, hTp, hIm⟩
  refine ⟨J, K, ?_, ?_, zInv_of hR hO2 hCJ hMK (fun j hj => (kc j (by omega)).trans (zcd_lo J 0 j hj))⟩
  · rw [hJ]
    simp (disch := omega) only [f_X11_forget, f_X9_clear, kd_0, r0_5 hR, kd_43, zl_0, gd_t, gd_pos, lt_eq, Option.bind_some, true_and, and_true, not_true, not_false_iff, false_or, or_false, if_true, if_false, if_pos, if_neg, zcd]
  · rw [hK]
    simp (disch := omega) only [f_X12_forget, kd_80, zl_0, gd_t, gd_pos, lt_eq, Option.bind_some, true_and, and_true, not_true, not_false_iff, false_or, or_false, if_true, if_false, if_pos, if_neg, zcd]
theorem zo_see_ok {N : Nat} (hN : 5000 ≤ N) : zo_see N zInv := by
  intro I R a1 a2 a3 hI
  obtain ⟨q, S, nu, pr, T, na, A, ns, sn, st, nt, tp, fp, im, hR, hO, hC, hM⟩ := hI
  have hR : sR R q := hR
  have hC : zCi q S nu T na A ns sn st nt tp fp im I := hC
  have hM : zMi S nu T na A ns sn st nt tp fp im I := hM
  obtain ⟨hso, h7, ⟨hT1, hT2, hT3, hT4⟩, hAk, hNk, hTp, hIm⟩ := id hO
  have h6 := hso.1
  have hpo : ∀ p, p < nu → z_pok S (T.2.2 p) := fun p hp => (hT4 p hp).1
  have haw : ∀ p, p < nu → T.2.2 p 4 < 2 ^ 30 := fun p hp => (hpo p hp).2.2.2.2.1
  obtain ⟨c1, c2, c3, c4, c5, c6, c7, c8, c9, c10⟩ := id hC
  have cS1 := c1.1
  have cV1 := c2.1
  have hq := hR.q
  have ht := q_t hR
  have hM0 := zcd_M hM 0
  obtain ⟨d1, d2, d3, d4, d5, d6, d7, d8, d9, d10⟩ := id hM0
  rcases zrx a1 nu with ⟨p, hp, rfl⟩ | hx
  · have hq9 := sR_q hR
    have hns := hNk.1
    have c61 := c6.1
    have e1 := c_pupil_in (N := N) hR c2 h7 hp
    have e2 := m_isPupil (N := N) hR h7 d2 (nI p)
    rw [nI_toInt (by omega), if_pos (by omega)] at e2
    have kp := q_t9 hR (show p < 7 by omega)
    have pl := c2.2 p hp
    rw [show q + 7 + 2 + p = q + 9 + p by omega] at pl
    by_cases hv : (1 ≤ a2.toInt ∧ a2.toInt ≤ 20) ∧ (0 ≤ a3.toInt ∧ a3.toInt ≤ 8) ∧ ns < 8
    · obtain ⟨⟨hv1, hv2⟩, ⟨hb1, hb3⟩, h8⟩ := hv
      rcases zrg a2 1 20 with ⟨w, hw1, hw2, rfl⟩ | hx
      · rcases zrg a3 0 8 with ⟨b, -, hb2, rfl⟩ | hx
        · obtain ⟨J, j1, j2, j3⟩ := c_nadd (N := N) hR c6 h8 p w b
          have g : ∀ c, c < 43 ∨ 46 < c → J c = I c := fun c hc => j3 c (by simp; omega)
          have hCJ : zCi q S nu T na A (ns + 1) (sm_up sn ns (p, w, b)) st nt tp fp im J := zCi_mk hC (fun c hc => g c (by omega)) (g 0 (by omega)) (zCV_fr c2 h7 (fun c hc => g c (by omega))) (by rw [g _ (by omega)]; exact c3) (by rw [g _ (by omega)]; exact c4) (zCA_fr c5 (g 41 (by omega)) (g 42 (by omega))) j2 (fun j hj => by rw [g 47 (by omega)]; exact c7 j hj)
          have hMJ := zcd_M (zMi_lo (J := J) hM (fun k hk => g k (by omega))) 0
          obtain ⟨w1, w2, w3, w4, w5, w6, w7, w8, w9, w10⟩ := id hMJ
          have f2 := m_isPupil (N := N) hR h7 w2 (nI p)
          rw [nI_toInt (by omega), if_pos (by omega)] at f2
          have f4 := m_isIn (N := N) (R := R) (I := zcd J 0) (nI b).toInt64 0 8
          rw [z64, zq_0, zq_8, nI_toInt (by omega), if_pos (by omega)] at f4
          have f6 := m_isIn (N := N) (R := R) (I := zcd J 0) (nI w).toInt64 1 20
          rw [z64, zq_1, zq_20, nI_toInt (by omega), if_pos (by omega)] at f6
          obtain ⟨Y, hY⟩ : ∃ Y, Y = zcd J 0 := ⟨_, rfl⟩
          have hY3 : Y 80 3 = nI 0 := by rw [hY]; exact zcd_3 J 0
          have hYl : ∀ k, k < 80 → Y k = J k := fun k hk => by rw [hY]; exact zcd_lo J 0 k hk
          have hY2 : sm_up J 80 (sm_up (J 80) 3 (nI 0)) = Y := hY.symm
          rw [← hY] at f2 f4 f6 hMJ w1 w2 w3 w4 w5 w6 w7 w8 w9 w10
          have y34 := w6.1
          obtain ⟨K, hK⟩ : ∃ K, K = sm_up (sm_up (sm_up (sm_up Y 107 (sm_up (Y 107) ns (nI p))) 108 (sm_up (Y 108) ns (nI w))) 109 (sm_up (Y 109) ns (nI b))) 80 (sm_up (Y 80) 34 (nI (ns + 1))) := ⟨_, rfl⟩
          have hf : zfm [107, 108, 109] [34] Y K := by
            have hg : zfm [107, 108, 109] [34] Y (sm_up (sm_up (sm_up Y 107 (sm_up (Y 107) ns (nI p))) 108 (sm_up (Y 108) ns (nI w))) 109 (sm_up (Y 109) ns (nI b))) := zfm_up (zfm_up (zfm_up (zfm_refl _ _ _) (by simp) (by omega) _) (by simp) (by omega) _) (by simp) (by omega) _
            have hh := zfm_f hg (i := 34) (by simp) (nI (ns + 1))
            simp (disch := omega) only [up_n] at hh
            rw [hK]
            exact hh
          have kc : ∀ c, c ≠ 80 → c < 107 ∨ 109 < c → K c = Y c := fun c hc hd => hf.1 c hc (by simp; omega)
          have kf : ∀ f, f ≠ 34 → K 80 f = Y 80 f := fun f hx => hf.2 f (by simp; omega)
          have k34 : K 80 34 = nI (ns + 1) := by rw [hK, up_s, up_s]
          have hMK : zMi S nu T na A (ns + 1) (sm_up sn ns (p, w, b)) st nt tp fp im K := zMi_mk hMJ (fun c hc => kc c (by omega) (by omega)) (fun f hf => kf f (by omega)) (zMV_fr w2 hf (by decide)) (by rw [kf 31 (by omega)]; exact w3) (by rw [kf 32 (by omega)]; exact w4) (zMA_eq w5 (kf 33 (by omega)) (kc 100 (by omega) (by omega))) ⟨k34, fun i hi => by
            by_cases e : i = ns
            · subst e
              rw [hK]
              simp (disch := omega) only [up_s, up_n, and_self]
            · have := w6.2 i (by omega)
              rw [hK]
              simp (disch := omega) only [up_s, up_n]
              exact this⟩ (fun j hj => by rw [kc 93 (by omega) (by omega)]; exact w7 j hj)
          have hO2 : zOk S nu pr T na A (ns + 1) (sm_up sn ns (p, w, b)) nt tp im := ⟨hso, h7, hO.2.2.1, hAk, ⟨by omega, fun i hi => by
            by_cases e : i = ns
            · subst e
              rw [up_s]
              exact ⟨hp, hw1, hw2, hb2⟩
            · rw [up_n _ _ e]
              exact hNk.2 i (by omega)⟩, hTp, hIm⟩
          have j43 := j2.1
          refine ⟨.inl (nI (ns + 1)), J, nI (ns + 1), K, ?_, ?_, ag_ok _ _ _ (by rw [kf 3 (by omega)]; exact hY3), zInv_of hR hO2 hCJ hMK (fun j hj => (kc j (by omega) (by omega)).trans (hYl j hj))⟩
          · simp (disch := omega) only [f_X11_see, f_X11_see_32, kd_0, r0_5 hR, kd_43, e1, tb_l, c61, j1, j43, zl_0, zl_1, zl_8, zl_20, nI_ltI, nI_leI, nI_eq, gd_t, gd_pos, lt_eq, Option.bind_some, true_and, and_true, not_true, not_false_iff, false_or, or_false, if_true, if_false, if_pos, if_neg, zcd]
          · rw [hK]
            simp (disch := omega) only [f_X12_see, kd_80, zl_0, zl_1, zl_8, hY2, f2, f4, f6, y34, r80_41 hR, kd_107, r80_42 hR, kd_108, r80_43 hR, kd_109, nI_ltI, nI_leI, nI_eq, nI_clamp, nI_add, gd_t, gd_pos, lt_eq, Option.bind_some, true_and, and_true, not_true, not_false_iff, false_or, or_false, if_true, if_false, if_pos, if_neg, up_s, up_n, up_uu]
        · exact absurd hx (by omega)
      · exact absurd hx (by omega)
    · obtain ⟨J, j1, j2, j3, j4⟩ := c_ref (N := N) hR hO hC hM (j := 2) (by omega)
      obtain ⟨K, m1, m2, m3, m4⟩ := m_ref (N := N) hR (zcd_M j3 0) (j := 2) (by omega)
      have f2 := m_isPupil (N := N) hR h7 (zcd_M j3 0).2.1 (nI p)
      rw [nI_toInt (by omega), if_pos (by omega)] at f2
      have f4 := m_isIn (N := N) (R := R) (I := zcd J 0) a3.toInt64 0 8
      rw [z64, zq_0, zq_8] at f4
      have f6 := m_isIn (N := N) (R := R) (I := zcd J 0) a2.toInt64 1 20
      rw [z64, zq_1, zq_20] at f6
      have y34 : J 80 34 = nI ns := j3.2.2.2.2.2.1.1
      refine ⟨.inl (-1), J, -1, K, ?_, ?_, ag_ok _ _ _ (by rw [m3]; exact zcd_3 J 0), zInv_of hR hO j2 m2 (fun k hk => (m4 k hk).trans (zcd_lo J 0 k hk))⟩
      · by_cases h1 : a2.toInt < ((1 : Nat) : Int)
        · simp (disch := omega) only [f_X11_see, f_X11_see_32, kd_0, e1, tb_l, zl_0, zl_1, zl_2, zl_8, zl_20, zlt_l, zlt_r, j1, gd_t, gd_pos, lt_eq, Option.bind_some, true_and, and_true, not_true, not_false_iff, false_or, or_false, if_true, if_false, if_pos, if_neg, zcd]
        · by_cases h2 : ((20 : Nat) : Int) < a2.toInt
          · simp (disch := omega) only [f_X11_see, f_X11_see_32, kd_0, e1, tb_l, zl_0, zl_1, zl_2, zl_8, zl_20, zlt_l, zlt_r, j1, gd_t, gd_pos, lt_eq, Option.bind_some, true_and, and_true, not_true, not_false_iff, false_or, or_false, if_true, if_false, if_pos, if_neg, zcd]
          · by_cases h3 : a3.toInt < ((0 : Nat) : Int)
            · simp (disch := omega) only [f_X11_see, f_X11_see_32, kd_0, e1, tb_l, zl_0, zl_1, zl_2, zl_8, zl_20, zlt_l, zlt_r, j1, gd_t, gd_pos, lt_eq, Option.bind_some, true_and, and_true, not_true, not_false_iff, false_or, or_false, if_true, if_false, if_pos, if_neg, zcd]
            · by_cases h4 : ((8 : Nat) : Int) < a3.toInt
              · simp (disch := omega) only [f_X11_see, f_X11_see_32, kd_0, e1, tb_l, zl_0, zl_1, zl_2, zl_8, zl_20, zlt_l, zlt_r, j1, gd_t, gd_pos, lt_eq, Option.bind_some, true_and, and_true, not_true, not_false_iff, false_or, or_false, if_true, if_false, if_pos, if_neg, zcd]
              · have h5 : ns = 8 := by omega
                simp (disch := omega) only [f_X11_see, f_X11_see_32, kd_0, r0_5 hR, kd_43, e1, tb_l, c61, zl_0, zl_1, zl_2, zl_8, zl_20, zlt_l, zlt_r, nI_toInt, nI_eq, j1, gd_t, gd_pos, lt_eq, Option.bind_some, true_and, and_true, not_true, not_false_iff, false_or, or_false, if_true, if_false, if_pos, if_neg, zcd]
      · by_cases h5 : ns = 8
        · simp (disch := omega) only [f_X12_see, kd_80, zl_0, zl_1, zl_2, zl_8, f2, y34, m1, nI_eq, up_s, up_n, gd_t, gd_pos, lt_eq, Option.bind_some, true_and, and_true, not_true, not_false_iff, false_or, or_false, if_true, if_false, if_pos, if_neg, zcd]
        · by_cases h3 : 0 ≤ a3.toInt ∧ a3.toInt ≤ 8
          · rw [if_pos h3] at f4
            rw [if_neg (by omega)] at f6
            simp (disch := omega) only [f_X12_see, kd_80, zl_0, zl_1, zl_2, zl_8, f2, f4, f6, y34, m1, nI_eq, up_s, up_n, gd_t, gd_pos, lt_eq, Option.bind_some, true_and, and_true, not_true, not_false_iff, false_or, or_false, if_true, if_false, if_pos, if_neg, zcd]
          · rw [if_neg h3] at f4
            simp (disch := omega) only [f_X12_see, kd_80, zl_0, zl_1, zl_2, zl_8, f2, f4, y34, m1, nI_eq, up_s, up_n, gd_t, gd_pos, lt_eq, Option.bind_some, true_and, and_true, not_true, not_false_iff, false_or, or_false, if_true, if_false, if_pos, if_neg, zcd]
  · have e1 := c_pupil_out (N := N) hR c2 h7 hx
    have e2 := m_isPupil (N := N) hR h7 d2 a1
    rw [if_neg (by omega)] at e2
    refine ⟨_, I, 0, zcd I 1, ?_, ?_, ag_n _ _ (zcd_3 I 1), zInv_q hR hO hC (zfr_refl _ _) (zcd_M hM 1) (zcd_lo I 1)⟩
    · simp (disch := omega) only [f_X11_see, kd_0, hR.2.2.1, q_k0 hR, q_r5 hR, q_t0 hR, e1, tb_r, tb_l, gd_t, gd_pos, lt_eq, Option.bind_some, true_and, and_true, not_true, not_false_iff, false_or, or_false, if_true, if_false, if_pos, if_neg, zcd]
    · simp (disch := omega) only [f_X12_see, kd_80, zl_0, zl_1, e2, m_fail, gd_t, gd_pos, lt_eq, Option.bind_some, true_and, and_true, not_true, not_false_iff, false_or, or_false, if_true, if_false, if_pos, if_neg, zcd, up_s, up_n, up_uu, nI_eq]
