/-! ===== PURE PART: toGlove, rush ===== -/
section ZD
variable {N : Nat} {R : Nat → Nat → Nat} {q : Nat} {S : zS} {nu : Nat} {pr : Nat → Nat} {T : zT} {na : Nat} {A : Nat → zT} {ns : Nat} {sn : Nat → Nat × Nat × Nat} {st : Nat → Int32} {nt : Nat} {tp : Nat → Nat} {fp : Int32} {im : Option zIm} {I J K : Nat → Nat → Int32} {pl : zP}
theorem zDl (hg : zfm zLd zFd J K) : K 80 3 = J 80 3 ∧ ∀ k, k < 80 → K k = J k := ⟨hg.2 3 (by decide), zfm_lo hg (fun x hx => by
    unfold zLd at hx
    simp only [List.mem_cons, List.not_mem_nil, or_false] at hx
    omega)⟩
theorem m_back2 (hN : 5000 ≤ N) (hR : sR R q) (h7 : nu ≤ 7) (hM : zMi S nu T na A ns sn st nt tp fp im J) (hr : zMRow nu T (J 103) 0) (hf : zfm zLd zFd J K) : ∃ L, f_X12_unpack N R 80 103 (nI 0) K = some ((), L) ∧ zMi S nu T na A ns sn st nt tp fp im L ∧ zfm zLd zFd J L := by
  have hV := hM.2.1
  have e84 : K 84 = J 84 := hf.1 84 (by omega) (by decide)
  have e88 : K 88 = J 88 := hf.1 88 (by omega) (by decide)
  have e103 : K 103 = J 103 := hf.1 103 (by omega) (by decide)
  obtain ⟨L, l1, l2, l3, l4, l5⟩ := m_unpack (o := 0) (T := T) hN hR h7 (I := K) (by rw [e84]; exact hV.1) kd_103 (by omega) (by omega) (by omega) (by rw [e103]; exact hr) (fun p hp => by rw [e88]; exact (hV.2 p hp).2.2.2.2.2)
  have hg : zfm zLd zFd J L := zfm_trans hf (zfm_mono l5 (by unfold zLd; simp) (by unfold zFd; simp))
  exact ⟨L, l1, zMi_now hM hg (fun x hx => by
    unfold zLd at hx
    unfold zMsc
    simp only [List.mem_cons, List.not_mem_nil, or_false] at hx ⊢
    omega) (fun x hx => by
    unfold zFd at hx
    unfold zMsf
    simp only [List.mem_cons, List.not_mem_nil, or_false] at hx ⊢
    omega) l2 l3 l4, hg⟩
theorem zz_sub9 {a k : Nat} (ha : a ≤ 9) (hk : k ≤ 60) : sm_mx (nI 0) (nI a - nI k) = nI (a - k) := by
  by_cases h0 : k ≤ a
  · rw [pk_sub h0, mx_nI (by omega) (by omega), Nat.max_eq_right (by omega)]
  · have := pk_sub_toInt (a := a) (b := k) (by omega) (by omega)
    unfold sm_mx
    rw [if_neg (by rw [zlt_r (by omega), this]; omega), show a - k = 0 by omega]
end ZD
def z_gl (S : zS) (pl : zP) (g : Nat) : zP := z_wk S (sm_up pl 1 (pl 1 - g))
theorem zo_toGlove_ok {N : Nat} (hN : 5000 ≤ N) : zo_toGlove N zInv := by
  intro I R a1 hI
  obtain ⟨q, S, nu, pr, T, na, A, ns, sn, st, nt, tp, fp, im, hR, hO, hC, hM⟩ := hI
  have hR : sR R q := hR
  have hC : zCi q S nu T na A ns sn st nt tp fp im I := hC
  have hM : zMi S nu T na A ns sn st nt tp fp im I := hM
  obtain ⟨hso, h7, ⟨hT1, hT2, hT3, hT4⟩, hAk, hNk, hTp, hIm⟩ := id hO
  have h6 := hso.1
  have hpo : ∀ p, p < nu → z_pok S (T.2.2 p) := fun p hp => (hT4 p hp).1
  have haw : ∀ p, p < nu → T.2.2 p 4 < 2 ^ 30 := fun p hp => (hpo p hp).2.2.2.2.1
  obtain ⟨c1, c2, c3, c4, c5, c6, c7, c8, c9, c10⟩ := id hC
  have cS1 := c1.1
  have cV1 := c2.1
  have hq := hR.q
  have ht := q_t hR
  have hM0 := zcd_M hM 0
  obtain ⟨d1, d2, d3, d4, d5, d6, d7, d8, d9, d10⟩ := id hM0
  rcases zrx a1 nu with ⟨p, hp, rfl⟩ | hx
  · have hq9 := sR_q hR
    have e1 := c_pupil_in (N := N) hR c2 h7 hp
    have e2 := m_isPupil (N := N) hR h7 d2 (nI p)
    rw [nI_toInt (by omega), if_pos (by omega)] at e2
    have kp := q_t9 hR (show p < 7 by omega)
    have pl := c2.2 p hp
    rw [show q + 7 + 2 + p = q + 9 + p by omega] at pl
    have o1 := (hpo p hp).2.1
    have hpg : ∀ i, z_pok S (sm_up (T.2.2 p) 1 (T.2.2 p 1 - i)) := fun i => z_pok_sore (hpo p hp) (by omega)
    have h8 : ∀ i, z_gl S (T.2.2 p) i 3 ≤ 8 := fun i => by
      have := z_pok_wk (hpg i)
      have h1 := (hso.2.1 _ this.2.2.1).2.1
      have h2 := this.2.2.2.1
      unfold z_gl
      omega
    have h80 : T.2.2 p 3 ≤ 8 := by
      have := hpo p hp
      have h1 := (hso.2.1 _ this.2.2.1).2.1
      have h2 := this.2.2.2.1
      omega
    have cst : ∀ i s, i < 10 → zfr [57, q + 6, q + 16] I s → ∃ J1 J2 J3, f_X4_become N R 57 (q + 9 + p) s = some ((), J1) ∧ f_X4_addSore N R 57 (-nI i) J1 = some ((), J2) ∧ f_X7_passWeeks N R q 57 (nI 1) J2 = some ((), J3) ∧ J3 57 3 = nI (z_gl S (T.2.2 p) i 3) ∧ J3 (q + 9 + p) 3 = nI (T.2.2 p 3) ∧ zfr [57, q + 6, q + 16] I J3 := fun i s hi hs => by
      have spl : zPl (T.2.2 p) (s (q + 9 + p)) := by
        rw [hs (q + 9 + p) (by simp; omega)]
        exact pl
      obtain ⟨J1, b1, b2, b3⟩ := c_become (N := N) (R := R) kp kd_57 (by omega) spl
      have b3 : zfr [57, q + 6, q + 16] s J1 := zfr_mono b3 (by simp)
      have b4 := c_addSore (N := N) (R := R) (x := -nI i) kd_57 b2 (v := T.2.2 p 1 - i) (zz_cl_less o1 (by omega))
      have b5 : zPl (sm_up (T.2.2 p) 1 (T.2.2 p 1 - i)) (sm_up J1 57 (sm_up (J1 57) 1 (nI (T.2.2 p 1 - i))) 57) := by
        rw [up_s]
        exact zPl_up b2 1 _
      have b6 := zfr_trans hs (zfr_up b3 (k := 57) (by simp) (sm_up (J1 57) 1 (nI (T.2.2 p 1 - i))))
      obtain ⟨J3, k1, k2, k3⟩ := c_pass (m := 1) hN hR.q hso (zW_S hR b6 c1) kd_57 b5 (hpg i) (by omega)
      have k4 := zfr_trans b6 k3
      refine ⟨J1, _, J3, b1, b4, k1, k2 3 (by omega), ?_, k4⟩
      rw [k4 (q + 9 + p) (by simp; omega)]
      exact pl 3 (by omega)
    have L := zfs_loop (fun n i s => f_X11_toGlove_8 N R n 0 (q + 9 + p) (nI i) s) (fun i => decide (T.2.2 p 3 < z_gl S (T.2.2 p) i 3)) (fun i s => zfr [57, q + 6, q + 16] I s) (fun o y => y.1 = .inl (zn1 o) ∧ zfr [57, q + 6, q + 16] I y.2) 10
      (fun n s hs => ⟨(.inl (-1), s), by simp (disch := omega) only [f_X11_toGlove_8, zl_9, nI_ltI, gd_t, gd_pos, lt_eq, Option.bind_some, true_and, and_true, not_true, not_false_iff, false_or, or_false, if_true, if_false, if_pos, if_neg, zcd], rfl, hs⟩)
      (fun n i s hi hs hc => by
        obtain ⟨J1, J2, J3, b1, b2, k1, w3, l3, k4⟩ := cst i s hi hs
        have hc := of_decide_eq_true hc
        have g8 := h8 i
        exact ⟨(.inl (nI i), J3), by simp (disch := omega) only [f_X11_toGlove_8, kd_0, hR.2.2.1, q_k0 hR, r0_8 hR, kd_57, kp, b1, b2, k1, w3, l3, zl_0, zl_1, zl_9, nI_eq, nI_ltI, nI_leI, gd_t, gd_pos, lt_eq, Option.bind_some, true_and, and_true, not_true, not_false_iff, false_or, or_false, if_true, if_false, if_pos, if_neg, zcd], rfl, k4⟩)
      (fun n i s hi hs hc => by
        obtain ⟨J1, J2, J3, b1, b2, k1, w3, l3, k4⟩ := cst i s hi hs
        have hc : ¬ T.2.2 p 3 < z_gl S (T.2.2 p) i 3 := fun h => hc (decide_eq_true h)
        have g8 := h8 i
        exact ⟨J3, by simp (disch := omega) only [f_X11_toGlove_8, kd_0, hR.2.2.1, q_k0 hR, r0_8 hR, kd_57, kp, b1, b2, k1, w3, l3, zl_0, zl_1, zl_9, nI_eq, nI_ltI, nI_leI, nI_add, gd_t, gd_pos, lt_eq, Option.bind_some, true_and, and_true, not_true, not_false_iff, false_or, or_false, if_true, if_false, if_pos, if_neg, zcd], k4⟩) 10 0 I N (by omega) (by omega) (zfr_refl _ _)
    obtain ⟨⟨v, J⟩, j1, j2, j4⟩ := L
    have j2 : v = _ := j2
    subst j2
    have hJ := zW_s j4
    have hMJ := zMq hR hM hJ
    have f2 := m_isPupil (N := N) hR h7 hMJ.2.1 (nI p)
    rw [nI_toInt (by omega), if_pos (by omega)] at f2
    obtain ⟨X, x1, x2, x3, x4, x5⟩ := m_pk0 hN hR h7 hMJ
    have xb := (x2.2.1.2 p hp).2.2.2.1
    have mst : ∀ i s, i < 10 → zMV nu T.2.2 s → zfm zLd zFd X s → ∃ K1 K2, f_X12_aWeek N R 80 (sm_up s 96 (sm_up (s 96) p (nI (T.2.2 p 1 - i)))) = some ((), K1) ∧ K1 98 p = nI (z_gl S (T.2.2 p) i 3) ∧ f_X12_unpack N R 80 103 (nI 0) K1 = some ((), K2) ∧ zMi S nu T na A ns sn st nt tp fp im K2 ∧ zfm zLd zFd X K2 := fun i s hi hV hs => by
      have s2 := zMV_up96 (p := p) (v := T.2.2 p 1 - i) hV
      have s3 : zfm zLd zFd X (sm_up s 96 (sm_up (s 96) p (nI (T.2.2 p 1 - i)))) := zfm_up hs (by decide) (by omega) _
      obtain ⟨K1, k1, k2, k3, k4⟩ := m_week hN hR hso h7 (zMS_fr x2.1 s3 (by decide)) s2 (fun a ha => by
        by_cases hap : a = p
        · rw [hap, up_s]
          exact hpg i
        · rw [up_n _ _ hap]
          exact hpo a ha)
      have v3 : K1 98 p = nI (z_gl S (T.2.2 p) i 3) := by
        have v3 := (k2.2 p hp).2.2.2.1
        dsimp only at v3
        rw [up_s] at v3
        exact v3
      obtain ⟨K2, l1, l2, l3⟩ := m_back2 hN hR h7 x2 x3 (zfm_trans s3 (zfm_d k4 (by decide) (by decide)))
      exact ⟨K1, K2, k1, v3, l1, l2, l3⟩
    have L := zfs_loop (fun n i s => f_X12_toGlove_40 N R n 80 (nI p) (nI (T.2.2 p 3)) (-nI 1) (nI i) s) (fun i => decide (T.2.2 p 3 < z_gl S (T.2.2 p) i 3)) (fun i s => zMi S nu T na A ns sn st nt tp fp im s ∧ zfm zLd zFd X s) (fun o y => y.1 = zn1 o ∧ zMi S nu T na A ns sn st nt tp fp im y.2 ∧ zfm zLd zFd X y.2) 10
      (fun n s hs => ⟨(-nI 1, s), by simp (disch := omega) only [f_X12_toGlove_40, zl_9, nI_ltI, gd_t, gd_pos, lt_eq, Option.bind_some, true_and, and_true, not_true, not_false_iff, false_or, or_false, if_true, if_false, if_pos, if_neg, zcd], rfl, hs⟩)
      (fun n i s hi hs hc => by
        have v1 := (hs.1.2.1.2 p hp).2.1
        obtain ⟨K1, K2, k1, v3, l1, l2, l3⟩ := mst i s hi hs.1.2.1 hs.2
        have hc := of_decide_eq_true hc
        have g8 := h8 i
        have e9 := zz_sub9 o1 (show i ≤ 60 by omega)
        refine ⟨(nI i, K2), ?_, rfl, l2, l3⟩
        by_cases h60 : 9 < i + 1
        · simp (disch := omega) only [f_X12_toGlove_40, kd_80, r80_37 hR, kd_103, r80_28 hR, kd_98, r80_26 hR, kd_96, v1, e9, k1, v3, l1, zl_0, zl_1, zl_9, nI_ltI, nI_leI, nI_clamp, nI_eq, nI_add, gd_t, gd_pos, lt_eq, Option.bind_some, true_and, and_true, not_true, not_false_iff, false_or, or_false, if_true, if_false, if_pos, if_neg, zcd]
        · simp (disch := omega) only [f_X12_toGlove_40, kd_80, r80_37 hR, kd_103, r80_28 hR, kd_98, r80_26 hR, kd_96, v1, e9, k1, v3, l1, zl_0, zl_1, zl_9, nI_ltI, nI_leI, nI_clamp, nI_eq, nI_add, nn_m1, if_false, gd_t, gd_pos, lt_eq, Option.bind_some, true_and, and_true, not_true, not_false_iff, false_or, or_false, if_true, if_false, if_pos, if_neg, zcd])
      (fun n i s hi hs hc => by
        have v1 := (hs.1.2.1.2 p hp).2.1
        obtain ⟨K1, K2, k1, v3, l1, l2, l3⟩ := mst i s hi hs.1.2.1 hs.2
        have hc : ¬ T.2.2 p 3 < z_gl S (T.2.2 p) i 3 := fun h => hc (decide_eq_true h)
        have g8 := h8 i
        have e9 := zz_sub9 o1 (show i ≤ 60 by omega)
        refine ⟨K2, ?_, l2, l3⟩
        simp (disch := omega) only [f_X12_toGlove_40, kd_80, r80_37 hR, kd_103, r80_28 hR, kd_98, r80_26 hR, kd_96, v1, e9, k1, v3, l1, zl_0, zl_1, zl_9, nI_ltI, nI_leI, nI_clamp, nI_eq, nI_add, gd_t, gd_pos, lt_eq, Option.bind_some, true_and, and_true, not_true, not_false_iff, false_or, or_false, if_true, if_false, if_pos, if_neg, zcd]) 10 0 X N (by omega) (by omega) ⟨x2, zfm_refl _ _ _⟩
    obtain ⟨⟨v, L1⟩, l1, l2, l3, l4⟩ := L
    have l2 : v = _ := l2
    subst l2
    obtain ⟨l5, l6⟩ := zDl l4
    have l5 : L1 80 3 = nI 0 := (l5.trans x4).trans (zcd_3 J 0)
    refine ⟨_, J, _, L1, Eq.trans ?_ j1, Eq.trans ?_ l1, ag_ok _ _ _ l5, zInv_q hR hO hC hJ l3 (fun k hk => ((l6 k hk).trans (x5 k hk)).trans (zcd_lo J 0 k hk))⟩
    · simp (disch := omega) only [f_X11_toGlove, kd_0, e1, tb_l, zl_0, gd_t, gd_pos, lt_eq, Option.bind_some, true_and, and_true, not_true, not_false_iff, false_or, or_false, if_true, if_false, if_pos, if_neg, zcd]
    · simp (disch := omega) only [f_X12_toGlove, kd_80, zl_0, zl_1, f2, r80_37 hR, kd_103, r80_28 hR, kd_98, xb, x1, nI_eq, nI_ltI, nI_leI, nI_clamp, gd_t, gd_pos, lt_eq, Option.bind_some, true_and, and_true, not_true, not_false_iff, false_or, or_false, if_true, if_false, if_pos, if_neg, zcd]
  · have e1 := c_pupil_out (N := N) hR c2 h7 hx
    have e2 := m_isPupil (N := N) hR h7 d2 a1
    rw [if_neg (by omega)] at e2
    refine ⟨_, I, 0, zcd I 1, ?_, ?_, ag_n _ _ (zcd_3 I 1), zInv_q hR hO hC (zfr_refl _ _) (zcd_M hM 1) (zcd_lo I 1)⟩
    · simp (disch := omega) only [f_X11_toGlove, kd_0, hR.2.2.1, q_k0 hR, q_r5 hR, q_t0 hR, e1, tb_r, tb_l, gd_t, gd_pos, lt_eq, Option.bind_some, true_and, and_true, not_true, not_false_iff, false_or, or_false, if_true, if_false, if_pos, if_neg, zcd]
    · simp (disch := omega) only [f_X12_toGlove, kd_80, zl_0, zl_1, e2, m_fail, gd_t, gd_pos, lt_eq, Option.bind_some, true_and, and_true, not_true, not_false_iff, false_or, or_false, if_true, if_false, if_pos, if_neg, zcd, up_s, up_n, up_uu, nI_eq]
