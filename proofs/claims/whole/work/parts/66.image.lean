/-! ===== PURE PART: image, restore ===== -/
section ZM
variable {N : Nat} {R : Nat → Nat → Nat} {q : Nat} {nu na ns : Nat} {A : Nat → zT} {sn : Nat → Nat × Nat × Nat} {I J K : Nat → Nat → Int32}
/-- the model copies acts, what was seen, how much was refused -/
theorem m_cps (hN : 5000 ≤ N) {a b : Nat} {fl : Nat} (h7 : nu ≤ 7) {st : Nat → Int32} {d e : Nat} (hA : zMA nu na A fl b I) (hn8 : ns ≤ 8) (hs : ∀ i, i < ns → I d i = nI (sn i).1 ∧ I (d + 1) i = nI (sn i).2.1 ∧ I (d + 2) i = nI (sn i).2.2) (hst : ∀ j, j < 3 → I e j = st j) {a' d' e' : Nat}
    (k1 : sm_kd a' = (13, 1480)) (k2 : sm_kd b = (13, 1480)) (k3 : sm_kd d' = (13, 8)) (k4 : sm_kd (d' + 1) = (13, 8)) (k5 : sm_kd (d' + 2) = (13, 8)) (k6 : sm_kd d = (13, 8)) (k7 : sm_kd (d + 1) = (13, 8)) (k8 : sm_kd (d + 2) = (13, 8)) (k9 : sm_kd e' = (13, 3)) (k10 : sm_kd e = (13, 3))
    (g1 : 80 < a' ∧ 80 < d' ∧ 80 < e' ∧ 80 < b ∧ 80 < d ∧ 80 < e) (g2 : a' ≠ b) (g3 : d' + 2 < d ∨ d + 2 < d') (g4 : e' ≠ e) (g5 : e' < a' ∧ a' < d' ∨ a' < d' ∧ d' + 2 < e') (g6 : e < b ∧ b < d ∨ b < d ∧ d + 2 < e) :
    ∃ J1 J2 J3 J4 J, f_X12_copyTo N R a' b I = some ((), J1) ∧ f_X12_copyTo N R d' d J1 = some ((), J2) ∧ f_X12_copyTo N R (d' + 1) (d + 1) J2 = some ((), J3) ∧ f_X12_copyTo N R (d' + 2) (d + 2) J3 = some ((), J4) ∧ f_X12_copyTo N R e' e J4 = some ((), J) ∧ (∀ i, i < na → zMRow nu (A i) (J a') (37 * i)) ∧ (∀ i, i < ns → J d' i = nI (sn i).1 ∧ J (d' + 1) i = nI (sn i).2.1 ∧ J (d' + 2) i = nI (sn i).2.2) ∧ (∀ j, j < 3 → J e' j = st j) ∧ zfm [a', d', d' + 1, d' + 2, e'] [] I J := by
  have na0 : ∀ {x y n m : Nat}, sm_kd x = (13, n) → sm_kd y = (13, m) → n ≠ m → x ≠ y := fun h1 h2 hn he => by
    rw [he, h2] at h1
    exact hn (congrArg Prod.snd h1).symm
  have n1 : a' ≠ d := na0 k1 k6 (by omega)
  have n2 : a' ≠ d + 1 := na0 k1 k7 (by omega)
  have n3 : a' ≠ d + 2 := na0 k1 k8 (by omega)
  have n4 : a' ≠ e := na0 k1 k10 (by omega)
  have n5 : d' ≠ e := na0 k3 k10 (by omega)
  have n6 : d' + 1 ≠ e := na0 k4 k10 (by omega)
  have n7 : d' + 2 ≠ e := na0 k5 k10 (by omega)
  have n8 : a' ≠ d' := na0 k1 k3 (by omega)
  have n9 : a' ≠ d' + 1 := na0 k1 k4 (by omega)
  have n10 : a' ≠ d' + 2 := na0 k1 k5 (by omega)
  have n11 : a' ≠ e' := na0 k1 k9 (by omega)
  have n12 : d' ≠ e' := na0 k3 k9 (by omega)
  have n13 : d' + 1 ≠ e' := na0 k4 k9 (by omega)
  have n14 : d' + 2 ≠ e' := na0 k5 k9 (by omega)
  obtain ⟨J1, p1, q1, r1⟩ := m_copy (R := R) (I := I) hN k1 k2 g2 (by omega) (by omega)
  obtain ⟨J2, p2, q2, r2⟩ := m_copy (R := R) (I := J1) hN k3 k6 (by omega) (by omega) (by omega)
  obtain ⟨J3, p3, q3, r3⟩ := m_copy (R := R) (I := J2) hN k4 k7 (by omega) (by omega) (by omega)
  obtain ⟨J4, p4, q4, r4⟩ := m_copy (R := R) (I := J3) hN k5 k8 (by omega) (by omega) (by omega)
  obtain ⟨J, p5, q5, r5⟩ := m_copy (R := R) (I := J4) hN k9 k10 g4 (by omega) (by omega)
  have s1 : ∀ c, c ≠ 80 → c ≠ a' → J1 c = I c := fun c h1 h2 => r1.1 c h1 (by simpa using h2)
  have s2 : ∀ c, c ≠ 80 → c ≠ d' → J2 c = J1 c := fun c h1 h2 => r2.1 c h1 (by simpa using h2)
  have s3 : ∀ c, c ≠ 80 → c ≠ d' + 1 → J3 c = J2 c := fun c h1 h2 => r3.1 c h1 (by simpa using h2)
  have s4 : ∀ c, c ≠ 80 → c ≠ d' + 2 → J4 c = J3 c := fun c h1 h2 => r4.1 c h1 (by simpa using h2)
  have s5 : ∀ c, c ≠ 80 → c ≠ e' → J c = J4 c := fun c h1 h2 => r5.1 c h1 (by simpa using h2)
  refine ⟨J1, J2, J3, J4, J, p1, p2, p3, p4, p5, ?_, ?_, ?_, zfm_trans (zfm_trans (zfm_trans (zfm_trans (zfm_mono r1 (by simp) (by simp)) (zfm_mono r2 (by simp) (by simp))) (zfm_mono r3 (by simp) (by simp))) (zfm_mono r4 (by simp) (by simp))) (zfm_mono r5 (by simp) (by simp))⟩
  · intro i hi
    have hna := hA.1
    refine zMRow_eq h7 (hA.2.2 i hi) (fun x h1 h2 => ?_)
    rw [s5 a' (by omega) n11, s4 a' (by omega) n10, s3 a' (by omega) n9, s2 a' (by omega) n8]
    exact q1 x (by omega)
  · intro i hi
    obtain ⟨w1, w2, w3⟩ := hs i hi
    refine ⟨?_, ?_, ?_⟩
    · rw [s5 d' (by omega) n12, s4 d' (by omega) (by omega), s3 d' (by omega) (by omega), q2 i (by omega), s1 d (by omega) n1.symm]
      exact w1
    · rw [s5 (d' + 1) (by omega) n13, s4 (d' + 1) (by omega) (by omega), q3 i (by omega), s2 (d + 1) (by omega) (by omega), s1 (d + 1) (by omega) n2.symm]
      exact w2
    · rw [s5 (d' + 2) (by omega) n14, q4 i (by omega), s3 (d + 2) (by omega) (by omega), s2 (d + 2) (by omega) (by omega), s1 (d + 2) (by omega) n3.symm]
      exact w3
  · intro j hj
    rw [q5 j hj, s4 e (by omega) n7.symm, s3 e (by omega) n6.symm, s2 e (by omega) n5.symm, s1 e (by omega) n4.symm]
    exact hst j hj
end ZM
theorem zo_image_ok {N : Nat} (hN : 5000 ≤ N) : zo_image N zInv := by
  intro I R hI
  obtain ⟨q, S, nu, pr, T, na, A, ns, sn, st, nt, tp, fp, im, hR, hO, hC, hM⟩ := hI
  have hR : sR R q := hR
  have hC : zCi q S nu T na A ns sn st nt tp fp im I := hC
  have hM : zMi S nu T na A ns sn st nt tp fp im I := hM
  obtain ⟨hso, h7, ⟨hT1, hT2, hT3, hT4⟩, hAk, hNk, hTp, hIm⟩ := id hO
  have h6 := hso.1
  have hpo : ∀ p, p < nu → z_pok S (T.2.2 p) := fun p hp => (hT4 p hp).1
  have haw : ∀ p, p < nu → T.2.2 p 4 < 2 ^ 30 := fun p hp => (hpo p hp).2.2.2.2.1
  obtain ⟨c1, c2, c3, c4, c5, c6, c7, c8, c9, c10⟩ := id hC
  have cS1 := c1.1
  have cV1 := c2.1
  have hq := hR.q
  have ht := q_t hR
  have hM0 := zcd_M hM 0
  obtain ⟨d1, d2, d3, d4, d5, d6, d7, d8, d9, d10⟩ := id hM0
  have hq9 := sR_q hR
  obtain ⟨J1, p1, p2, p3, p4⟩ := c_twrite (row := 49) (o := 0) hN (q_t hR) c2 h7 c3 c4 kd_49 (by omega) (by omega)
  have p4 : ∀ c, c ≠ 49 → J1 c = I c := fun c hc => p4 c (by simpa using hc)
  obtain ⟨J2, r1, r2, r3⟩ := c_abecome (N := N) (R := R) (c := 50) (c' := 41) h7 (aR_50 hR.1) (aR_41 hR.1) (by omega) (zCA_fr c5 (p4 41 (by omega)) (p4 42 (by omega)))
  have r3 : ∀ c, c ≠ 50 → c ≠ 51 → J2 c = J1 c := fun c hc hd => r3 c (by simp; omega)
  have g2 : ∀ c, c < 49 ∨ 51 < c → J2 c = I c := fun c hc => (r3 c (by omega) (by omega)).trans (p4 c (by omega))
  obtain ⟨J3, s1, s2, s3⟩ := c_nbec (N := N) (R := R) (c := 52) (c' := 43) hN (nR_52 hR.1) (nR_43 hR.1) (by omega) hNk.1 (zCN_fr c6 (fun c h1 h2 => g2 c (by omega)))
  have s3 : ∀ c, c < 52 ∨ 55 < c → J3 c = J2 c := fun c hc => s3 c (by simp; omega)
  obtain ⟨J, hJ⟩ : ∃ J, J = sm_up (sm_up J3 56 (va_cpy (J3 47) (J3 56) 0 0 3)) 48 (sm_up (J3 48) 0 (nI 1)) := ⟨_, rfl⟩
  have g4 : ∀ c, c ≠ 48 → c ≠ 56 → J c = J3 c := fun c hc hd => by rw [hJ, up_n _ _ hc, up_n _ _ hd]
  have g : ∀ c, c < 48 ∨ 56 < c → J c = I c := fun c hc => (g4 c (by omega) (by omega)).trans ((s3 c (by omega)).trans (g2 c (by omega)))
  have i1 : J 48 0 = nI 1 := by rw [hJ, up_s, up_s]
  have i2 : zRow nu T (J 49) 0 := by
    rw [g4 49 (by omega) (by omega), s3 49 (by omega), r3 49 (by omega) (by omega)]
    exact p2
  have i3 : zCA nu na A 50 J := zCA_fr r2 ((g4 50 (by omega) (by omega)).trans (s3 50 (by omega))) ((g4 51 (by omega) (by omega)).trans (s3 51 (by omega)))
  have i4 : zCN ns sn 52 J := zCN_fr s2 (fun c h1 h2 => g4 c (by omega) (by omega))
  have i5 : ∀ j, j < 3 → J 56 j = st j := fun j hj => by
    rw [hJ, up_n _ _ (by omega), up_s]
    unfold va_cpy
    rw [if_pos (by omega), Nat.sub_zero, Nat.zero_add, s3 47 (by omega), g2 47 (by omega)]
    exact c7 j hj
  have hCJ : zCi q S nu T na A ns sn st nt tp fp (some (T, (na, A), (ns, sn), st)) J := ⟨zCS_fr c1 (fun c h1 h2 => g c (by omega)), zCV_fr c2 h7 (fun c hc => g c (by omega)), by rw [g _ (by omega)]; exact c3, by rw [g _ (by omega)]; exact c4, zCA_fr c5 (g 41 (by omega)) (g 42 (by omega)), zCN_fr c6 (fun c h1 h2 => g c (by omega)), fun j hj => by rw [g 47 (by omega)]; exact c7 j hj, ⟨by rw [g 0 (by omega)]; exact c8.1, fun i hi => by rw [g 2 (by omega)]; exact c8.2 i hi⟩, by rw [g 0 (by omega)]; exact c9, ⟨i1, i2, i3, i4, i5⟩⟩
  have hMJ := zcd_M (zMi_lo (J := J) hM (fun k hk => g k (by omega))) 0
  obtain ⟨w1, w2, w3, w4, w5, w6, w7, w8, w9, w10⟩ := id hMJ
  obtain ⟨Y, hY⟩ : ∃ Y, Y = zcd J 0 := ⟨_, rfl⟩
  have hYl : ∀ k, k < 80 → Y k = J k := fun k hk => by rw [hY]; exact zcd_lo J 0 k hk
  have hY2 : sm_up J 80 (sm_up (J 80) 3 (nI 0)) = Y := hY.symm
  rw [← hY] at hMJ w1 w2 w3 w4 w5 w6 w7 w8 w9 w10
  have y33 := w5.2.1
  have y34 := w6.1
  obtain ⟨Z, hZ⟩ : ∃ Z, Z = sm_up Y 80 (sm_up (sm_up (sm_up (Y 80) 50 (nI 1)) 51 (nI na)) 52 (nI ns)) := ⟨_, rfl⟩
  have hZf : zfm [] [50, 51, 52] Y Z := by
    have h1 := zfm_f (L := []) (F := [50, 51, 52]) (zfm_refl _ _ Y) (i := 50) (by simp) (nI 1)
    have h2 := zfm_f h1 (i := 51) (by simp) (nI na)
    have h3 := zfm_f h2 (i := 52) (by simp) (nI ns)
    simp (disch := omega) only [up_s, up_uu] at h3
    rw [hZ]
    exact h3
  have zc : ∀ c, c ≠ 80 → Z c = Y c := fun c hc => hZf.1 c hc (by simp)
  have zf : ∀ f, f < 50 ∨ 52 < f → Z 80 f = Y 80 f := fun f hf => hZf.2 f (by simp; omega)
  have z50 : Z 80 50 = nI 1 := by rw [hZ, up_s, up_n _ _ (by omega), up_n _ _ (by omega), up_s]
  have z51 : Z 80 51 = nI na := by rw [hZ, up_s, up_n _ _ (by omega), up_s]
  have z52 : Z 80 52 = nI ns := by rw [hZ, up_s, up_s]
  obtain ⟨X, x1, x2, x3, x4⟩ := m_pack (row := 114) (o := 0) hN hR (zMV_fr w2 hZf (by decide)) h7 (by rw [zf 31 (by omega)]; exact w3) (by rw [zf 32 (by omega)]; exact w4) kd_114 (by omega) (by omega) (by omega)
  have xc : ∀ c, c ≠ 80 → c ≠ 114 → X c = Y c := fun c hc hd => (x4.1 c hc (by simpa using hd)).trans (zc c hc)
  have xf : ∀ f, X 80 f = Z 80 f := fun f => x4.2 f (by simp)
  obtain ⟨K1, K2, K3, K4, K, q1, q2, q3, q4, q5, q6, q7, q8, q9⟩ := m_cps (R := R) (I := X) (a := 0) (fl := 33) (b := 100) (d := 107) (e := 93) (a' := 115) (d' := 116) (e' := 119) (nu := nu) (na := na) (ns := ns) (A := A) (sn := sn) (st := st) hN h7 (zMA_eq w5 ((xf 33).trans (zf 33 (by omega))) (xc 100 (by omega) (by omega))) hNk.1 (fun i hi => by rw [xc 107 (by omega) (by omega), xc (107 + 1) (by omega) (by omega), xc (107 + 2) (by omega) (by omega)]; exact w6.2 i hi) (fun j hj => by rw [xc 93 (by omega) (by omega)]; exact w7 j hj) kd_115 kd_100 kd_116 kd_117 kd_118 kd_107 kd_108 kd_109 kd_119 kd_93 (by omega) (by omega) (by omega) (by omega) (by omega) (by omega)
  have kc : ∀ c, c ≠ 80 → c < 114 ∨ 119 < c → K c = Y c := fun c hc hd => (q9.1 c hc (by simp; omega)).trans (xc c hc (by omega))
  have kf : ∀ f, K 80 f = Z 80 f := fun f => (q9.2 f (by simp)).trans (xf f)
  have kf2 : ∀ f, f < 50 ∨ 52 < f → K 80 f = Y 80 f := fun f hf => (kf f).trans (zf f hf)
  have hMK : zMi S nu T na A ns sn st nt tp fp (some (T, (na, A), (ns, sn), st)) K := by
    refine ⟨zMS_eq w1 (fun c h1 h2 => kc c (by omega) (by omega)), ?_, by rw [kf2 31 (by omega)]; exact w3, by rw [kf2 32 (by omega)]; exact w4, zMA_eq w5 (kf2 33 (by omega)) (kc 100 (by omega) (by omega)), zMN_eq w6 (kf2 34 (by omega)) (kc 107 (by omega) (by omega)) (kc 108 (by omega) (by omega)) (kc 109 (by omega) (by omega)), fun j hj => by rw [kc 93 (by omega) (by omega)]; exact w7 j hj, ⟨by rw [kf2 15 (by omega)]; exact w8.1, fun i hi => by rw [kc 94 (by omega) (by omega)]; exact w8.2 i hi⟩, by rw [kf2 24 (by omega)]; exact w9, (kf 50).trans z50, ?_, ⟨w5.1, (kf 51).trans z51, q6⟩, ⟨(kf 52).trans z52, q7⟩, q8⟩
    · unfold zMV at w2 ⊢
      rw [kc 84 (by omega) (by omega), kc 95 (by omega) (by omega), kc 96 (by omega) (by omega), kc 97 (by omega) (by omega), kc 98 (by omega) (by omega), kc 99 (by omega) (by omega), kc 88 (by omega) (by omega)]
      exact w2
    · rw [q9.1 114 (by omega) (by simp)]
      exact x2
  have hO2 : zOk S nu pr T na A ns sn nt tp (some (T, (na, A), (ns, sn), st)) := ⟨hso, h7, hO.2.2.1, hAk, hNk, hTp, fun x hx => by
    cases hx
    exact ⟨hO.2.2.1, hAk, hNk⟩⟩
  refine ⟨J, K, ?_, ?_, zInv_of hR hO2 hCJ hMK (fun j hj => (kc j (by omega) (by omega)).trans (hYl j hj))⟩
  · rw [hJ]
    simp (disch := omega) only [f_X11_image, kd_0, hR.2.2.1, q_k0 hR, q_r5 hR, q_t0 hR, r0_4 hR, r0_5 hR, r0_6 hR, r0_7 hR, kd_47, kd_48, kd_50, kd_52, kd_56, r48_1 hR, r48_2 hR, r48_3 hR, r48_4 hR, p1, r1, s1, zl_0, zl_1, zl_ofNat, nI_ltI, nI_clamp, Nat.zero_add, Nat.le_refl, gd_t, gd_pos, lt_eq, Option.bind_some, true_and, and_true, not_true, not_false_iff, false_or, or_false, if_true, if_false, if_pos, if_neg, zcd, up_s, up_n, up_uu]
  · simp (disch := omega) only [f_X12_image, kd_80, zl_0, zl_1, hY2, y33, y34, ← hZ, x1, q1, q2, q3, q4, q5, r80_53 hR, r80_54 hR, r80_55 hR, r80_56 hR, r80_57 hR, r80_58 hR, r80_30 hR, r80_41 hR, r80_42 hR, r80_43 hR, r80_13 hR, gd_t, gd_pos, lt_eq, Option.bind_some, up_s, up_n, up_uu]
