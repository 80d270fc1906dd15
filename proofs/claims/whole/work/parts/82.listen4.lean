/-! ===== PURE PART: listen ===== -/
section ZY
variable {N : Nat} {R : Nat → Nat → Nat} {q : Nat} {S : zS} {nu : Nat} {pr : Nat → Nat} {T : zT} {na : Nat} {A : Nat → zT} {ns : Nat} {sn : Nat → Nat × Nat × Nat} {st : Nat → Int32} {nt : Nat} {tp : Nat → Nat} {fp : Int32} {im : Option zIm} {I J K : Nat → Nat → Int32}
/-- one fit's weeks: what skills would be -/
theorem m_l35 (hN : 5000 ≤ N) (hR : sR R q) (hO : zOk S nu pr T na A ns sn nt tp im) (hM : zMi S nu T na A ns sn st nt tp fp im J) (hr : zMRow nu T (J 103) 0) {tot i m v n : Nat} (ht : tot ≤ 140) (hi : i < tot) (h47 : J 80 47 = nI tot) (hm : m < 20 * nu) (h111 : J 111 i = nI (100 * (m / 20) + m % 20 + 1)) {s : Nat → Nat → Int32} (hV : zMV nu T.2.2 s) (hf : zfm zNl zNf J s) : ∃ s', f_X12_listen_35 N R (n + 1) 80 (nI v) (nI i) s = f_X12_listen_35 N R n 80 (nI v) (nI (i + 1)) s' ∧ zMV nu T.2.2 s' ∧ (∀ p, p < nu → s' 112 (7 * i + p) = nI (z_vl S T.2.2 m p)) ∧ (∀ x, x < 7 * i ∨ 7 * i + 7 ≤ x → s' 112 x = s 112 x) ∧ s' 80 31 = nI T.1 ∧ s' 80 32 = nI T.2.1 ∧ zfm zNl zNf J s' := by
  obtain ⟨hso, h7, ⟨hT1, hT2, hT3, hT4⟩, hAk, hNk, hTp, hIm⟩ := id hO
  have ho : ∀ p, p < nu → z_pok S (T.2.2 p) := fun p hp => (hT4 p hp).1
  have hp : m / 20 < nu := by omega
  have hj : m % 20 < 20 := by omega
  have o4 := (ho _ hp).2.2.2.2.1
  have g47 : s 80 47 = nI tot := by rw [hf.2 47 (by decide)]; exact h47
  have g111 : s 111 i = nI (100 * (m / 20) + m % 20 + 1) := by rw [hf.1 111 (by omega) (by decide)]; exact h111
  have g99 := (hV.2 _ hp).2.2.2.2.1
  have d1 : nI (100 * (m / 20) + m % 20 + 1) / nI 100 = nI (m / 20) := by
    rw [nI_div (by omega) (by omega), show (100 * (m / 20) + m % 20 + 1) / 100 = m / 20 by omega]
  have d2 : nI (100 * (m / 20) + m % 20 + 1) - nI (m / 20) * nI 100 - nI 1 = nI (m % 20) := by
    rw [pk_mul, pk_sub (by omega), pk_sub (by omega)]
    congr 1
    omega
  generalize hP : m / 20 = P at *
  generalize hW : m % 20 = W at *
  obtain ⟨X, hX⟩ : ∃ X, X = sm_up s 99 (sm_up (s 99) P (nI (T.2.2 P 4 ||| 2 ^ W))) := ⟨_, rfl⟩
  have hga : z_ga (T.2.2 P) (W + 1) = sm_up (T.2.2 P) 4 (T.2.2 P 4 ||| 2 ^ W) := by
    unfold z_ga
    rw [if_neg (by omega), Nat.add_sub_cancel]
  have xV : zMV nu (sm_up T.2.2 P (z_ga (T.2.2 P) (W + 1))) X := by
    rw [hX, hga]
    exact zMV_up99 hV
  have xf : zfm zNl zNf J X := by rw [hX]; exact zfm_up hf (by decide) (by omega) _
  have xo : ∀ p', p' < nu → z_pok S (sm_up T.2.2 P (z_ga (T.2.2 P) (W + 1)) p') := fun p' hp' => by
    by_cases e : p' = P
    · rw [e, up_s]
      exact z_ga_pok (ho P hp) (by omega)
    · rw [up_n _ _ e]
      exact ho p' hp'
  obtain ⟨Y, y1, y2, y3, y4⟩ := m_goOn (N := N) (m := 20) hN hR hso h7 (by omega) (zMS_fr hM.1 xf (by decide)) xV xo
  obtain ⟨Z, z1, z2, z3, z4⟩ := m_l81 (N := N) (I := Y) (i := i) (v := v) hN hR (by omega) (fun z0 z1 z2 J => f_X12_listen_35 N R n z0 z1 z2 J)
  have zf : zfm zNl zNf J Z := zfm_trans (zfm_trans xf (zfm_mono y4 (by decide) (by decide))) (zfm_mono z4 (by decide) (by decide))
  have mV := hM.2.1
  obtain ⟨L, l1, l2, l3, l4, l5⟩ := m_unpack (o := 0) (T := T) hN hR h7 (I := Z) (by rw [zf.1 84 (by omega) (by decide)]; exact mV.1) kd_103 (by omega) (by omega) (by omega) (by rw [zf.1 103 (by omega) (by decide)]; exact hr) (fun p hp => by rw [zf.1 88 (by omega) (by decide)]; exact (mV.2 p hp).2.2.2.2.2)
  have l112 : L 112 = Z 112 := l5.1 112 (by omega) (by simp)
  refine ⟨L, ?_, l2, fun p hp => ?_, fun x hx => ?_, l3, l4, zfm_trans zf (zfm_mono l5 (by decide) (by decide))⟩
  · have e1 : f_X12_listen_35 N R (n + 1) 80 (nI v) (nI i) s = f_X12_listen_81 N R (fun z0 z1 z2 J => f_X12_listen_35 N R n z0 z1 z2 J) N 80 (nI v) (nI i) (nI 0) Y := by
      simp (disch := omega) only [f_X12_listen_35, kd_80, r80_45 hR, kd_111, r80_29 hR, kd_99, g47, g111, g99, d1, d2, zb_shl, zb_or, ← hX, y1, zl_0, zl_1, zl_20, zl_100, nI_leI, nI_ltI, nI_clamp, gd_t, gd_pos, lt_eq, Option.bind_some, true_and, and_true, not_true, not_false_iff, false_or, or_false, if_true, if_false, if_pos, if_neg, zcd]
    refine e1.trans (z1.trans ?_)
    rw [l1, zl_1, nI_add]
    rfl
  · rw [l112, z2 p (by omega), (y2.2 p hp).1]
    unfold z_vl
    rw [hP, hW]
  · rw [l112, z3 x hx, y4.1 112 (by omega) (by simp), hX, up_n _ _ (by omega)]
theorem m_listen (hN : 5000 ≤ N) (hR : sR R q) (hO : zOk S nu pr T na A ns sn nt tp im) (hM : zMi S nu T na A ns sn st nt tp fp im (zcd I 0)) {v : Nat} (hv : v ≤ 1) {u : Nat → Nat} (hu : ∀ mi : Nat → Nat, (∀ i, i < zcn (z_fl (z_fit S ns sn T.2.2)) (20 * nu) → mi i < 20 * nu ∧ z_fl (z_fit S ns sn T.2.2) (mi i) = true ∧ zcn (z_fl (z_fit S ns sn T.2.2)) (mi i) = i) → ∀ p, p < nu → zcn (z_vb (fun i => z_vl S T.2.2 (mi i) p) (zcn (z_fl (z_fit S ns sn T.2.2)) (20 * nu))) 100 = u p) : ∃ J, f_X12_listen N R 80 (nI v) I = some ((if v = 0 then zn1 (z_ls u nu).1 else nI (z_ls u nu).2), J) ∧ zMi S nu T na A ns sn st nt tp fp im J ∧ J 80 3 = nI 0 ∧ ∀ k, k < 80 → J k = I k := by
  obtain ⟨hso, h7, ⟨hT1, hT2, hT3, hT4⟩, hAk, hNk, hTp, hIm⟩ := id hO
  have ho : ∀ p, p < nu → z_pok S (T.2.2 p) := fun p hp => (hT4 p hp).1
  obtain ⟨F, f1, f2⟩ := m_tellFits (N := N) hN hR hso hNk h7 hM.1 hM.2.1 ho hM.2.2.1 hM.2.2.2.1 hM.2.2.2.2.2.1
  have hMF := zTl_M hM f2
  obtain ⟨J, j1, j2, j3, j4⟩ := m_pack (o := 0) hN hR hMF.2.1 h7 hMF.2.2.1 hMF.2.2.2.1 kd_103 (by omega) (by omega) (by omega)
  have hMJ : zMi S nu T na A ns sn st nt tp fp im J := zMi_fr hMF j4 (fun x hx => by simp at hx; subst hx; simp [zMsc]) (fun x hx => by cases hx)
  obtain ⟨tot, htot⟩ : ∃ tot, tot = zcn (z_fl (z_fit S ns sn T.2.2)) (20 * nu) := ⟨_, rfl⟩
  have ht : tot ≤ 140 := by
    have := zcn_le (z_fl (z_fit S ns sn T.2.2)) (20 * nu)
    omega
  have h47 : J 80 47 = nI tot := by rw [j4.2 47 (by simp), htot]; exact f2.2.2.2.1
  have hl : ∀ i, i < 20 * nu → z_fl (z_fit S ns sn T.2.2) i = true → J 111 (zcn (z_fl (z_fit S ns sn T.2.2)) i) = nI (100 * (i / 20) + i % 20 + 1) := fun i h1 h2 => by rw [j4.1 111 (by omega) (by simp)]; exact f2.2.2.2.2.1 i h1 h2
  obtain ⟨mi, hmi⟩ : ∃ mi : Nat → Nat, ∀ i, i < tot → mi i < 20 * nu ∧ z_fl (z_fit S ns sn T.2.2) (mi i) = true ∧ zcn (z_fl (z_fit S ns sn T.2.2)) (mi i) = i := by
    have : ∀ i, ∃ m, i < tot → m < 20 * nu ∧ z_fl (z_fit S ns sn T.2.2) m = true ∧ zcn (z_fl (z_fit S ns sn T.2.2)) m = i := fun i => by
      by_cases h : i < tot
      · rw [htot] at h
        obtain ⟨m, h1⟩ := zcn_ex _ i h
        exact ⟨m, fun _ => h1⟩
      · exact ⟨0, fun h2 => absurd h2 h⟩
    exact ⟨fun i => (this i).choose, fun i => (this i).choose_spec⟩
  have L := zk_loop (fun n i s => f_X12_listen_35 N R n 80 (nI v) (nI i) s) (fun s => f_X12_listen_132 N R N 80 (nI v) (-1) (nI 0) (nI 0) s) (fun i s => zMV nu T.2.2 s ∧ (∀ k, k < i → ∀ p, p < nu → s 112 (7 * k + p) = nI (z_vl S T.2.2 (mi k) p)) ∧ s 80 31 = nI T.1 ∧ s 80 32 = nI T.2.1 ∧ zfm zNl zNf J s) tot
    (fun n s hs => by
      have g47 : s 80 47 = nI tot := by rw [hs.2.2.2.2.2 47 (by decide)]; exact h47
      simp (disch := omega) only [f_X12_listen_35, kd_80, g47, zl_0, nI_leI, gd_t, gd_pos, if_pos])
    (fun n i s hi hs => by
      obtain ⟨g1, g2, g3, g4, g5⟩ := hs
      obtain ⟨a1, a2, a3⟩ := hmi i hi
      have b1 := hl _ a1 a2
      rw [a3] at b1
      obtain ⟨s', e1, e2, e3, e4, e5, e6, e7⟩ := m_l35 (N := N) (v := v) (n := n) hN hR hO hMJ j2 ht hi h47 a1 b1 g1 g5
      refine ⟨s', e1, e2, fun k hk p hp => ?_, e5, e6, e7⟩
      by_cases e : k = i
      · rw [e]
        exact e3 p hp
      · rw [e4 _ (by omega)]
        exact g2 k (by omega) p hp) tot 0 J N (by omega) (by omega) ⟨hMJ.2.1, fun k h => absurd h (Nat.not_lt_zero k), hMJ.2.2.1, hMJ.2.2.2.1, zfm_refl _ _ _⟩
  obtain ⟨X, x1, x2, x3, x4, x5, x6⟩ := L
  have x47 : X 80 47 = nI tot := by rw [x6.2 47 (by decide)]; exact h47
  have xn := x2.1
  have hu2 := hu mi (by rw [← htot]; exact hmi)
  rw [← htot] at hu2
  have u100 : ∀ p, p < nu → u p ≤ 100 := fun p hp => by
    rw [← hu2 p hp]
    exact zcn_le _ 100
  have eu : ∀ p, p < nu → f_X12_unlike N R 80 (nI p) X = some (nI (u p), X) := fun p hp => by
    have := m_unlike (N := N) (I := X) (p := p) hN hR (by omega) ht x47 (w := fun i => z_vl S T.2.2 (mi i) p) (fun k hk => x3 k hk p hp) (fun k hk => by
      have hk1 := (hmi k hk).1
      have : z_pok S (sm_up T.2.2 (mi k / 20) (z_ga (T.2.2 (mi k / 20)) (mi k % 20 + 1)) p) := by
        by_cases e : p = mi k / 20
        · rw [e, up_s]
          exact z_ga_pok (ho _ (by omega)) (by omega)
        · rw [up_n _ _ e]
          exact ho p hp
      exact (z_pok_wks 20 _ this).1)
    rw [this, hu2 p hp]
  have L2 := zu_loop (fun n p (a : Int32 × Int32) => f_X12_listen_132 N R n 80 (nI v) a.1 a.2 (nI p) X) (fun p => (zn1 (z_ls u p).1, nI (z_ls u p).2)) ((if v = 0 then zn1 (z_ls u nu).1 else nI (z_ls u nu).2), X) nu
    (fun n => by
      by_cases hv0 : v = 0
      · rw [if_pos hv0, hv0]
        simp (disch := omega) only [f_X12_listen_132, kd_80, r80_4 hR, kd_84, xn, zl_0, zl_1, nI_leI, nI_ltI, nI_clamp, gd_t, gd_pos, lt_eq, Option.bind_some, true_and, and_true, not_true, not_false_iff, false_or, or_false, if_true, if_false, if_pos, if_neg, zcd]
      · rw [if_neg hv0]
        simp (disch := omega) only [f_X12_listen_132, kd_80, r80_4 hR, kd_84, xn, zl_0, zl_1, nI_leI, nI_ltI, nI_eq, nI_clamp, gd_t, gd_pos, lt_eq, Option.bind_some, true_and, and_true, not_true, not_false_iff, false_or, or_false, if_true, if_false, if_pos, if_neg, zcd])
    (fun n p hp => by
      have e := eu p hp
      have o1 := u100 p hp
      have o2 := z_ls_le (b := 100) p (fun p' hp' => u100 p' (by omega))
      by_cases hc : u p ≤ (z_ls u p).2
      · rw [z_ls_k hc]
        simp (disch := omega) only [f_X12_listen_132, kd_80, r80_4 hR, kd_84, xn, e, zl_0, zl_1, nI_leI, nI_ltI, nI_add, nI_clamp, gd_t, gd_pos, lt_eq, Option.bind_some, true_and, and_true, not_true, not_false_iff, false_or, or_false, if_true, if_false, if_pos, if_neg, zcd]
      · rw [z_ls_t hc]
        simp (disch := omega) only [f_X12_listen_132, kd_80, r80_4 hR, kd_84, xn, e, zl_0, zl_1, nI_leI, nI_ltI, nI_add, nI_clamp, zn1, gd_t, gd_pos, lt_eq, Option.bind_some, true_and, and_true, not_true, not_false_iff, false_or, or_false, if_true, if_false, if_pos, if_neg, zcd]) nu 0 N (by omega) (by omega)
  have fx : zfm zNl zNf J X := x6
  refine ⟨X, ?_, zMi_now hMJ x6 (by decide) (by decide) x2 x4 x5, ?_, fun k hk => ?_⟩
  · refine Eq.trans ?_ L2
    refine Eq.trans ?_ x1
    simp (disch := omega) only [f_X12_listen, kd_80, r80_37 hR, kd_103, f1, j1, zl_0, zl_1, nI_ltI, nI_leI, gd_t, gd_pos, lt_eq, Option.bind_some, if_neg, if_pos, zcd]
  · rw [x6.2 3 (by decide), j4.2 3 (by simp), f2.2.2.2.2.2.2 3 (by decide)]
    exact zcd_3 I 0
  · rw [zfm_lo x6 (by decide) k hk, zfm_lo j4 (by decide) k hk, zTl_lo f2.2.2.2.2.2 k hk]
    exact zcd_lo I 0 k hk
end ZY
theorem zo_listen_ok {N : Nat} (hN : 5000 ≤ N) : zo_listen N zInv := by
  intro I R a1 hI
  obtain ⟨q, S, nu, pr, T, na, A, ns, sn, st, nt, tp, fp, im, hR, hO, hC, hM⟩ := hI
  have hR : sR R q := hR
  have hC : zCi q S nu T na A ns sn st nt tp fp im I := hC
  have hM : zMi S nu T na A ns sn st nt tp fp im I := hM
  obtain ⟨hso, h7, ⟨hT1, hT2, hT3, hT4⟩, hAk, hNk, hTp, hIm⟩ := id hO
  have h6 := hso.1
  have hpo : ∀ p, p < nu → z_pok S (T.2.2 p) := fun p hp => (hT4 p hp).1
  have haw : ∀ p, p < nu → T.2.2 p 4 < 2 ^ 30 := fun p hp => (hpo p hp).2.2.2.2.1
  obtain ⟨c1, c2, c3, c4, c5, c6, c7, c8, c9, c10⟩ := id hC
  have cS1 := c1.1
  have cV1 := c2.1
  have hq := hR.q
  have ht := q_t hR
  have hM0 := zcd_M hM 0
  obtain ⟨d1, d2, d3, d4, d5, d6, d7, d8, d9, d10⟩ := id hM0
  rcases zrg a1 0 1 with ⟨v, -, hv, rfl⟩ | hx
  · have hq9 := sR_q hR
    have e3 := c_what_in (N := N) (R := R) (I := I) (m := 1) (by omega) hv
    obtain ⟨X, x1, x2, x3, x4, x5⟩ := c_look (N := N) hN hR hso c1 c2 c6 hNk h7 hpo
    have hX := zLk_s x5
    obtain ⟨u, hu⟩ : ∃ u : Nat → Nat, ∀ p, u p = zcn (z_mb (z_fit S ns sn T.2.2 p) (z_sk S (T.2.2 p)) (z_b0 (z_fit S ns sn T.2.2) S T.2.2 nu p) 20) 100 := ⟨_, fun _ => rfl⟩
    have u100 : ∀ p, u p ≤ 100 := fun p => by
      rw [hu]
      exact zcn_le _ 100
    have fS := zLk_S hR c1 x5
    have fV := zLk_V hR x5 h7 c2
    have L := zm_loop (fun n p (a : (Int32 × Int32) × (Nat → Nat → Int32)) => f_X11_listen_27 N R n 0 (nI v) a.1.1 a.1.2 (nI p) a.2) (fun p s => s.1 = (zn1 (z_ls u p).1, nI (z_ls u p).2) ∧ zfr (zLm q) X s.2) (fun y => y.1 = .inl (if v = 0 then zn1 (z_ls u nu).1 else nI (z_ls u nu).2) ∧ zfr (zLm q) X y.2) nu
      (fun n s hs => by
        obtain ⟨⟨a, b⟩, s⟩ := s
        obtain ⟨h1, h2⟩ := hs
        cases h1
        have h2 : zfr (zLm q) X s := h2
        have g := (zLm_V hR h2 h7 fV).1
        refine ⟨(.inl (if v = 0 then zn1 (z_ls u nu).1 else nI (z_ls u nu).2), s), ?_, rfl, h2⟩
        by_cases hv0 : v = 0
        · rw [if_pos hv0, hv0]
          simp (disch := omega) only [f_X11_listen_27, kd_0, hR.2.2.1, q_k0 hR, q_r5 hR, q_t0 hR, g, zl_0, nI_leI, gd_t, gd_pos, lt_eq, Option.bind_some, true_and, and_true, not_true, not_false_iff, false_or, or_false, if_true, if_false, if_pos, if_neg, zcd]
        · rw [if_neg hv0]
          simp (disch := omega) only [f_X11_listen_27, kd_0, hR.2.2.1, q_k0 hR, q_r5 hR, q_t0 hR, g, zl_0, nI_leI, nI_eq, gd_t, gd_pos, lt_eq, Option.bind_some, true_and, and_true, not_true, not_false_iff, false_or, or_false, if_true, if_false, if_pos, if_neg, zcd])
      (fun n p s hp hs => by
        obtain ⟨⟨a, b⟩, s⟩ := s
        obtain ⟨h1, h2⟩ := hs
        cases h1
        have h2 : zfr (zLm q) X s := h2
        have g := (zLm_V hR h2 h7 fV).1
        obtain ⟨K, k1, k2⟩ := c_unlike (N := N) (I := s) (f := z_fit S ns sn T.2.2) hN hR hso h7 (zLm_S hR fS h2) (zLm_V hR h2 h7 fV) hpo (by rw [h2 69 (by unfold zLm; simp; omega)]; exact x2) (fun p hp => by rw [h2 70 (by unfold zLm; simp; omega)]; exact x4 p hp) hp
        rw [← hu] at k1
        have o1 := u100 p
        have o2 := z_ls_le (b := 100) p (fun p' _ => u100 p')
        refine ⟨((zn1 (z_ls u (p + 1)).1, nI (z_ls u (p + 1)).2), K), ?_, rfl, zfr_trans h2 k2⟩
        by_cases hc : u p ≤ (z_ls u p).2
        · rw [z_ls_k hc]
          simp (disch := omega) only [f_X11_listen_27, kd_0, kd_69, r0_12 hR, hR.2.2.1, q_k0 hR, q_r5 hR, q_t0 hR, g, k1, zl_0, zl_1, nI_leI, nI_add, gd_t, gd_pos, lt_eq, Option.bind_some, true_and, and_true, not_true, not_false_iff, false_or, or_false, if_true, if_false, if_pos, if_neg, zcd]
        · rw [z_ls_t hc]
          simp (disch := omega) only [f_X11_listen_27, kd_0, kd_69, r0_12 hR, hR.2.2.1, q_k0 hR, q_r5 hR, q_t0 hR, g, k1, zl_0, zl_1, nI_leI, nI_add, zn1, gd_t, gd_pos, lt_eq, Option.bind_some, true_and, and_true, not_true, not_false_iff, false_or, or_false, if_true, if_false, if_pos, if_neg, zcd]) nu 0 ((-1, nI 0), X) N (by omega) (by omega) ⟨rfl, zfr_refl _ _⟩
    obtain ⟨⟨r, J⟩, l1, l2, l3⟩ := L
    have l2 : r = _ := l2
    subst l2
    have hJ : zfr (zScr q) I J := zfr_trans hX (zfr_mono l3 (fun x hx => by
      unfold zLm at hx
      unfold zScr
      simp only [List.mem_cons, List.not_mem_nil, or_false] at hx ⊢
      omega))
    have hMJ := zMq hR hM hJ
    obtain ⟨K, k1, k2, k3, k4⟩ := m_listen (N := N) hN hR hO hMJ hv (u := u) (fun mi hmi p hp => by
      rw [hu]
      exact (z_unlike_eq (z_fit S ns sn T.2.2) S T.2.2 hp hmi).symm)
    refine ⟨_, J, _, K, Eq.trans ?_ l1, k1, ag_ok _ _ _ k3, zInv_q hR hO hC hJ k2 k4⟩
    simp (disch := omega) only [f_X11_listen, kd_0, kd_69, r0_12 hR, r0_5 hR, hR.2.2.1, e3, tb_l, x1, zl_0, zl_1, gd_t, gd_pos, lt_eq, Option.bind_some, true_and, and_true, not_true, not_false_iff, false_or, or_false, if_true, if_false, if_pos, if_neg, zcd]
  · have e3 := c_what_out (N := N) (R := R) (I := I) (m := 1) (by omega) hx
    refine ⟨_, I, 0, zcd I 1, ?_, ?_, ag_n _ _ (zcd_3 I 1), zInv_q hR hO hC (zfr_refl _ _) (zcd_M hM 1) (zcd_lo I 1)⟩
    · simp (disch := omega) only [f_X11_listen, kd_0, zl_1, e3, tb_r, gd_t, gd_pos, lt_eq, Option.bind_some, true_and, and_true, not_true, not_false_iff, false_or, or_false, if_true, if_false, if_pos, if_neg, zcd]
    · by_cases h0 : a1.toInt < ((0 : Nat) : Int)
      · simp (disch := omega) only [f_X12_listen, kd_80, zl_0, zl_1, zlt_l, m_fail, gd_t, gd_pos, lt_eq, Option.bind_some, true_and, and_true, not_true, not_false_iff, false_or, or_false, if_true, if_false, if_pos, if_neg, zcd, up_s, up_n, up_uu]
      · simp (disch := omega) only [f_X12_listen, kd_80, zl_0, zl_1, zlt_l, zle_l, m_fail, gd_t, gd_pos, lt_eq, Option.bind_some, true_and, and_true, not_true, not_false_iff, false_or, or_false, if_true, if_false, if_pos, if_neg, zcd, up_s, up_n, up_uu]
