/-! ===== PURE PART: been ===== -/
section ZB
variable {N : Nat} {R : Nat → Nat → Nat} {q : Nat} {S : zS} {nu : Nat} {pr : Nat → Nat} {T : zT} {na : Nat} {A : Nat → zT} {ns : Nat} {sn : Nat → Nat × Nat × Nat} {st : Nat → Int32} {nt : Nat} {tp : Nat → Nat} {fp : Int32} {im : Option zIm} {I J K : Nat → Nat → Int32}
theorem zLk_s (h : zfr (zLk q) I J) : zfr (zScr q) I J := zfr_mono h (fun x hx => by
  unfold zLk at hx
  unfold zScr
  simp only [List.mem_cons, List.not_mem_nil, or_false] at hx ⊢
  omega)
theorem zTl_M (hM : zMi S nu T na A ns sn st nt tp fp im I) (h : zFs S nu ns sn T.2.2 T.1 T.2.1 (20 * nu) I K) : zMi S nu T na A ns sn st nt tp fp im K := zMi_now hM h.2.2.2.2.2 (by decide) (by decide) h.1 h.2.1 h.2.2.1
theorem zTl_lo (h : zfm zTl zTf I K) : ∀ k, k < 80 → K k = I k := zfm_lo h (by decide)
end ZB
theorem z_first_bits (c : Nat → Bool) {t : Nat} (h : zfs c 20 0 = some t) : t < 20 ∧ zbt c 20 % 2 ^ t = 0 ∧ zbt c 20 / 2 ^ t % 2 = 1 := by
  obtain ⟨h1, h2, h3⟩ := zfs_some 20 0 t h
  have h4 := zfs_first 20 0 t h
  refine ⟨by omega, ?_, ?_⟩
  · apply Nat.eq_of_testBit_eq
    intro i
    rw [Nat.testBit_mod_two_pow, zbt_bit, Nat.zero_testBit]
    by_cases hi : i < t
    · rw [Bool.eq_false_iff.mpr (h4 i (by omega) hi), Bool.and_false, Bool.and_false]
    · rw [decide_eq_false hi, Bool.false_and]
  · have := zbt_bit c 20 t
    rw [decide_eq_true (by omega), h3, Nat.testBit_eq_decide_div_mod_eq] at this
    exact of_decide_eq_true this
theorem z_bz (c : Nat → Bool) : zbt c 20 = 0 ↔ zfs c 20 0 = none := by
  rw [zbt_0]
  exact ⟨fun h => zfs_nil 20 0 (fun j _ hj => h j (by omega)), fun h j hj => zfs_none 20 0 h j (by omega) (by omega)⟩
/-- the first of all: by rows, and by the list -/
theorem z_first_l (f : Nat → Nat → Bool) {nu p t : Nat} (h1 : zfs (fun p => decide (¬ zbt (f p) 20 = 0)) nu 0 = some p) (h2 : zfs (f p) 20 0 = some t) : p < nu ∧ t < 20 ∧ z_fl f (20 * p + t) = true ∧ zcn (z_fl f) (20 * p + t) = 0 := by
  obtain ⟨a1, a2, a3⟩ := zfs_some nu 0 p h1
  have a4 := zfs_first nu 0 p h1
  obtain ⟨b1, b2, b3⟩ := zfs_some 20 0 t h2
  have b4 := zfs_first 20 0 t h2
  refine ⟨by omega, by omega, by rw [z_fl_at f (by omega)]; exact b3, zcn_0 _ (fun j hj hc => ?_)⟩
  have e : j = 20 * (j / 20) + j % 20 := by omega
  rw [e, z_fl_at f (by omega)] at hc
  by_cases e2 : j / 20 = p
  · rw [e2] at hc
    exact b4 (j % 20) (by omega) (by omega) hc
  · have h5 := a4 (j / 20) (by omega) (by omega)
    have h6 : zbt (f (j / 20)) 20 = 0 := Decidable.of_not_not (fun h => h5 (decide_eq_true h))
    exact zbt_0.mp h6 (j % 20) (by omega) hc
theorem z_first_n (f : Nat → Nat → Bool) {nu : Nat} (h1 : zfs (fun p => decide (¬ zbt (f p) 20 = 0)) nu 0 = none) : zcn (z_fl f) (20 * nu) = 0 := zcn_0 _ (fun j hj hc => by
  have e : j = 20 * (j / 20) + j % 20 := by omega
  rw [e, z_fl_at f (by omega)] at hc
  have h5 := zfs_none nu 0 h1 (j / 20) (by omega) (by omega)
  have h6 : zbt (f (j / 20)) 20 = 0 := Decidable.of_not_not (fun h => h5 (decide_eq_true h))
  exact zbt_0.mp h6 (j % 20) (by omega) hc)
theorem zo_been_ok {N : Nat} (hN : 5000 ≤ N) : zo_been N zInv := by
  intro I R a1 hI
  obtain ⟨q, S, nu, pr, T, na, A, ns, sn, st, nt, tp, fp, im, hR, hO, hC, hM⟩ := hI
  have hR : sR R q := hR
  have hC : zCi q S nu T na A ns sn st nt tp fp im I := hC
  have hM : zMi S nu T na A ns sn st nt tp fp im I := hM
  obtain ⟨hso, h7, ⟨hT1, hT2, hT3, hT4⟩, hAk, hNk, hTp, hIm⟩ := id hO
  have h6 := hso.1
  have hpo : ∀ p, p < nu → z_pok S (T.2.2 p) := fun p hp => (hT4 p hp).1
  have haw : ∀ p, p < nu → T.2.2 p 4 < 2 ^ 30 := fun p hp => (hpo p hp).2.2.2.2.1
  obtain ⟨c1, c2, c3, c4, c5, c6, c7, c8, c9, c10⟩ := id hC
  have cS1 := c1.1
  have cV1 := c2.1
  have hq := hR.q
  have ht := q_t hR
  have hM0 := zcd_M hM 0
  obtain ⟨d1, d2, d3, d4, d5, d6, d7, d8, d9, d10⟩ := id hM0
  rcases zrg a1 0 2 with ⟨v, -, hv, rfl⟩ | hx
  · have e3 := c_what_in (N := N) (R := R) (I := I) (m := 2) (by omega) hv
    obtain ⟨J, j1, j2, j3, j4, j5⟩ := c_look (N := N) hN hR hso c1 c2 c6 hNk h7 hpo
    have hJ := zLk_s j5
    have hMJ := zMq hR hM hJ
    have f4 := m_isIn (N := N) (R := R) (I := zcd J 0) (nI v).toInt64 0 2
    rw [z64, zq_0, zq_2, nI_toInt (by omega), if_pos (by omega)] at f4
    have hB : ∀ p, p < nu → zbt (z_fit S ns sn T.2.2 p) 20 < 2 ^ 20 := fun p _ => zbt_lt _ 20
    have hv3 : v = 0 ∨ v = 1 ∨ v = 2 := by omega
    have e9 : f_X11_been N R 0 (nI v) I = (if nI v = 0 then (f_X8_howMany N R 69 J).bind fun p8 => some (.inl p8.1, p8.2) else if nI v = 1 then (f_X8_first N R 69 J).bind fun p8 => some (.inl p8.1, p8.2) else if J 69 2 = 0 then some (.inl 1, J) else some (.inl 0, J)) := by
      simp (disch := omega) only [f_X11_been, kd_0, kd_69, r0_12 hR, r0_5 hR, hR.2.2.1, e3, tb_l, j1, zl_2, gd_t, gd_pos, lt_eq, Option.bind_some, true_and, and_true, not_true, not_false_iff, false_or, or_false, if_true, if_false, if_pos, if_neg, zcd]
    rcases hv3 with rfl | rfl | rfl
    · have e5 := c_howMany (N := N) hN hR h7 hB j2 j4
      obtain ⟨K, k1, k2⟩ := m_tellFits (N := N) hN hR hso hNk h7 hMJ.1 hMJ.2.1 hpo hMJ.2.2.1 hMJ.2.2.2.1 hMJ.2.2.2.2.2.1
      have k47 := k2.2.2.2.1
      have e6 : zsm (fun p => z_pc 32 (zbt (z_fit S ns sn T.2.2 p) 20)) nu = zcn (z_fl (z_fit S ns sn T.2.2)) (20 * nu) := by
        rw [zcn_lin]
        exact zsm_cong nu (fun p _ => z_pc_zbt _ 20 (by omega))
      rw [e6] at e5
      refine ⟨.inl (nI (zcn (z_fl (z_fit S ns sn T.2.2)) (20 * nu))), J, nI (zcn (z_fl (z_fit S ns sn T.2.2)) (20 * nu)), K, ?_, ?_, ag_ok _ _ _ (by rw [k2.2.2.2.2.2.2 3 (by decide)]; exact zcd_3 J 0), zInv_q hR hO hC hJ (zTl_M hMJ k2) (fun k hk => (zTl_lo k2.2.2.2.2.2 k hk).trans (zcd_lo J 0 k hk))⟩
      · rw [e9, e5]
        simp (disch := omega) only [zl_0, if_true, Option.bind_some]
      · simp (disch := omega) only [f_X12_been, kd_80, zl_0, zl_1, zl_2, f4, k1, k47, nI_eq, gd_t, gd_pos, lt_eq, Option.bind_some, true_and, and_true, not_true, not_false_iff, false_or, or_false, if_true, if_false, if_pos, if_neg, zcd]
    · obtain ⟨K, k1, k2⟩ := m_tellFits (N := N) hN hR hso hNk h7 hMJ.1 hMJ.2.1 hpo hMJ.2.2.1 hMJ.2.2.2.1 hMJ.2.2.2.2.2.1
      have k47 := k2.2.2.2.1
      have kl := k2.2.2.2.2.1
      have hcm := zcn_le (z_fl (z_fit S ns sn T.2.2)) (20 * nu)
      have e5 := c_first (N := N) (t := fun p => (zfs (z_fit S ns sn T.2.2 p) 20 0).getD 0) hN hR h7 hB (fun p _ hb => by
        rcases hz : zfs (z_fit S ns sn T.2.2 p) 20 0 with _ | t
        · exact absurd ((z_bz _).mpr hz) hb
        · have := z_first_bits _ hz
          exact ⟨by show t < 30; omega, this.2.1, this.2.2⟩) j2 j4
      refine ⟨.inl (zn1 ((zfs (fun p => decide (¬ zbt (z_fit S ns sn T.2.2 p) 20 = 0)) nu 0).map (fun p => 100 * p + (zfs (z_fit S ns sn T.2.2 p) 20 0).getD 0 + 1))), J, zn1 ((zfs (fun p => decide (¬ zbt (z_fit S ns sn T.2.2 p) 20 = 0)) nu 0).map (fun p => 100 * p + (zfs (z_fit S ns sn T.2.2 p) 20 0).getD 0 + 1)), K, ?_, ?_, ag_ok _ _ _ (by rw [k2.2.2.2.2.2.2 3 (by decide)]; exact zcd_3 J 0), zInv_q hR hO hC hJ (zTl_M hMJ k2) (fun k hk => (zTl_lo k2.2.2.2.2.2 k hk).trans (zcd_lo J 0 k hk))⟩
      · rw [e9, e5]
        simp (disch := omega) only [zl_0, zl_1, nI_eq, if_true, if_neg, Option.bind_some]
      · rcases hz : zfs (fun p => decide (¬ zbt (z_fit S ns sn T.2.2 p) 20 = 0)) nu 0 with _ | p
        · have e7 := z_first_n (z_fit S ns sn T.2.2) hz
          rw [e7] at k47
          have e8 : (-1 : Int32) = zn1 (none.map (fun p => 100 * p + (zfs (z_fit S ns sn T.2.2 p) 20 0).getD 0 + 1)) := rfl
          rw [← e8]
          simp (disch := omega) only [f_X12_been, kd_80, zl_0, zl_1, zl_2, f4, k1, k47, nI_eq, gd_t, gd_pos, lt_eq, Option.bind_some, true_and, and_true, not_true, not_false_iff, false_or, or_false, if_true, if_false, if_pos, if_neg, zcd]
        · rcases hy : zfs (z_fit S ns sn T.2.2 p) 20 0 with _ | t
          · have := (zfs_some nu 0 p hz).2.2
            exact absurd ((z_bz _).mpr hy) (of_decide_eq_true this)
          · obtain ⟨g1, g2, g3, g4⟩ := z_first_l (z_fit S ns sn T.2.2) hz hy
            have g5 := kl (20 * p + t) (by omega) g3
            have g6 := zcn_lt (m := 20 * nu) g3 (by omega)
            rw [g4, show (20 * p + t) / 20 = p by omega, show (20 * p + t) % 20 = t by omega] at g5
            show f_X12_been N R 80 (nI 1) J = some (nI (100 * p + (zfs (z_fit S ns sn T.2.2 p) 20 0).getD 0 + 1), K)
            rw [hy]
            show f_X12_been N R 80 (nI 1) J = some (nI (100 * p + t + 1), K)
            simp (disch := omega) only [f_X12_been, kd_80, r80_45 hR, kd_111, zl_0, zl_1, zl_2, f4, k1, k47, g5, nI_eq, nI_ltI, nI_leI, nI_clamp, gd_t, gd_pos, lt_eq, Option.bind_some, true_and, and_true, not_true, not_false_iff, false_or, or_false, if_true, if_false, if_pos, if_neg, zcd]
    · obtain ⟨K, k1, k2, k3, k4, k5⟩ := m_asSeen (N := N) hN hR hso hNk h7 hMJ.1 hMJ.2.1 hpo hMJ.2.2.1 hMJ.2.2.2.1 hMJ.2.2.2.2.2.1
      have hMK : zMi S nu T na A ns sn st nt tp fp im K := zMi_now hMJ k5 (by decide) (by decide) k2 k3 k4
      have hl : zbt (z_wr S ns sn T.2.2) nu < 2 ^ 7 := Nat.lt_of_lt_of_le (zbt_lt _ nu) (Nat.pow_le_pow_right (by omega) h7)
      refine ⟨.inl (if z_all S ns sn T.2.2 = none then nI 1 else nI 0), J, (if z_all S ns sn T.2.2 = none then nI 1 else nI 0), K, ?_, ?_, ag_ok _ _ _ (by rw [k5.2 3 (by decide)]; exact zcd_3 J 0), zInv_q hR hO hC hJ hMK (fun k hk => (zfm_lo k5 (by decide) k hk).trans (zcd_lo J 0 k hk))⟩
      · rw [e9, j3]
        by_cases h : z_all S ns sn T.2.2 = none
        · have h2 : zbt (z_wr S ns sn T.2.2) nu = 0 := zbt_0.mpr ((z_wr_0 hNk).mpr h)
          rw [if_pos h, h2]
          simp (disch := omega) only [zl_0, zl_1, nI_eq, if_true, if_neg]
        · have h2 : ¬ zbt (z_wr S ns sn T.2.2) nu = 0 := fun h3 => h ((z_wr_0 hNk).mp (zbt_0.mp h3))
          rw [if_neg h]
          simp (disch := omega) only [zl_0, zl_1, nI_eq, if_neg]
      · by_cases h : z_all S ns sn T.2.2 = none
        · rw [if_pos h] at k1 ⊢
          simp (disch := omega) only [f_X12_been, kd_80, zl_0, zl_1, zl_2, f4, k1, nI_eq, gd_t, gd_pos, lt_eq, Option.bind_some, true_and, and_true, not_true, not_false_iff, false_or, or_false, if_true, if_false, if_pos, if_neg, zcd]
        · rw [if_neg h] at k1 ⊢
          simp (disch := omega) only [f_X12_been, kd_80, zl_0, zl_1, zl_2, f4, k1, nI_eq, gd_t, gd_pos, lt_eq, Option.bind_some, true_and, and_true, not_true, not_false_iff, false_or, or_false, if_true, if_false, if_pos, if_neg, zcd]
  · have e3 := c_what_out (N := N) (R := R) (I := I) (m := 2) (by omega) hx
    have f4 := m_isIn (N := N) (R := R) (I := zcd I 0) a1.toInt64 0 2
    rw [z64, zq_0, zq_2, if_neg (by omega)] at f4
    refine ⟨_, I, 0, zcd I 1, ?_, ?_, ag_n _ _ (zcd_3 I 1), zInv_q hR hO hC (zfr_refl _ _) (zcd_M hM 1) (zcd_lo I 1)⟩
    · simp (disch := omega) only [f_X11_been, kd_0, zl_2, e3, tb_r, gd_t, gd_pos, lt_eq, Option.bind_some, true_and, and_true, not_true, not_false_iff, false_or, or_false, if_true, if_false, if_pos, if_neg, zcd]
    · simp (disch := omega) only [f_X12_been, kd_80, zl_0, zl_1, zl_2, f4, m_fail, gd_t, gd_pos, lt_eq, Option.bind_some, true_and, and_true, not_true, not_false_iff, false_or, or_false, if_true, if_false, if_pos, if_neg, zcd, up_s, up_n, up_uu, nI_eq]
