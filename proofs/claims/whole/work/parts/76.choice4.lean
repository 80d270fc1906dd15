/-! ===== PURE PART: choice ===== -/
def z_ch (np : Nat) (ft : Nat → Nat → Nat) (nu : Nat) : Nat → Int32
  | 0 => -nI 1
  | i + 1 => zn1 (z_fm np ft nu i (z_tk np ft nu i))
section ZC
variable {N : Nat} {R : Nat → Nat → Nat} {q : Nat} {S : zS} {nu : Nat} {V : Nat → zP} {I : Nat → Nat → Int32}
theorem c_pieceFor (hN : 5000 ≤ N) (hR : sR R q) (hso : z_sok S) (h7 : nu ≤ 7) (hS : zCS S q I) {p : Nat} (hp : p < nu) (h1 : ∀ p, p ≤ nu → ∀ t, t < 64 → I 74 (p * 64 + t) = nI (z_mc (z_np S) (z_fw S V) (nu - p) p t)) (h2 : ∀ p, p < nu → ∀ w, w < z_np S → I 75 (p * 6 + w) = nI (z_fw S V p w)) : f_X1_pieceFor N R 73 q (nI p) I = some (z_ch (z_np S) (z_fw S V) nu (p + 1), I) := by
  have h6 := hso.1
  have c1 := hS.1
  have h64 : 2 ^ z_np S ≤ 2 ^ 6 := Nat.pow_le_pow_right (by omega) h6
  exact zu_loop (fun n i (a : Int32 × Int32) => f_X1_pieceFor_8 N R n 73 q (nI p) a.1 a.2 (nI i) I) (fun i => (nI (z_tk (z_np S) (z_fw S V) nu i), z_ch (z_np S) (z_fw S V) nu i)) (z_ch (z_np S) (z_fw S V) nu (p + 1), I) (p + 1)
    (fun n => by
      try dsimp only
      simp (disch := omega) only [f_X1_pieceFor_8, nI_ltI, if_pos])
    (fun n i hi => by
      try dsimp only
      have htk := z_tk_lt (np := z_np S) (by omega) (nu := nu) (ft := z_fw S V) i
      have e := c_firstOf (N := N) hN hR h6 hso h7 (p := i) (by omega) (t := z_tk (z_np S) (z_fw S V) nu i) (by omega) h1 h2
      rcases hh : z_fm (z_np S) (z_fw S V) nu i (z_tk (z_np S) (z_fw S V) nu i) with _ | w
      · rw [hh] at e
        have e8 : z_ch (z_np S) (z_fw S V) nu (i + 1) = -nI 1 := by
          show zn1 (z_fm (z_np S) (z_fw S V) nu i (z_tk (z_np S) (z_fw S V) nu i)) = _
          rw [hh]
          rfl
        rw [z_tk_n hh, e8]
        simp (disch := omega) only [f_X1_pieceFor_8, kd_73, q_k0 hR, c1, e, zn1_n, zl_1, zl_7, nI_ltI, nI_leI, nI_add, gd_t, gd_pos, lt_eq, Option.bind_some, true_and, and_true, not_true, not_false_iff, false_or, or_false, if_true, if_false, if_pos, if_neg, zcd]
      · rw [hh] at e
        have h3 := zfs_some (z_np S) 0 w hh
        have hb := (of_decide_eq_true h3.2.2).1
        have e9 := (z_cor (z_tk (z_np S) (z_fw S V) nu i) (by omega) w (by omega) hb).1
        have e8 : z_ch (z_np S) (z_fw S V) nu (i + 1) = nI w := by
          show zn1 (z_fm (z_np S) (z_fw S V) nu i (z_tk (z_np S) (z_fw S V) nu i)) = _
          rw [hh]
          rfl
        rw [z_tk_s hh, e8, ← e9]
        simp (disch := omega) only [f_X1_pieceFor_8, kd_73, q_k0 hR, c1, e, zn1_s, nn_m1, if_false, zb_shl, zb_or, zl_1, zl_7, nI_ltI, nI_leI, nI_add, gd_t, gd_pos, lt_eq, Option.bind_some, true_and, and_true, not_true, not_false_iff, false_or, or_false, if_true, if_false, if_pos, if_neg, zcd]) (p + 1) 0 N (by omega) (by omega)
theorem m_c81 (hN : 5000 ≤ N) (hR : sR R q) (hso : z_sok S) (hS : zMS S I) (hV : zMV nu V I) (h7 : nu ≤ 7) (h9 : ∀ p, p < nu → V p 0 ≤ 99) {i t : Nat} (hi : i < nu) (ht : t < 2 ^ z_np S) (hT : zTb (z_np S) (z_fw S V) nu 0 (I 105)) (kk : Nat → Int32 → Int32 → Int32 → Int32 → (Nat → Nat → Int32) → Option (Int32 × (Nat → Nat → Int32))) (a1 : Int32) : f_X12_choice_81 N R kk N 80 a1 (nI (2 ^ z_np S - 1 - t)) (-nI 1) (nI i) (nI (z_np S) - nI 1) I = kk 80 a1 (nI (2 ^ z_np S - 1 - (match z_fm (z_np S) (z_fw S V) nu i t with | none => t | some w => t + 2 ^ w))) (zn1 (z_fm (z_np S) (z_fw S V) nu i t)) (nI (i + 1)) I := by
  have h6 := hso.1
  have h64 : 2 ^ z_np S ≤ 2 ^ 6 := Nat.pow_le_pow_right (by omega) h6
  have e3 := z_sl6 i (by omega)
  have g := hT i (by omega) (by omega) (2 ^ z_np S - 1 - t) (by omega)
  have hf := z_fw_le hso (V := V)
  have L := zu_loop2 (fun n j a => f_X12_choice_81 N R kk n 80 a1 (nI (2 ^ z_np S - 1 - t)) a (nI i) (nI (z_np S - j) - nI 1) I) (fun j => zn1 (zfs (fun w => decide (t / 2 ^ w % 2 = 0 ∧ z_fw S V i w + z_mc (z_np S) (z_fw S V) (nu - (i + 1)) (i + 1) (t + 2 ^ w) = z_mc (z_np S) (z_fw S V) (nu - i) i t)) j (z_np S - j))) (kk 80 a1 (nI (2 ^ z_np S - 1 - (match z_fm (z_np S) (z_fw S V) nu i t with | none => t | some w => t + 2 ^ w))) (zn1 (z_fm (z_np S) (z_fw S V) nu i t)) (nI (i + 1)) I) (z_np S)
    (fun n => by
      have hlt : nI (z_np S - z_np S) - nI 1 < nI 0 := by
        rw [Nat.sub_self]
        decide
      have hfm : zfs (fun w => decide (t / 2 ^ w % 2 = 0 ∧ z_fw S V i w + z_mc (z_np S) (z_fw S V) (nu - (i + 1)) (i + 1) (t + 2 ^ w) = z_mc (z_np S) (z_fw S V) (nu - i) i t)) (z_np S) (z_np S - z_np S) = z_fm (z_np S) (z_fw S V) nu i t := by
        rw [Nat.sub_self]
        rfl
      rw [hfm]
      rcases hh : z_fm (z_np S) (z_fw S V) nu i t with _ | w
      · simp (disch := omega) only [f_X12_choice_81, hlt, zn1_n, zb_and, Nat.and_self, zl_0, zl_1, nI_add, gd_t, gd_pos, lt_eq, Option.bind_some, true_and, and_true, not_true, not_false_iff, false_or, or_false, if_true, if_false, if_pos, if_neg, zcd]
      · have h3 := zfs_some (z_np S) 0 w hh
        have hb := (of_decide_eq_true h3.2.2).1
        have h4 := z_cmp (z_np S) (by omega) t (by omega) ht w (by omega) (by omega)
        have h5 := z_cl6q (2 ^ z_np S - 1 - t) (by omega) w (by omega) (by
          have := h4.1
          rw [decide_eq_true hb] at this
          exact of_decide_eq_true this.symm)
        have h6 := (h4.2 hb).1
        try dsimp only
        rw [h6]
        simp (disch := omega) only [f_X12_choice_81, hlt, zn1_s, nn_m1, if_false, zb_shl, h5, zl_0, zl_1, nI_add, gd_t, gd_pos, lt_eq, Option.bind_some, true_and, and_true, not_true, not_false_iff, false_or, or_false, if_true, if_false, if_pos, if_neg, zcd])
    (fun n j hj => by
      obtain ⟨w, hw⟩ : ∃ w, z_np S - j = w + 1 := ⟨z_np S - j - 1, by omega⟩
      have hw2 : z_np S - (j + 1) = w := by omega
      rw [hw, hw2]
      have ea : nI (w + 1) - nI 1 = nI w := by rw [pk_sub (by omega), Nat.add_sub_cancel]
      have eb : nI w + (-nI 1) = nI w - nI 1 := (Int32.sub_eq_add_neg _ _).symm
      have e := m_isOf (N := N) (R := R) (I := I) (n := 2 ^ z_np S - 1 - t) (j := w) (by omega) (by omega)
      have h4 := z_cmp (z_np S) (by omega) t (by omega) ht w (by omega) (by omega)
      by_cases hb : t / 2 ^ w % 2 = 0
      · have hb2 : (2 ^ z_np S - 1 - t) / 2 ^ w % 2 = 1 := by
          have := h4.1
          rw [decide_eq_true hb] at this
          exact of_decide_eq_true this.symm
        rw [if_pos hb2] at e
        have ew := m_with (N := N) hN hR hso hS hV h7 h9 hi (show 2 ^ z_np S - 1 - t < 2 ^ z_np S by omega) (show w < z_np S by omega) hb2 (fun a h1 h2 => hT a (by omega) h2)
        obtain ⟨h6', h7'⟩ := h4.2 hb
        have x1 := z_mc_me (np := z_np S) (by omega) (ft := z_fw S V) (nu - (i + 1)) (i + 1) (t + 2 ^ w) h7'
        have x2 := z_mc_me (np := z_np S) (by omega) (ft := z_fw S V) (nu - i) i t ht
        rw [h6'] at x1
        have m1 := z_me_le hf (nu - (i + 1)) (i + 1) (2 ^ z_np S - 1 - t - 2 ^ w)
        have m2 := hf i w (by omega)
        have m3 := z_me_le hf (nu - i) i (2 ^ z_np S - 1 - t)
        by_cases hc : z_fw S V i w + z_me (z_np S) (z_fw S V) (nu - (i + 1)) (i + 1) (2 ^ z_np S - 1 - t - 2 ^ w) = z_me (z_np S) (z_fw S V) (nu - i) i (2 ^ z_np S - 1 - t)
        · have e8 : zfs (fun w => decide (t / 2 ^ w % 2 = 0 ∧ z_fw S V i w + z_mc (z_np S) (z_fw S V) (nu - (i + 1)) (i + 1) (t + 2 ^ w) = z_mc (z_np S) (z_fw S V) (nu - i) i t)) (j + 1) w = some w := if_pos (decide_eq_true ⟨hb, by rw [x1, x2]; exact hc⟩)
          rw [e8, ea, ← eb]
          simp (disch := omega) only [f_X12_choice_81, kd_80, r80_39 hR, kd_105, e, ew, e3, g, hc, zn1_s, zl_0, zl_1, zl_6, nI_add, nI_eq, nI_ltI, nI_leI, nI_clamp, gd_t, gd_pos, lt_eq, Option.bind_some, true_and, and_true, not_true, not_false_iff, false_or, or_false, if_true, if_false, if_pos, if_neg, zcd]
        · have e8 : zfs (fun w => decide (t / 2 ^ w % 2 = 0 ∧ z_fw S V i w + z_mc (z_np S) (z_fw S V) (nu - (i + 1)) (i + 1) (t + 2 ^ w) = z_mc (z_np S) (z_fw S V) (nu - i) i t)) (j + 1) w = zfs (fun w => decide (t / 2 ^ w % 2 = 0 ∧ z_fw S V i w + z_mc (z_np S) (z_fw S V) (nu - (i + 1)) (i + 1) (t + 2 ^ w) = z_mc (z_np S) (z_fw S V) (nu - i) i t)) j (w + 1) := if_neg (fun h => hc (by
            have := (of_decide_eq_true h).2
            rw [x1, x2] at this
            exact this))
          rw [e8, ea, ← eb]
          simp (disch := omega) only [f_X12_choice_81, kd_80, r80_39 hR, kd_105, e, ew, e3, g, zl_0, zl_1, zl_6, nI_add, nI_eq, nI_ltI, nI_leI, nI_clamp, gd_t, gd_pos, lt_eq, Option.bind_some, true_and, and_true, not_true, not_false_iff, false_or, or_false, if_true, if_false, if_pos, if_neg, zcd]
      · have hb2 : ¬ (2 ^ z_np S - 1 - t) / 2 ^ w % 2 = 1 := fun h => hb (by
          have := h4.1
          rw [decide_eq_true h] at this
          exact of_decide_eq_true this)
        rw [if_neg hb2] at e
        have e8 : zfs (fun w => decide (t / 2 ^ w % 2 = 0 ∧ z_fw S V i w + z_mc (z_np S) (z_fw S V) (nu - (i + 1)) (i + 1) (t + 2 ^ w) = z_mc (z_np S) (z_fw S V) (nu - i) i t)) (j + 1) w = zfs (fun w => decide (t / 2 ^ w % 2 = 0 ∧ z_fw S V i w + z_mc (z_np S) (z_fw S V) (nu - (i + 1)) (i + 1) (t + 2 ^ w) = z_mc (z_np S) (z_fw S V) (nu - i) i t)) j (w + 1) := if_neg (fun h => hb (of_decide_eq_true h).1)
        rw [e8, ea, ← eb]
        simp (disch := omega) only [f_X12_choice_81, e, zl_0, zl_1, nI_eq, nI_ltI, nI_leI, gd_t, gd_pos, lt_eq, Option.bind_some, true_and, and_true, not_true, not_false_iff, false_or, or_false, if_true, if_false, if_pos, if_neg, zcd]) (z_np S) 0 N (by omega) (by omega)
  exact L
end ZC
theorem zo_choice_ok {N : Nat} (hN : 5000 ≤ N) : zo_choice N zInv := by
  intro I R a1 hI
  obtain ⟨q, S, nu, pr, T, na, A, ns, sn, st, nt, tp, fp, im, hR, hO, hC, hM⟩ := hI
  have hR : sR R q := hR
  have hC : zCi q S nu T na A ns sn st nt tp fp im I := hC
  have hM : zMi S nu T na A ns sn st nt tp fp im I := hM
  obtain ⟨hso, h7, ⟨hT1, hT2, hT3, hT4⟩, hAk, hNk, hTp, hIm⟩ := id hO
  have h6 := hso.1
  have hpo : ∀ p, p < nu → z_pok S (T.2.2 p) := fun p hp => (hT4 p hp).1
  have haw : ∀ p, p < nu → T.2.2 p 4 < 2 ^ 30 := fun p hp => (hpo p hp).2.2.2.2.1
  obtain ⟨c1, c2, c3, c4, c5, c6, c7, c8, c9, c10⟩ := id hC
  have cS1 := c1.1
  have cV1 := c2.1
  have hq := hR.q
  have ht := q_t hR
  have hM0 := zcd_M hM 0
  obtain ⟨d1, d2, d3, d4, d5, d6, d7, d8, d9, d10⟩ := id hM0
  have h9 : ∀ p, p < nu → T.2.2 p 0 ≤ 99 := fun p hp => (hpo p hp).1
  have h64 : 2 ^ z_np S ≤ 2 ^ 6 := Nat.pow_le_pow_right (by omega) h6
  have hp1 : 0 < 2 ^ z_np S := Nat.two_pow_pos _
  have hq9 := sR_q hR
  have hnu : (nI nu - nI 1).toInt = (nu : Int) - 1 := pk_sub_toInt (by omega) (by omega)
  by_cases hin : a1.toInt = -1 ∨ (0 ≤ a1.toInt ∧ a1.toInt < nu)
  · obtain ⟨J, j1, j2, j3, j4⟩ := c_weighC hN hR hso c1 c2 h7 h9
    have hJ : zfr (zScr q) I J := zfr_mono j4 (fun x hx => by
      unfold zScr
      simp only [List.mem_cons, List.not_mem_nil, or_false] at hx ⊢
      omega)
    have hMJ := zMq hR hM hJ
    have hCJ1 := zX_S hR c1 j4
    obtain ⟨Y, hY⟩ : ∃ Y, Y = zcd J 0 := ⟨_, rfl⟩
    have hY2 : sm_up J 80 (sm_up (J 80) 3 (nI 0)) = Y := hY.symm
    have hY3 : Y 80 3 = nI 0 := by rw [hY]; exact zcd_3 J 0
    have hYl : ∀ k, k < 80 → Y k = J k := fun k hk => by rw [hY]; exact zcd_lo J 0 k hk
    rw [← hY] at hMJ
    have y84 := hMJ.2.1.1
    have f4 := m_isIn (N := N) (R := R) (I := Y) a1.toInt64 (-1) (nI nu - nI 1).toInt64
    rw [z64, z64, zq_m1, hnu, if_pos (by omega)] at f4
    obtain ⟨K, k1, k2, k3⟩ := m_tellMost hN hR hso hMJ.1 hMJ.2.1 h7 h9
    have hMK := zMi_fr hMJ k3 (fun x hx => by simp at hx; subst hx; simp [zMsc]) (fun x hx => by cases hx)
    have k84 := hMK.1.1
    have hK3 : K 80 3 = nI 0 := (k3.2 3 (by simp)).trans hY3
    have hKl : ∀ k, k < 80 → K k = J k := fun k hk => (zfm_lo k3 (fun x hx => by simp at hx; omega) k hk).trans (hYl k hk)
    have mu : z_mc (z_np S) (z_fw S T.2.2) nu 0 0 = z_me (z_np S) (z_fw S T.2.2) nu 0 (2 ^ z_np S - 1) := z_mc_me (by omega) nu 0 0 hp1
    by_cases hm : a1.toInt = -1
    · have ha : a1 = -nI 1 := by
        apply Int32.toInt_inj.mp
        rw [hm]
        decide
      subst ha
      have g1 := j2 0 (by omega) 0 (by omega)
      have g2 := k2 0 (by omega) (by omega) (2 ^ z_np S - 1) (by omega)
      rw [Nat.zero_mul, Nat.zero_add] at g1 g2
      rw [Nat.sub_zero] at g1 g2
      rw [mu] at g1
      refine ⟨.inl (nI (z_me (z_np S) (z_fw S T.2.2) nu 0 (2 ^ z_np S - 1))), J, nI (z_me (z_np S) (z_fw S T.2.2) nu 0 (2 ^ z_np S - 1)), K, ?_, ?_, ag_ok _ _ _ hK3, zInv_q hR hO hC hJ hMK hKl⟩
      · simp (disch := omega) only [f_X11_choice, f_X11_choice_11, f_X1_most, kd_0, kd_73, kd_74, r0_13 hR, r73_0 hR, hR.2.2.1, j1, g1, zl_0, zl_1, nI_ltI, nI_leI, nI_clamp, gd_t, gd_pos, true_and, and_true, not_false_iff, false_or, or_false, Option.bind_some, if_true, if_pos]
      · simp (disch := omega) only [f_X12_choice, kd_80, r80_4 hR, kd_84, r80_39 hR, kd_105, zl_0, zl_1, hY2, y84, f4, k1, k84, g2, zb_shl, pk_sub, nI_eq, nI_ltI, nI_leI, nI_clamp, gd_t, gd_pos, lt_eq, true_and, and_true, not_false_iff, false_or, or_false, Option.bind_some, if_true, if_false, if_pos, if_neg]
    · rcases zrx a1 nu with ⟨p, hp, rfl⟩ | hx
      · have e1 := c_pupil_in (N := N) hR c2 h7 hp
        have e5 := c_pieceFor hN hR hso h7 hCJ1 hp j2 j3
        rw [pk_sub (show 1 ≤ nu by omega)] at f4
        have L := zu_loop (fun n i (a : Int32 × Int32) => f_X12_choice_63 N R n 80 (nI p) a.1 a.2 (nI i) K) (fun i => (nI (2 ^ z_np S - 1 - z_tk (z_np S) (z_fw S T.2.2) nu i), z_ch (z_np S) (z_fw S T.2.2) nu i)) (z_ch (z_np S) (z_fw S T.2.2) nu (p + 1), K) (p + 1)
          (fun n => by
            try dsimp only
            simp (disch := omega) only [f_X12_choice_63, nI_ltI, if_pos])
          (fun n i hi => by
            try dsimp only
            have htk := z_tk_lt (np := z_np S) (by omega) (nu := nu) (ft := z_fw S T.2.2) i
            have e := m_c81 hN hR hso hMK.1 hMK.2.1 h7 h9 (i := i) (by omega) htk k2 (fun z0 z1 z2 z3 z4 J => f_X12_choice_63 N R n z0 z1 z2 z3 z4 J) (nI p)
            refine Eq.trans ?_ e
            simp (disch := omega) only [f_X12_choice_63, kd_80, r80_4 hR, kd_84, k84, zl_0, zl_1, nI_ltI, nI_leI, nI_clamp, gd_t, gd_pos, true_and, and_true, not_false_iff, false_or, or_false, if_neg]) (p + 1) 0 N (by omega) (by omega)
        refine ⟨.inl (z_ch (z_np S) (z_fw S T.2.2) nu (p + 1)), J, z_ch (z_np S) (z_fw S T.2.2) nu (p + 1), K, ?_, Eq.trans ?_ L, ag_ok _ _ _ hK3, zInv_q hR hO hC hJ hMK hKl⟩
        · simp (disch := omega) only [f_X11_choice, f_X11_choice_11, kd_0, kd_73, r0_13 hR, hR.2.2.1, e1, tb_l, j1, e5, nn_m1, if_false, zl_0, zl_1, gd_t, gd_pos, Option.bind_some]
        · simp (disch := omega) only [f_X12_choice, kd_80, r80_4 hR, kd_84, zl_0, zl_1, hY2, y84, f4, k1, k84, zb_shl, pk_sub, nn_m1, if_false, nI_eq, nI_ltI, nI_leI, nI_clamp, gd_t, gd_pos, lt_eq, true_and, and_true, not_false_iff, false_or, or_false, Option.bind_some, if_neg]
          try rfl
      · exact absurd hin (by omega)
  · have hx : a1.toInt < 0 ∨ (nu : Int) ≤ a1.toInt := by omega
    have e1 := c_pupil_out (N := N) hR c2 h7 hx
    have hne : ¬ a1 = -nI 1 := fun h => hin (Or.inl (by rw [h]; decide))
    have y84 : I 84 1 = nI nu := hM.2.1.1
    have f4 := m_isIn (N := N) (R := R) (I := zcd I 0) a1.toInt64 (-1) (nI nu - nI 1).toInt64
    rw [z64, z64, zq_m1, hnu, if_neg (by omega)] at f4
    refine ⟨_, I, 0, zcd I 1, ?_, ?_, ag_n _ _ (zcd_3 I 1), zInv_q hR hO hC (zfr_refl _ _) (zcd_M hM 1) (zcd_lo I 1)⟩
    · simp (disch := omega) only [f_X11_choice, kd_0, e1, tb_r, hne, if_false, zl_1, gd_t, gd_pos, lt_eq, Option.bind_some, true_and, and_true, not_true, not_false_iff, false_or, or_false, if_true, if_false, if_pos, if_neg, zcd]
    · simp (disch := omega) only [f_X12_choice, kd_80, r80_4 hR, kd_84, y84, zl_0, zl_1, f4, m_fail, nI_ltI, nI_leI, nI_clamp, gd_t, gd_pos, lt_eq, Option.bind_some, true_and, and_true, not_true, not_false_iff, false_or, or_false, if_true, if_false, if_pos, if_neg, zcd, up_s, up_n, up_uu, nI_eq]
