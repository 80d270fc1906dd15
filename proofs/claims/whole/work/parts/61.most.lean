/-! ===== PURE PART: best, sorest, heard, stuck ===== -/
def z_mo (f : Nat → Nat) : Nat → Option Nat
  | 0 => none
  | n + 1 => match z_mo f n with
    | none => some n
    | some b => if f n ≤ f b then some b else some n
def z_mx (f : Nat → Nat) : Option Nat → Int32
  | none => -nI 1
  | some b => nI (f b)
theorem z_mo_n {f : Nat → Nat} {n : Nat} (h : z_mo f n = none) : z_mo f (n + 1) = some n := by
  unfold z_mo
  rw [h]
theorem z_mo_k {f : Nat → Nat} {n b : Nat} (h : z_mo f n = some b) (hc : f n ≤ f b) : z_mo f (n + 1) = some b := by
  unfold z_mo
  rw [h]
  exact if_pos hc
theorem z_mo_t {f : Nat → Nat} {n b : Nat} (h : z_mo f n = some b) (hc : ¬ f n ≤ f b) : z_mo f (n + 1) = some n := by
  unfold z_mo
  rw [h]
  exact if_neg hc
theorem z_mo_lt (f : Nat → Nat) : ∀ n b, z_mo f n = some b → b < n
  | 0, b, h => by cases h
  | n + 1, b, h => by
    rcases hh : z_mo f n with _ | b'
    · rw [z_mo_n hh] at h
      cases h
      omega
    · have := z_mo_lt f n b' hh
      by_cases hc : f n ≤ f b'
      · rw [z_mo_k hh hc] at h
        cases h
        omega
      · rw [z_mo_t hh hc] at h
        cases h
        omega
theorem nn_le {b : Nat} (h : b < 2 ^ 31) : (nI b ≤ -nI 1) = False := eq_false (fun e => by
  rw [zz_le, nI_toInt h] at e
  have : (-nI 1 : Int32).toInt = -1 := by decide
  omega)
section ZD
variable {N : Nat} {R : Nat → Nat → Nat} {q : Nat} {S : zS} {nu : Nat} {V : Nat → zP} {I J K : Nat → Nat → Int32} {pl : zP}
theorem c_whm (hN : 5000 ≤ N) (hR : sR R q) (hso : z_sok S) (hS : zCS S q I) (hV : zCV nu V (q + 7) I) (h7 : nu ≤ 7) (hpo : ∀ p, p < nu → z_pok S (V p)) {m : Nat} (hm : m ≤ 60) {f : Nat} (hf : f ≤ 1) : ∃ J, f_X11_whoHasMost N R 0 (nI m) (nI f) I = some (zn1 (z_mo (fun p => z_wks S m (V p) f) nu), J) ∧ zfr [57, q + 6, q + 16] I J := by
  have hq9 := sR_q hR
  have hb90 : ∀ p, p < nu → z_wks S m (V p) f ≤ 99 := fun p hp => by
    have := z_pok_wks m _ (hpo p hp)
    have e1 := this.1
    have e2 := this.2.1
    have e3 : f = 0 ∨ f = 1 := by omega
    rcases e3 with rfl | rfl <;> omega
  have L := zm_loop (fun n i (s : (Int32 × Int32) × (Nat → Nat → Int32)) => f_X11_whoHasMost_8 N R n 0 (nI m) (nI f) s.1.1 s.1.2 (nI i) s.2) (fun i s => s.1 = (zn1 (z_mo (fun p => z_wks S m (V p) f) i), z_mx (fun p => z_wks S m (V p) f) (z_mo (fun p => z_wks S m (V p) f) i)) ∧ zfr [57, q + 6, q + 16] I s.2) (fun y => y.1 = zn1 (z_mo (fun p => z_wks S m (V p) f) nu) ∧ zfr [57, q + 6, q + 16] I y.2) nu
    (fun n s hs => by
      obtain ⟨⟨a, b⟩, s⟩ := s
      obtain ⟨h1, h2⟩ := hs
      cases h1
      have g := (zW_V hR h2 h7 hV).1
      try dsimp only at g h2 ⊢
      refine ⟨(zn1 (z_mo (fun p => z_wks S m (V p) f) nu), s), ?_, rfl, h2⟩
      simp (disch := omega) only [f_X11_whoHasMost_8, kd_0, hR.2.2.1, q_k0 hR, q_r5 hR, q_t0 hR, g, nI_leI, gd_t, gd_pos, lt_eq, Option.bind_some, true_and, and_true, not_true, not_false_iff, false_or, or_false, if_true, if_false, if_pos, if_neg, zcd])
    (fun n i s hi hs => by
      obtain ⟨⟨a, b⟩, s⟩ := s
      obtain ⟨h1, h2⟩ := hs
      cases h1
      try dsimp only at h2 ⊢
      have hV2 := zW_V hR h2 h7 hV
      have g := hV2.1
      obtain ⟨J1, J, j1, j2, j3, j4⟩ := c_dr hN hR hso (zW_S hR h2 hS) (q_t4 hR i (by omega)) (by omega) (hV2.2 i hi) (hpo i hi) hm
      have g3 := j3 f (by omega)
      have hb9 := hb90 i hi
      have step : ∀ (a b : Int32), f_X11_whoHasMost_8 N R (n + 1) 0 (nI m) (nI f) a b (nI i) s = if nI (z_wks S m (V i) f) ≤ b then f_X11_whoHasMost_8 N R n 0 (nI m) (nI f) a b (nI (i + 1)) J else f_X11_whoHasMost_8 N R n 0 (nI m) (nI f) (nI i) (nI (z_wks S m (V i) f)) (nI (i + 1)) J := fun a b => by
        have e3 : f = 0 ∨ f = 1 := by omega
        rcases e3 with rfl | rfl
        · simp (disch := omega) only [f_X11_whoHasMost_8, f_X11_whoHasMost_76, kd_0, hR.2.2.1, q_k0 hR, q_r5 hR, q_t0 hR, q_t1 hR, q_t2 hR, q_t3 hR, g, r0_8 hR, kd_57, j1, j2, g3, nI_leI, nI_ltI, nI_clamp, nI_eq, nI_add, zl_0, zl_1, gd_t, gd_pos, lt_eq, Option.bind_some, true_and, and_true, not_true, not_false_iff, false_or, or_false, if_true, if_false, if_pos, if_neg, zcd]
        · simp (disch := omega) only [f_X11_whoHasMost_8, f_X11_whoHasMost_76, kd_0, hR.2.2.1, q_k0 hR, q_r5 hR, q_t0 hR, q_t1 hR, q_t2 hR, q_t3 hR, g, r0_8 hR, kd_57, j1, j2, g3, nI_leI, nI_ltI, nI_clamp, nI_eq, nI_add, zl_0, zl_1, gd_t, gd_pos, lt_eq, Option.bind_some, true_and, and_true, not_true, not_false_iff, false_or, or_false, if_true, if_false, if_pos, if_neg, zcd]
      refine ⟨((zn1 (z_mo (fun p => z_wks S m (V p) f) (i + 1)), z_mx (fun p => z_wks S m (V p) f) (z_mo (fun p => z_wks S m (V p) f) (i + 1))), J), ?_, rfl, zfr_trans h2 j4⟩
      refine (step _ _).trans ?_
      rcases hh : z_mo (fun p => z_wks S m (V p) f) i with _ | b
      · rw [z_mo_n hh]
        have hz : ¬ nI (z_wks S m (V i) f) ≤ -nI 1 := fun h => (nn_le (show z_wks S m (V i) f < 2 ^ 31 by omega)).mp h
        exact if_neg hz
      · have hb := z_mo_lt _ i b hh
        have hb8 := hb90 b (by omega)
        have hz := nI_leI (a := z_wks S m (V i) f) (b := z_wks S m (V b) f) (by omega) (by omega)
        by_cases hc : z_wks S m (V i) f ≤ z_wks S m (V b) f
        · rw [z_mo_k hh hc]
          exact if_pos (hz.mpr hc)
        · rw [z_mo_t hh hc]
          exact if_neg (fun h => hc (hz.mp h))) nu 0 ((-1, -1), I) N (by omega) (by omega) ⟨rfl, zfr_refl _ _⟩
  obtain ⟨⟨v, J⟩, l1, l2, l3⟩ := L
  have l2 : v = zn1 (z_mo (fun p => z_wks S m (V p) f) nu) := l2
  subst l2
  exact ⟨J, l1, l3⟩
end ZD
theorem zo_best_ok {N : Nat} (hN : 5000 ≤ N) : zo_best N zInv := by
  intro I R a1 hI
  obtain ⟨q, S, nu, pr, T, na, A, ns, sn, st, nt, tp, fp, im, hR, hO, hC, hM⟩ := hI
  have hR : sR R q := hR
  have hC : zCi q S nu T na A ns sn st nt tp fp im I := hC
  have hM : zMi S nu T na A ns sn st nt tp fp im I := hM
  obtain ⟨hso, h7, ⟨hT1, hT2, hT3, hT4⟩, hAk, hNk, hTp, hIm⟩ := id hO
  have h6 := hso.1
  have hpo : ∀ p, p < nu → z_pok S (T.2.2 p) := fun p hp => (hT4 p hp).1
  have haw : ∀ p, p < nu → T.2.2 p 4 < 2 ^ 30 := fun p hp => (hpo p hp).2.2.2.2.1
  obtain ⟨c1, c2, c3, c4, c5, c6, c7, c8, c9, c10⟩ := id hC
  have cS1 := c1.1
  have cV1 := c2.1
  have hq := hR.q
  have ht := q_t hR
  have hM0 := zcd_M hM 0
  obtain ⟨d1, d2, d3, d4, d5, d6, d7, d8, d9, d10⟩ := id hM0
  have e2 := m_isIn (N := N) (R := R) (I := zcd I 0) a1.toInt64 0 60
  rw [z64, zq_0, zq_60] at e2
  rcases zrg a1 0 60 with ⟨m, -, hm, rfl⟩ | hx
  · have e1 := c_betw_in (N := N) (R := R) (I := I) (m := 60) (by omega) (Nat.zero_le m) hm
    have hf9 : ∀ p, p < nu → z_wks S m (T.2.2 p) 0 ≤ 99 := fun p hp => by
      have := z_pok_wks m _ (hpo p hp)
      have h1 := this.1
      have h2 := this.2.1
      omega
    obtain ⟨J, j1, j2⟩ := c_whm hN hR hso c1 c2 h7 hpo hm (f := 0) (by omega)
    have hJ := zW_s j2
    have hMJ := zMq hR hM hJ
    have f6 := m_isIn (N := N) (R := R) (I := zcd J 0) (nI m).toInt64 0 60
    rw [z64, zq_0, zq_60, nI_toInt (by omega), if_pos (by omega)] at f6
    obtain ⟨X, K, L, x1, k1, l1, x2, k2, k3, l2, l3, l4⟩ := m_dr hN hR hO hMJ hm
    have l3 : L 80 3 = nI 0 := l3.trans (zcd_3 J 0)
    have l4 : ∀ k, k < 80 → L k = J k := fun k hk => (l4 k hk).trans (zcd_lo J 0 k hk)
    have kV := k3.1
    have L2 := zu_loop (fun n i a => f_X12_best_41 N R n 80 a (nI i) K) (fun i => zn1 (z_mo (fun p => z_wks S m (T.2.2 p) 0) i)) (zn1 (z_mo (fun p => z_wks S m (T.2.2 p) 0) nu), L) nu
      (fun n => by simp (disch := omega) only [f_X12_best_41, kd_80, r80_4 hR, kd_84, kV, r80_37 hR, kd_103, l1, zl_0, zl_1, nI_leI, nI_ltI, nI_clamp, gd_t, gd_pos, lt_eq, Option.bind_some, true_and, and_true, not_true, not_false_iff, false_or, or_false, if_true, if_false, if_pos, if_neg, zcd])
      (fun n i hi => by
        have v0 := (k3.2 i hi).1
        have h9 := hf9 i hi
        rcases hh : z_mo (fun p => z_wks S m (T.2.2 p) 0) i with _ | b
        · have e8 := z_mo_n hh
          simp (disch := omega) only [f_X12_best_41, kd_80, r80_4 hR, kd_84, kV, e8, zn1_n, zn1_s, zl_0, zl_1, nI_leI, nI_ltI, nI_clamp, nI_add, gd_t, gd_pos, lt_eq, Option.bind_some, true_and, and_true, not_true, not_false_iff, false_or, or_false, if_true, if_false, if_pos, if_neg, zcd]
        · have hb := z_mo_lt _ i b hh
          have w0 := (k3.2 b (by omega)).1
          have h8 := hf9 b (by omega)
          by_cases hc : z_wks S m (T.2.2 i) 0 ≤ z_wks S m (T.2.2 b) 0
          · have e8 := z_mo_k hh hc
            simp (disch := omega) only [f_X12_best_41, kd_80, r80_4 hR, kd_84, kV, r80_25 hR, kd_95, v0, w0, e8, zn1_n, zn1_s, nn_m1, if_false, zl_0, zl_1, nI_leI, nI_ltI, nI_clamp, nI_add, gd_t, gd_pos, lt_eq, Option.bind_some, true_and, and_true, not_true, not_false_iff, false_or, or_false, if_true, if_false, if_pos, if_neg, zcd]
          · have e8 := z_mo_t hh hc
            simp (disch := omega) only [f_X12_best_41, kd_80, r80_4 hR, kd_84, kV, r80_25 hR, kd_95, v0, w0, e8, zn1_n, zn1_s, nn_m1, if_false, zl_0, zl_1, nI_leI, nI_ltI, nI_clamp, nI_add, gd_t, gd_pos, lt_eq, Option.bind_some, true_and, and_true, not_true, not_false_iff, false_or, or_false, if_true, if_false, if_pos, if_neg, zcd]) nu 0 N (by omega) (by omega)
    refine ⟨.inl (zn1 (z_mo (fun p => z_wks S m (T.2.2 p) 0) nu)), J, zn1 (z_mo (fun p => z_wks S m (T.2.2 p) 0) nu), L, ?_, ?_, ag_ok _ _ _ l3, zInv_q hR hO hC hJ l2 l4⟩
    · simp (disch := omega) only [f_X11_best, kd_0, zl_0, zl_1, zl_60, e1, tb_l, j1, gd_t, gd_pos, lt_eq, Option.bind_some, true_and, and_true, not_true, not_false_iff, false_or, or_false, if_true, if_false, if_pos, if_neg, zcd]
    · refine Eq.trans ?_ L2
      simp (disch := omega) only [f_X12_best, kd_80, zl_0, zl_1, f6, r80_37 hR, kd_103, x1, k1, nI_eq, gd_t, gd_pos, lt_eq, Option.bind_some, true_and, and_true, not_true, not_false_iff, false_or, or_false, if_true, if_false, if_pos, if_neg, zcd]
      try rfl
  · have e1 := c_betw_out (N := N) (R := R) (I := I) (a := 0) (m := 60) (by omega) (by omega) hx
    rw [if_neg (by omega)] at e2
    refine ⟨_, I, 0, zcd I 1, ?_, ?_, ag_i _ (zcd_3 I 1), zInv_q hR hO hC (zfr_refl _ _) (zcd_M hM 1) (zcd_lo I 1)⟩
    · simp (disch := omega) only [f_X11_best, kd_0, hR.2.2.1, q_k0 hR, zl_0, zl_1, zl_60, e1, tb_r, gd_t, gd_pos, lt_eq, Option.bind_some, true_and, and_true, not_true, not_false_iff, false_or, or_false, if_true, if_false, if_pos, if_neg, zcd]
    · simp (disch := omega) only [f_X12_best, kd_80, zl_0, zl_1, zl_2, e2, m_fail, gd_t, gd_pos, lt_eq, Option.bind_some, true_and, and_true, not_true, not_false_iff, false_or, or_false, if_true, if_false, if_pos, if_neg, zcd, up_s, up_n, up_uu, nI_eq]
theorem zo_sorest_ok {N : Nat} (hN : 5000 ≤ N) : zo_sorest N zInv := by
  intro I R a1 hI
  obtain ⟨q, S, nu, pr, T, na, A, ns, sn, st, nt, tp, fp, im, hR, hO, hC, hM⟩ := hI
  have hR : sR R q := hR
  have hC : zCi q S nu T na A ns sn st nt tp fp im I := hC
  have hM : zMi S nu T na A ns sn st nt tp fp im I := hM
  obtain ⟨hso, h7, ⟨hT1, hT2, hT3, hT4⟩, hAk, hNk, hTp, hIm⟩ := id hO
  have h6 := hso.1
  have hpo : ∀ p, p < nu → z_pok S (T.2.2 p) := fun p hp => (hT4 p hp).1
  have haw : ∀ p, p < nu → T.2.2 p 4 < 2 ^ 30 := fun p hp => (hpo p hp).2.2.2.2.1
  obtain ⟨c1, c2, c3, c4, c5, c6, c7, c8, c9, c10⟩ := id hC
  have cS1 := c1.1
  have cV1 := c2.1
  have hq := hR.q
  have ht := q_t hR
  have hM0 := zcd_M hM 0
  obtain ⟨d1, d2, d3, d4, d5, d6, d7, d8, d9, d10⟩ := id hM0
  have e2 := m_isIn (N := N) (R := R) (I := zcd I 0) a1.toInt64 0 60
  rw [z64, zq_0, zq_60] at e2
  rcases zrg a1 0 60 with ⟨m, -, hm, rfl⟩ | hx
  · have e1 := c_betw_in (N := N) (R := R) (I := I) (m := 60) (by omega) (Nat.zero_le m) hm
    have hf9 : ∀ p, p < nu → z_wks S m (T.2.2 p) 1 ≤ 99 := fun p hp => by
      have := z_pok_wks m _ (hpo p hp)
      have h1 := this.1
      have h2 := this.2.1
      omega
    obtain ⟨J, j1, j2⟩ := c_whm hN hR hso c1 c2 h7 hpo hm (f := 1) (by omega)
    have hJ := zW_s j2
    have hMJ := zMq hR hM hJ
    have f6 := m_isIn (N := N) (R := R) (I := zcd J 0) (nI m).toInt64 0 60
    rw [z64, zq_0, zq_60, nI_toInt (by omega), if_pos (by omega)] at f6
    obtain ⟨X, K, L, x1, k1, l1, x2, k2, k3, l2, l3, l4⟩ := m_dr hN hR hO hMJ hm
    have l3 : L 80 3 = nI 0 := l3.trans (zcd_3 J 0)
    have l4 : ∀ k, k < 80 → L k = J k := fun k hk => (l4 k hk).trans (zcd_lo J 0 k hk)
    have kV := k3.1
    have L2 := zu_loop (fun n i a => f_X12_sorest_41 N R n 80 a (nI i) K) (fun i => zn1 (z_mo (fun p => z_wks S m (T.2.2 p) 1) i)) (zn1 (z_mo (fun p => z_wks S m (T.2.2 p) 1) nu), L) nu
      (fun n => by simp (disch := omega) only [f_X12_sorest_41, kd_80, r80_4 hR, kd_84, kV, r80_37 hR, kd_103, l1, zl_0, zl_1, nI_leI, nI_ltI, nI_clamp, gd_t, gd_pos, lt_eq, Option.bind_some, true_and, and_true, not_true, not_false_iff, false_or, or_false, if_true, if_false, if_pos, if_neg, zcd])
      (fun n i hi => by
        have v0 := (k3.2 i hi).2.1
        have h9 := hf9 i hi
        rcases hh : z_mo (fun p => z_wks S m (T.2.2 p) 1) i with _ | b
        · have e8 := z_mo_n hh
          simp (disch := omega) only [f_X12_sorest_41, kd_80, r80_4 hR, kd_84, kV, e8, zn1_n, zn1_s, zl_0, zl_1, nI_leI, nI_ltI, nI_clamp, nI_add, gd_t, gd_pos, lt_eq, Option.bind_some, true_and, and_true, not_true, not_false_iff, false_or, or_false, if_true, if_false, if_pos, if_neg, zcd]
        · have hb := z_mo_lt _ i b hh
          have w0 := (k3.2 b (by omega)).2.1
          have h8 := hf9 b (by omega)
          by_cases hc : z_wks S m (T.2.2 i) 1 ≤ z_wks S m (T.2.2 b) 1
          · have e8 := z_mo_k hh hc
            simp (disch := omega) only [f_X12_sorest_41, kd_80, r80_4 hR, kd_84, kV, r80_26 hR, kd_96, v0, w0, e8, zn1_n, zn1_s, nn_m1, if_false, zl_0, zl_1, nI_leI, nI_ltI, nI_clamp, nI_add, gd_t, gd_pos, lt_eq, Option.bind_some, true_and, and_true, not_true, not_false_iff, false_or, or_false, if_true, if_false, if_pos, if_neg, zcd]
          · have e8 := z_mo_t hh hc
            simp (disch := omega) only [f_X12_sorest_41, kd_80, r80_4 hR, kd_84, kV, r80_26 hR, kd_96, v0, w0, e8, zn1_n, zn1_s, nn_m1, if_false, zl_0, zl_1, nI_leI, nI_ltI, nI_clamp, nI_add, gd_t, gd_pos, lt_eq, Option.bind_some, true_and, and_true, not_true, not_false_iff, false_or, or_false, if_true, if_false, if_pos, if_neg, zcd]) nu 0 N (by omega) (by omega)
    refine ⟨.inl (zn1 (z_mo (fun p => z_wks S m (T.2.2 p) 1) nu)), J, zn1 (z_mo (fun p => z_wks S m (T.2.2 p) 1) nu), L, ?_, ?_, ag_ok _ _ _ l3, zInv_q hR hO hC hJ l2 l4⟩
    · simp (disch := omega) only [f_X11_sorest, kd_0, zl_0, zl_1, zl_60, e1, tb_l, j1, gd_t, gd_pos, lt_eq, Option.bind_some, true_and, and_true, not_true, not_false_iff, false_or, or_false, if_true, if_false, if_pos, if_neg, zcd]
    · refine Eq.trans ?_ L2
      simp (disch := omega) only [f_X12_sorest, kd_80, zl_0, zl_1, f6, r80_37 hR, kd_103, x1, k1, nI_eq, gd_t, gd_pos, lt_eq, Option.bind_some, true_and, and_true, not_true, not_false_iff, false_or, or_false, if_true, if_false, if_pos, if_neg, zcd]
      try rfl
  · have e1 := c_betw_out (N := N) (R := R) (I := I) (a := 0) (m := 60) (by omega) (by omega) hx
    rw [if_neg (by omega)] at e2
    refine ⟨_, I, 0, zcd I 1, ?_, ?_, ag_i _ (zcd_3 I 1), zInv_q hR hO hC (zfr_refl _ _) (zcd_M hM 1) (zcd_lo I 1)⟩
    · simp (disch := omega) only [f_X11_sorest, kd_0, hR.2.2.1, q_k0 hR, zl_0, zl_1, zl_60, e1, tb_r, gd_t, gd_pos, lt_eq, Option.bind_some, true_and, and_true, not_true, not_false_iff, false_or, or_false, if_true, if_false, if_pos, if_neg, zcd]
    · simp (disch := omega) only [f_X12_sorest, kd_80, zl_0, zl_1, zl_2, e2, m_fail, gd_t, gd_pos, lt_eq, Option.bind_some, true_and, and_true, not_true, not_false_iff, false_or, or_false, if_true, if_false, if_pos, if_neg, zcd, up_s, up_n, up_uu, nI_eq]
