/-! ===== PURE PART: through ===== -/
def z_tg (S : zS) (nu pn p : Nat) (V : Nat → zP) : Nat → zP := sm_up V p (z_go S (V p) (z_lf nu V pn (V p) 30))
def z_tv (S : zS) (nu pn p : Nat) (V : Nat → zP) : Nat → Nat → zP
  | 0 => V
  | i + 1 => z_tg S nu pn p (z_tv S nu pn p V i)
theorem z_lt_bit {x n : Nat} (h : ∀ i, n ≤ i → x.testBit i = false) : x < 2 ^ n := Nat.lt_pow_two_of_testBit x h
theorem z_tg_fr {S : zS} {nu pn p : Nat} {V : Nat → zP} (hp : p < nu) {m : Nat} (hm : z_fr nu V pn (V p) < 2 ^ m) (h0 : z_fr nu V pn (V p) ≠ 0) : ∃ t, t < 30 ∧ t < m ∧ z_lf nu V pn (V p) 30 = t + 1 ∧ 2 ^ t ≤ z_fr nu V pn (V p) ∧ z_fr nu V pn (V p) < 2 ^ (t + 1) ∧ z_tg S nu pn p V = sm_up V p (z_go S (V p) (t + 1)) ∧ z_fr nu (z_tg S nu pn p V) pn (z_tg S nu pn p V p) = zbt (fun i => z_may nu V pn (V p) (i + 1) && !decide (i = t)) 30 ∧ z_fr nu (z_tg S nu pn p V) pn (z_tg S nu pn p V p) < 2 ^ t := by
  have hx : z_fr nu V pn (V p) < 2 ^ 30 := zbt_lt _ 30
  obtain ⟨t, -, e2, e3, e4⟩ := j_hob (N := 0) (R := fun _ _ => 0) (I := fun _ _ => 0) (x := z_fr nu V pn (V p)) (by omega) (by omega)
  obtain ⟨f1, f2, f3⟩ := z_fr_t e3 e4
  have e5 : z_tg S nu pn p V = sm_up V p (z_go S (V p) (t + 1)) := by
    unfold z_tg
    rw [f2]
  have e6 : z_fr nu (z_tg S nu pn p V) pn (z_tg S nu pn p V p) = zbt (fun i => z_may nu V pn (V p) (i + 1) && !decide (i = t)) 30 := by
    rw [e5, up_s]
    exact z_fr_go hp f1
  refine ⟨t, f1, Nat.lt_of_not_le fun h => ?_, f2, e3, e4, e5, e6, ?_⟩
  · have := Nat.pow_le_pow_right (n := 2) (by omega) h
    omega
  · rw [e6]
    apply z_lt_bit
    intro i hi
    rw [zbt_bit]
    by_cases h30 : i < 30
    · by_cases he : i = t
      · simp [he]
      · have h6 := zbt_bit (fun j => z_may nu V pn (V p) (j + 1)) 30 i
        unfold z_fr at e4
        rw [Nat.testBit_lt_two_pow (Nat.lt_of_lt_of_le e4 (Nat.pow_le_pow_right (by omega) (show t + 1 ≤ i by omega))), decide_eq_true h30, Bool.true_and] at h6
        try dsimp only at h6
        rw [← h6]
        simp
    · rw [decide_eq_false h30, Bool.false_and]
section ZC
variable {N : Nat} {R : Nat → Nat → Nat} {q : Nat} {S : zS} {nu pn : Nat} {V : Nat → zP} {I : Nat → Nat → Int32}
theorem c_gtl (hN : 5000 ≤ N) (hR : sR R q) (hso : z_sok S) (hS : zCS S q I) {p : Nat} (hp : p < nu) (hl : zPl (V p) (I 57)) (ho : z_pok S (V p)) {m : Nat} (hm : z_fr nu V pn (V p) < 2 ^ m) (h0 : z_fr nu V pn (V p) ≠ 0) : ∃ J, f_X11_goToLast N R 0 (nI (z_fr nu V pn (V p))) I = some (nI (z_fr nu (z_tg S nu pn p V) pn (z_tg S nu pn p V p)), J) ∧ zPl (z_tg S nu pn p V p) (J 57) ∧ zfr [57, q + 6, q + 16] I J := by
  obtain ⟨t, f1, f2, f3, e3, e4, e5, e6, e7⟩ := z_tg_fr (S := S) hp hm h0
  have hx : z_fr nu V pn (V p) < 2 ^ 30 := zbt_lt _ 30
  obtain ⟨l, g1, g2, g3, g4⟩ := j_hob (N := N) (R := R) (I := I) (x := z_fr nu V pn (V p)) (by omega) (by omega)
  have hlt : l = t := by
    have a1 : ¬ l < t := fun h => by
      have := Nat.pow_le_pow_right (n := 2) (by omega) (show l + 1 ≤ t from h)
      omega
    have a2 : ¬ t < l := fun h => by
      have := Nat.pow_le_pow_right (n := 2) (by omega) (show t + 1 ≤ l from h)
      omega
    omega
  rw [hlt] at g1
  have g5 := j_ntz (N := N) (R := R) (I := I) t f1
  obtain ⟨J, k1, k2, k3⟩ := c_go hN hR.q hso hS kd_57 hl ho (j := t + 1) (by omega) (by omega)
  have g6 := z_clr (fun j => z_may nu V pn (V p) (j + 1)) f1
  have hz : zbt (fun j => z_may nu V pn (V p) (j + 1)) 30 = z_fr nu V pn (V p) := rfl
  rw [hz, zl_1] at g6
  refine ⟨J, ?_, ?_, k3⟩
  · rw [e6]
    unfold f_X11_goToLast
    rw [g1, Option.bind_some, gd_pos kd_0]
    try dsimp only
    rw [g5, Option.bind_some, hR.2.2.1, gd_pos (q_k0 hR), r0_8 hR, zl_1]
    try dsimp only
    rw [nI_add, k1, Option.bind_some, g6]
  · rw [e5, up_s]
    exact k2
theorem z_tg_pok {p : Nat} (hp : p < nu) (ho : ∀ a, a < nu → z_pok S (V a)) {m : Nat} (hm : z_fr nu V pn (V p) < 2 ^ m) (h0 : z_fr nu V pn (V p) ≠ 0) : ∀ a, a < nu → z_pok S (z_tg S nu pn p V a) := by
  obtain ⟨t, f1, f2, f3, e3, e4, e5, e6, e7⟩ := z_tg_fr (S := S) hp hm h0
  intro a ha
  rw [e5]
  by_cases h : a = p
  · rw [h, up_s]
    exact z_pok_go (ho p hp) (by omega) (by omega)
  · rw [up_n _ _ h]
    exact ho a ha
end ZC
theorem zo_through_ok {N : Nat} (hN : 5000 ≤ N) : zo_through N zInv := by
  intro I R a1 hI
  obtain ⟨q, S, nu, pr, T, na, A, ns, sn, st, nt, tp, fp, im, hR, hO, hC, hM⟩ := hI
  have hR : sR R q := hR
  have hC : zCi q S nu T na A ns sn st nt tp fp im I := hC
  have hM : zMi S nu T na A ns sn st nt tp fp im I := hM
  obtain ⟨hso, h7, ⟨hT1, hT2, hT3, hT4⟩, hAk, hNk, hTp, hIm⟩ := id hO
  have h6 := hso.1
  have hpo : ∀ p, p < nu → z_pok S (T.2.2 p) := fun p hp => (hT4 p hp).1
  have haw : ∀ p, p < nu → T.2.2 p 4 < 2 ^ 30 := fun p hp => (hpo p hp).2.2.2.2.1
  obtain ⟨c1, c2, c3, c4, c5, c6, c7, c8, c9, c10⟩ := id hC
  have cS1 := c1.1
  have cV1 := c2.1
  have hq := hR.q
  have ht := q_t hR
  have hM0 := zcd_M hM 0
  obtain ⟨d1, d2, d3, d4, d5, d6, d7, d8, d9, d10⟩ := id hM0
  rcases zrx a1 nu with ⟨p, hp, rfl⟩ | hx
  · have hq9 := sR_q hR
    have e1 := c_pupil_in (N := N) hR c2 h7 hp
    have e2 := m_isPupil (N := N) hR h7 d2 (nI p)
    rw [nI_toInt (by omega), if_pos (by omega)] at e2
    have kp := q_t9 hR (show p < 7 by omega)
    have pl := c2.2 p hp
    rw [show q + 7 + 2 + p = q + 9 + p by omega] at pl
    obtain ⟨W, hW⟩ : ∃ W : Nat → Nat → zP, ∀ i, W i = z_tv S nu T.2.1 p T.2.2 i := ⟨_, fun _ => rfl⟩
    have hW0 : W 0 = T.2.2 := hW 0
    have hWs : ∀ i, W (i + 1) = z_tg S nu T.2.1 p (W i) := fun i => by rw [hW, hW]; rfl
    have e5 := c_openTo hN ht c2 h7 haw c4 hT3 kp pl (haw p hp)
    obtain ⟨J0, b1, b2, b3⟩ := c_become (N := N) (R := R) kp kd_57 (by omega) pl
    have b3 : zfr [57, q + 6, q + 16] I J0 := zfr_mono b3 (by simp)
    have hnh : ∀ i, z_pok S (W i p) → z_nh S (W i p) ≤ 99 := fun i ho => by
      unfold z_nh
      split
      · rename_i h
        exact ((hso.2.1 _ ho.2.2.1).2.2.2 _ h).2
      · omega
    have mono : ∀ i, i ≤ 30 → z_fr nu (W i) T.2.1 (W i p) < 2 ^ (30 - i) → z_fr nu (W i) T.2.1 (W i p) ≠ 0 → i + 1 ≤ 30 ∧ z_fr nu (W (i + 1)) T.2.1 (W (i + 1) p) < 2 ^ (30 - (i + 1)) := fun i hi hm h0 => by
      obtain ⟨t, f1, f2, f3, e3, e4, e5, e6, e7⟩ := z_tg_fr (S := S) hp hm h0
      rw [hWs]
      refine ⟨by omega, Nat.lt_of_lt_of_le e7 (Nat.pow_le_pow_right (by omega) (by omega))⟩
    obtain ⟨vl, hvl⟩ : ∃ vl : Option Nat → Int32, ∀ o, vl o = (match o with | none => -nI 1 | some i => if z_nh S (W i p) ≤ W i p 0 then nI i else -nI 1) := ⟨_, fun _ => rfl⟩
    have L := zfs_loop (fun n i (s : Int32 × (Nat → Nat → Int32)) => f_X11_through_29 N R n 0 s.1 (nI i) s.2) (fun i => decide (z_nh S (W i p) ≤ W i p 0 ∨ z_fr nu (W i) T.2.1 (W i p) = 0)) (fun i s => i ≤ 30 ∧ s.1 = nI (z_fr nu (W i) T.2.1 (W i p)) ∧ z_fr nu (W i) T.2.1 (W i p) < 2 ^ (30 - i) ∧ (∀ a, a < nu → z_pok S (W i a)) ∧ zPl (W i p) (s.2 57) ∧ zfr [57, q + 6, q + 16] I s.2) (fun o y => y.1 = .inl (vl o) ∧ zfr [57, q + 6, q + 16] I y.2) 31
      (fun n s hs => absurd hs.1 (by omega))
      (fun n i s hi hs hc => by
        obtain ⟨a, s⟩ := s
        obtain ⟨s1, s2, s3, s4, s5, s6⟩ := hs
        have s2 : a = _ := s2
        subst s2
        have hc := of_decide_eq_true hc
        have s5 : zPl (W i p) (s 57) := s5
        have s6 : zfr [57, q + 6, q + 16] I s := s6
        have e1 := c_nextHard (N := N) hR.q hso (zW_S hR s6 c1) kd_57 s5 (s4 p hp)
        have l0 := s5 0 (by omega)
        have n9 := hnh i (s4 p hp)
        have k9 := (s4 p hp).1
        by_cases h1 : z_nh S (W i p) ≤ W i p 0
        · refine ⟨(.inl (nI i), s), ?_, by rw [hvl]; exact congrArg Sum.inl (if_pos h1).symm, s6⟩
          simp (disch := omega) only [f_X11_through_29, kd_0, hR.2.2.1, q_k0 hR, r0_8 hR, kd_57, e1, l0, zl_0, zl_30, nI_ltI, gd_t, gd_pos, lt_eq, Option.bind_some, true_and, and_true, not_true, not_false_iff, false_or, or_false, if_true, if_false, if_pos, if_neg, zcd]
        · have h2 : z_fr nu (W i) T.2.1 (W i p) = 0 := by omega
          refine ⟨(.inl (-nI 1), s), ?_, by rw [hvl]; exact congrArg Sum.inl (if_neg h1).symm, s6⟩
          try dsimp only
          rw [h2]
          simp (disch := omega) only [f_X11_through_29, kd_0, hR.2.2.1, q_k0 hR, r0_8 hR, kd_57, e1, l0, zl_0, zl_1, zl_30, nI_ltI, gd_t, gd_pos, lt_eq, Option.bind_some, true_and, and_true, not_true, not_false_iff, false_or, or_false, if_true, if_false, if_pos, if_neg, zcd])
      (fun n i s hi hs hc => by
        obtain ⟨a, s⟩ := s
        obtain ⟨s1, s2, s3, s4, s5, s6⟩ := hs
        have s2 : a = _ := s2
        subst s2
        have hc : ¬ (z_nh S (W i p) ≤ W i p 0 ∨ z_fr nu (W i) T.2.1 (W i p) = 0) := fun h => hc (decide_eq_true h)
        have hc1 : ¬ z_nh S (W i p) ≤ W i p 0 := fun h => hc (Or.inl h)
        have hc2 : ¬ z_fr nu (W i) T.2.1 (W i p) = 0 := fun h => hc (Or.inr h)
        have s5 : zPl (W i p) (s 57) := s5
        have s6 : zfr [57, q + 6, q + 16] I s := s6
        have e1 := c_nextHard (N := N) hR.q hso (zW_S hR s6 c1) kd_57 s5 (s4 p hp)
        have l0 := s5 0 (by omega)
        have n9 := hnh i (s4 p hp)
        have k9 := (s4 p hp).1
        have x30 : z_fr nu (W i) T.2.1 (W i p) < 2 ^ 30 := zbt_lt _ 30
        obtain ⟨J, k1, k2, k3⟩ := c_gtl hN hR hso (zW_S hR s6 c1) hp s5 (s4 p hp) s3 hc2
        rw [← hWs] at k1 k2
        obtain ⟨m1, m2⟩ := mono i s1 s3 hc2
        refine ⟨(nI (z_fr nu (W (i + 1)) T.2.1 (W (i + 1) p)), J), ?_, m1, rfl, m2, by rw [hWs]; exact z_tg_pok hp s4 s3 hc2, k2, zfr_trans s6 k3⟩
        try dsimp only
        simp (disch := omega) only [f_X11_through_29, kd_0, hR.2.2.1, q_k0 hR, r0_8 hR, kd_57, e1, l0, k1, zl_0, zl_1, zl_30, nI_ltI, nI_eq, nI_add, gd_t, gd_pos, lt_eq, Option.bind_some, true_and, and_true, not_true, not_false_iff, false_or, or_false, if_true, if_false, if_pos, if_neg, zcd]) 31 0 (nI (z_fr nu T.2.2 T.2.1 (T.2.2 p)), J0) N (by omega) (by omega) ⟨by omega, by rw [hW0], by rw [hW0]; exact zbt_lt _ 30, by rw [hW0]; exact hpo, by rw [hW0]; exact b2, b3⟩
    obtain ⟨⟨v, J⟩, j1, j2, j4⟩ := L
    have j2 : v = _ := j2
    subst j2
    have hJ := zW_s j4
    have hMJ := zMq hR hM hJ
    have f2 := m_isPupil (N := N) hR h7 hMJ.2.1 (nI p)
    rw [nI_toInt (by omega), if_pos (by omega)] at f2
    obtain ⟨X, x1, x2, x3, x4, x5⟩ := m_pk0 hN hR h7 hMJ
    have L := zfs_loop (fun n i s => f_X12_through_32 N R n 80 (nI p) (nI i) (nI 1) s) (fun i => decide (z_nh S (W i p) ≤ W i p 0 ∨ z_fr nu (W i) T.2.1 (W i p) = 0)) (fun i s => i ≤ 30 ∧ z_fr nu (W i) T.2.1 (W i p) < 2 ^ (30 - i) ∧ (∀ a, a < nu → z_pok S (W i a)) ∧ zMV nu (W i) s ∧ s 80 32 = nI T.2.1 ∧ zfm zLd zFd X s) (fun o y => y.1 = vl o ∧ zMi S nu T na A ns sn st nt tp fp im y.2 ∧ zfm zLd zFd X y.2) 31
      (fun n s hs => absurd hs.1 (by omega))
      (fun n i s hi hs hc => by
        obtain ⟨s1, s3, s4, s5, s7, s6⟩ := hs
        have hc := of_decide_eq_true hc
        have hS2 := zMS_fr x2.1 s6 (by decide)
        have e1 := m_nextHard (N := N) hR hso hS2 s5 h7 hp (s4 p hp)
        have l0 := (s5.2 p hp).1
        have n9 := hnh i (s4 p hp)
        have k9 := (s4 p hp).1
        obtain ⟨L, l1, l2, l3⟩ := m_back2 hN hR h7 x2 x3 s6
        by_cases h1 : z_nh S (W i p) ≤ W i p 0
        · refine ⟨(nI i, L), ?_, by rw [hvl]; exact (if_pos h1).symm, l2, l3⟩
          simp (disch := omega) only [f_X12_through_32, f_X12_through_85, kd_80, r80_37 hR, kd_103, r80_25 hR, kd_95, e1, l0, l1, zl_0, nI_ltI, nI_leI, nI_eq, nI_clamp, gd_t, gd_pos, lt_eq, Option.bind_some, true_and, and_true, not_true, not_false_iff, false_or, or_false, if_true, if_false, if_pos, if_neg, zcd]
        · have h2 : z_fr nu (W i) T.2.1 (W i p) = 0 := by omega
          have e2 := m_lastFree hN hR s5 h7 (fun a ha => (s4 a ha).2.2.2.2.1) s7 hT3 hp
          rw [z_fr_0 h2] at e2
          refine ⟨(-nI 1, L), ?_, by rw [hvl]; exact (if_neg h1).symm, l2, l3⟩
          simp (disch := omega) only [f_X12_through_32, f_X12_through_85, f_X12_through_67, kd_80, r80_37 hR, kd_103, r80_25 hR, kd_95, e1, e2, l0, l1, zl_0, zl_1, nI_ltI, nI_leI, nI_eq, nI_clamp, gd_t, gd_pos, lt_eq, Option.bind_some, true_and, and_true, not_true, not_false_iff, false_or, or_false, if_true, if_false, if_pos, if_neg, zcd])
      (fun n i s hi hs hc => by
        obtain ⟨s1, s3, s4, s5, s7, s6⟩ := hs
        have hc : ¬ (z_nh S (W i p) ≤ W i p 0 ∨ z_fr nu (W i) T.2.1 (W i p) = 0) := fun h => hc (decide_eq_true h)
        have hc1 : ¬ z_nh S (W i p) ≤ W i p 0 := fun h => hc (Or.inl h)
        have hc2 : ¬ z_fr nu (W i) T.2.1 (W i p) = 0 := fun h => hc (Or.inr h)
        have hS2 := zMS_fr x2.1 s6 (by decide)
        have e1 := m_nextHard (N := N) hR hso hS2 s5 h7 hp (s4 p hp)
        have l0 := (s5.2 p hp).1
        have n9 := hnh i (s4 p hp)
        have k9 := (s4 p hp).1
        have e2 := m_lastFree hN hR s5 h7 (fun a ha => (s4 a ha).2.2.2.2.1) s7 hT3 hp
        obtain ⟨t, f1, f2, f3, -, -, e5, -, -⟩ := z_tg_fr (S := S) hp s3 hc2
        rw [f3] at e2
        obtain ⟨K, k1, k2, k3⟩ := m_go hN hR hso hS2 s5 h7 hp (s4 p hp) (j := t + 1) (by omega) (by omega)
        rw [← e5, ← hWs] at k2
        obtain ⟨m1, m2⟩ := mono i s1 s3 hc2
        refine ⟨K, ?_, m1, m2, by rw [hWs]; exact z_tg_pok hp s4 s3 hc2, k2, by rw [k3.2 32 (by simp)]; exact s7, zfm_trans s6 (zfm_d k3 (by decide) (by decide))⟩
        simp (disch := omega) only [f_X12_through_32, f_X12_through_67, kd_80, r80_25 hR, kd_95, e1, e2, l0, k1, zl_0, zl_1, nI_ltI, nI_leI, nI_eq, nI_clamp, nI_add, gd_t, gd_pos, lt_eq, Option.bind_some, true_and, and_true, not_true, not_false_iff, false_or, or_false, if_true, if_false, if_pos, if_neg, zcd]) 31 0 X N (by omega) (by omega) ⟨by omega, by rw [hW0]; exact zbt_lt _ 30, by rw [hW0]; exact hpo, by rw [hW0]; exact x2.2.1, x2.2.2.2.1, zfm_refl _ _ _⟩
    obtain ⟨⟨v, L1⟩, l1, l2, l3, l4⟩ := L
    have l2 : v = _ := l2
    subst l2
    obtain ⟨l5, l6⟩ := zDl l4
    have l5 : L1 80 3 = nI 0 := (l5.trans x4).trans (zcd_3 J 0)
    refine ⟨_, J, _, L1, Eq.trans ?_ j1, Eq.trans ?_ l1, ag_ok _ _ _ l5, zInv_q hR hO hC hJ l3 (fun k hk => ((l6 k hk).trans (x5 k hk)).trans (zcd_lo J 0 k hk))⟩
    · simp (disch := omega) only [f_X11_through, kd_0, hR.2.2.1, q_k0 hR, q_r5 hR, q_t0 hR, r0_8 hR, kd_57, e1, e5, b1, tb_l, zl_0, gd_t, gd_pos, lt_eq, Option.bind_some, true_and, and_true, not_true, not_false_iff, false_or, or_false, if_true, if_false, if_pos, if_neg, zcd]
    · simp (disch := omega) only [f_X12_through, kd_80, zl_0, zl_1, f2, r80_37 hR, kd_103, x1, nI_eq, gd_t, gd_pos, lt_eq, Option.bind_some, true_and, and_true, not_true, not_false_iff, false_or, or_false, if_true, if_false, if_pos, if_neg, zcd]
  · have e1 := c_pupil_out (N := N) hR c2 h7 hx
    have e2 := m_isPupil (N := N) hR h7 d2 a1
    rw [if_neg (by omega)] at e2
    refine ⟨_, I, 0, zcd I 1, ?_, ?_, ag_n _ _ (zcd_3 I 1), zInv_q hR hO hC (zfr_refl _ _) (zcd_M hM 1) (zcd_lo I 1)⟩
    · simp (disch := omega) only [f_X11_through, kd_0, hR.2.2.1, q_k0 hR, q_r5 hR, q_t0 hR, e1, tb_r, tb_l, gd_t, gd_pos, lt_eq, Option.bind_some, true_and, and_true, not_true, not_false_iff, false_or, or_false, if_true, if_false, if_pos, if_neg, zcd]
    · simp (disch := omega) only [f_X12_through, kd_80, zl_0, zl_1, e2, m_fail, gd_t, gd_pos, lt_eq, Option.bind_some, true_and, and_true, not_true, not_false_iff, false_or, or_false, if_true, if_false, if_pos, if_neg, zcd, up_s, up_n, up_uu, nI_eq]
