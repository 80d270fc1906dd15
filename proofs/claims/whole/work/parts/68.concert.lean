/-! ===== PURE PART: concert ===== -/
abbrev z_ahb (M : Nat) (V : Nat → zP) (p j : Nat) : Prop := M / 2 ^ j % 2 = 1 ∧ (V j 0 < V p 0 ∨ V j 0 = V p 0 ∧ j < p)
def z_ah (M : Nat) (V : Nat → zP) (p : Nat) : Nat → Nat := zsm (fun j => if z_ahb M V p j then 1 else 0)
section ZC
variable {N : Nat} {R : Nat → Nat → Nat} {q : Nat} {S : zS} {nu : Nat} {V : Nat → zP} {I : Nat → Nat → Int32}
set_option maxHeartbeats 4000000 in
theorem c_play (hN : 5000 ≤ N) (hR : sR R q) (hV : zCV nu V (q + 7) I) (h7 : nu ≤ 7) (h9 : ∀ p, p < nu → V p 0 ≤ 99) {M p : Nat} (hM : M < 2 ^ 31) (hp : p < nu) : f_X11_playAhead N R 0 (nI p) (nI M) I = some (nI (z_ah M V p nu), I) := by
  have hV1 := hV.1
  have l0 := hV.2 p hp 0 (by omega)
  have kp := q_t4 hR p (by omega)
  have p9 := h9 p hp
  have L := zu_loop (fun n i a => f_X11_playAhead_22 N R n 0 (nI p) (nI M) (nI (V p 0)) a (nI i) I) (fun i => nI (z_ah M V p i)) (nI (z_ah M V p nu), I) nu
    (fun n => by simp (disch := omega) only [f_X11_playAhead_22, kd_0, hR.2.2.1, q_k0 hR, q_r5 hR, q_t0 hR, hV1, nI_leI, gd_t, gd_pos, lt_eq, Option.bind_some, true_and, and_true, not_true, not_false_iff, false_or, or_false, if_true, if_false, if_pos, if_neg, zcd])
    (fun n i hi => by
      have l1 := hV.2 i hi 0 (by omega)
      have ki := q_t4 hR i (by omega)
      have i9 := h9 i hi
      have e9 : z_ah M V p (i + 1) = z_ah M V p i + (if z_ahb M V p i then 1 else 0) := rfl
      have eb := zb_bit hM (j := i) (by omega)
      by_cases hb : M / 2 ^ i % 2 = 1
      · rw [hb] at eb
        by_cases h1 : V i 0 < V p 0
        · rw [if_pos (show z_ahb M V p i from ⟨hb, by omega⟩)] at e9
          rw [e9]
          simp (disch := omega) only [f_X11_playAhead_22, f_X11_playAhead_78, kd_0, hR.2.2.1, q_k0 hR, q_r5 hR, q_t0 hR, q_t1 hR, q_t2 hR, q_t3 hR, hV1, l1, ki, eb, zl_0, zl_1, nI_leI, nI_ltI, nI_eq, nI_clamp, nI_add, Nat.add_zero, gd_t, gd_pos, lt_eq, Option.bind_some, true_and, and_true, not_true, not_false_iff, false_or, or_false, if_true, if_false, if_pos, if_neg, zcd]
        · by_cases h2 : V i 0 = V p 0 ∧ i < p
          · rw [if_pos (show z_ahb M V p i from ⟨hb, by omega⟩)] at e9
            rw [e9]
            simp (disch := omega) only [f_X11_playAhead_22, f_X11_playAhead_78, kd_0, hR.2.2.1, q_k0 hR, q_r5 hR, q_t0 hR, q_t1 hR, q_t2 hR, q_t3 hR, hV1, l1, ki, eb, zl_0, zl_1, nI_leI, nI_ltI, nI_eq, nI_clamp, nI_add, Nat.add_zero, gd_t, gd_pos, lt_eq, Option.bind_some, true_and, and_true, not_true, not_false_iff, false_or, or_false, if_true, if_false, if_pos, if_neg, zcd]
          · rw [if_neg (show ¬ z_ahb M V p i from fun h => by have := h.2; omega)] at e9
            rw [e9]
            by_cases h3 : V i 0 = V p 0
            · simp (disch := omega) only [f_X11_playAhead_22, f_X11_playAhead_78, kd_0, hR.2.2.1, q_k0 hR, q_r5 hR, q_t0 hR, q_t1 hR, q_t2 hR, q_t3 hR, hV1, l1, ki, eb, zl_0, zl_1, nI_leI, nI_ltI, nI_eq, nI_clamp, nI_add, Nat.add_zero, gd_t, gd_pos, lt_eq, Option.bind_some, true_and, and_true, not_true, not_false_iff, false_or, or_false, if_true, if_false, if_pos, if_neg, zcd]
            · simp (disch := omega) only [f_X11_playAhead_22, f_X11_playAhead_78, kd_0, hR.2.2.1, q_k0 hR, q_r5 hR, q_t0 hR, q_t1 hR, q_t2 hR, q_t3 hR, hV1, l1, ki, eb, zl_0, zl_1, nI_leI, nI_ltI, nI_eq, nI_clamp, nI_add, Nat.add_zero, gd_t, gd_pos, lt_eq, Option.bind_some, true_and, and_true, not_true, not_false_iff, false_or, or_false, if_true, if_false, if_pos, if_neg, zcd]
      · rw [if_neg (show ¬ z_ahb M V p i from fun h => hb h.1)] at e9
        rw [e9]
        have hb0 : M / 2 ^ i % 2 = 0 := by omega
        rw [hb0] at eb
        by_cases h1 : V i 0 < V p 0
        · simp (disch := omega) only [f_X11_playAhead_22, f_X11_playAhead_78, kd_0, hR.2.2.1, q_k0 hR, q_r5 hR, q_t0 hR, q_t1 hR, q_t2 hR, q_t3 hR, hV1, l1, ki, eb, zl_0, zl_1, nI_leI, nI_ltI, nI_eq, nI_clamp, nI_add, Nat.add_zero, gd_t, gd_pos, lt_eq, Option.bind_some, true_and, and_true, not_true, not_false_iff, false_or, or_false, if_true, if_false, if_pos, if_neg, zcd]
        · by_cases h3 : V i 0 = V p 0
          · by_cases h4 : p ≤ i
            · simp (disch := omega) only [f_X11_playAhead_22, f_X11_playAhead_78, kd_0, hR.2.2.1, q_k0 hR, q_r5 hR, q_t0 hR, q_t1 hR, q_t2 hR, q_t3 hR, hV1, l1, ki, eb, zl_0, zl_1, nI_leI, nI_ltI, nI_eq, nI_clamp, nI_add, Nat.add_zero, gd_t, gd_pos, lt_eq, Option.bind_some, true_and, and_true, not_true, not_false_iff, false_or, or_false, if_true, if_false, if_pos, if_neg, zcd]
            · simp (disch := omega) only [f_X11_playAhead_22, f_X11_playAhead_78, kd_0, hR.2.2.1, q_k0 hR, q_r5 hR, q_t0 hR, q_t1 hR, q_t2 hR, q_t3 hR, hV1, l1, ki, eb, zl_0, zl_1, nI_leI, nI_ltI, nI_eq, nI_clamp, nI_add, Nat.add_zero, gd_t, gd_pos, lt_eq, Option.bind_some, true_and, and_true, not_true, not_false_iff, false_or, or_false, if_true, if_false, if_pos, if_neg, zcd]
          · simp (disch := omega) only [f_X11_playAhead_22, f_X11_playAhead_78, kd_0, hR.2.2.1, q_k0 hR, q_r5 hR, q_t0 hR, q_t1 hR, q_t2 hR, q_t3 hR, hV1, l1, ki, eb, zl_0, zl_1, nI_leI, nI_ltI, nI_eq, nI_clamp, nI_add, Nat.add_zero, gd_t, gd_pos, lt_eq, Option.bind_some, true_and, and_true, not_true, not_false_iff, false_or, or_false, if_true, if_false, if_pos, if_neg, zcd]) nu 0 N (by omega) (by omega)
  refine Eq.trans ?_ L
  simp (disch := omega) only [f_X11_playAhead, kd_0, hR.2.2.1, q_k0 hR, q_r5 hR, q_t0 hR, q_t1 hR, q_t2 hR, q_t3 hR, l0, kp, zl_0, nI_leI, nI_ltI, nI_clamp, gd_t, gd_pos, lt_eq, Option.bind_some, true_and, and_true, not_true, not_false_iff, false_or, or_false, if_true, if_false, if_pos, if_neg, zcd]
  try rfl
def z_cc (M : Nat) (V : Nat → zP) (nu : Nat) (x : Int32) (i : Nat) : Bool := decide (M / 2 ^ i % 2 = 1 ∧ nI (z_ah M V i nu) = x)
theorem c_conc (hN : 5000 ≤ N) (hR : sR R q) (hV : zCV nu V (q + 7) I) (h7 : nu ≤ 7) (h9 : ∀ p, p < nu → V p 0 ≤ 99) {M : Nat} (hM : M < 2 ^ 31) (x : Int32) : f_X11_concert_53 N R N 0 x (nI M) (nI 0) I = some (.inl (zn1 (zfs (z_cc M V nu x) nu 0)), I) := by
  have hV1 := hV.1
  have L := zfs_loop (fun n i (_ : Unit) => f_X11_concert_53 N R n 0 x (nI M) (nI i) I) (z_cc M V nu x) (fun _ _ => True) (fun o y => y = (.inl (zn1 o), I)) nu
    (fun n s _ => ⟨(.inl (-1), I), by simp (disch := omega) only [f_X11_concert_53, kd_0, hR.2.2.1, q_k0 hR, q_r5 hR, q_t0 hR, hV1, nI_leI, gd_t, gd_pos, lt_eq, Option.bind_some, true_and, and_true, not_true, not_false_iff, false_or, or_false, if_true, if_false, if_pos, if_neg, zcd], rfl⟩)
    (fun n i s hi _ hc => by
      have hc := of_decide_eq_true hc
      have e := c_play hN hR hV h7 h9 hM hi
      have eb := zb_bit hM (j := i) (by omega)
      rw [hc.1] at eb
      have hx := hc.2
      exact ⟨(.inl (nI i), I), by simp (disch := omega) only [f_X11_concert_53, kd_0, hR.2.2.1, q_k0 hR, q_r5 hR, q_t0 hR, hV1, eb, e, hx, zl_1, nI_leI, gd_t, gd_pos, lt_eq, Option.bind_some, true_and, and_true, not_true, not_false_iff, false_or, or_false, if_true, if_false, if_pos, if_neg, zcd], rfl⟩)
    (fun n i s hi _ hc => by
      have hc : ¬ (M / 2 ^ i % 2 = 1 ∧ nI (z_ah M V i nu) = x) := fun h => hc (decide_eq_true h)
      have e := c_play hN hR hV h7 h9 hM hi
      have eb := zb_bit hM (j := i) (by omega)
      refine ⟨(), ?_, trivial⟩
      by_cases hb : M / 2 ^ i % 2 = 1
      · rw [hb] at eb
        have hx : ¬ nI (z_ah M V i nu) = x := fun h => hc ⟨hb, h⟩
        simp (disch := omega) only [f_X11_concert_53, kd_0, hR.2.2.1, q_k0 hR, q_r5 hR, q_t0 hR, hV1, eb, e, hx, zl_1, nI_leI, nI_add, gd_t, gd_pos, lt_eq, Option.bind_some, true_and, and_true, not_true, not_false_iff, false_or, or_false, if_true, if_false, if_pos, if_neg, zcd]
      · rw [show M / 2 ^ i % 2 = 0 by omega] at eb
        simp (disch := omega) only [f_X11_concert_53, kd_0, hR.2.2.1, q_k0 hR, q_r5 hR, q_t0 hR, hV1, eb, zl_1, nI_leI, nI_eq, nI_add, gd_t, gd_pos, lt_eq, Option.bind_some, true_and, and_true, not_true, not_false_iff, false_or, or_false, if_true, if_false, if_pos, if_neg, zcd]) nu 0 () N (by omega) (by omega) trivial
  obtain ⟨y, l1, l2⟩ := L
  rw [l2] at l1
  exact l1
set_option maxHeartbeats 4000000 in
theorem m_c66 (hN : 5000 ≤ N) (hR : sR R q) (hV : zMV nu V I) (h7 : nu ≤ 7) (h9 : ∀ p, p < nu → V p 0 ≤ 99) {M p : Nat} (hM : M < 2 ^ 31) (hp : p < nu) (x : Int32) (kk : Nat → Int32 → Int32 → Int32 → (Nat → Nat → Int32) → Option (Int32 × (Nat → Nat → Int32))) : f_X12_concert_66 N R kk N 80 x (nI M) (nI p) (nI 0) (nI 0) I = if M / 2 ^ p % 2 = 1 ∧ nI (z_ah M V p nu) = x then some (nI p, I) else kk 80 x (nI M) (nI (p + 1)) I := by
  have hV1 := hV.1
  have p9 := h9 p hp
  have l0 := (hV.2 p hp).1
  exact zu_loop2 (fun n i a => f_X12_concert_66 N R kk n 80 x (nI M) (nI p) a (nI i) I) (fun i => nI (z_ah M V p i)) (if M / 2 ^ p % 2 = 1 ∧ nI (z_ah M V p nu) = x then some (nI p, I) else kk 80 x (nI M) (nI (p + 1)) I) nu
    (fun n => by
      have e := m_isOf (N := N) (R := R) (I := I) hM (j := p) (by omega)
      by_cases hb : M / 2 ^ p % 2 = 1
      · rw [if_pos hb] at e
        by_cases hx : nI (z_ah M V p nu) = x
        · rw [if_pos ⟨hb, hx⟩]
          simp (disch := omega) only [f_X12_concert_66, kd_80, r80_4 hR, kd_84, hV1, e, hx, zl_0, zl_1, nI_leI, nI_ltI, nI_eq, nI_clamp, nI_add, gd_t, gd_pos, lt_eq, Option.bind_some, true_and, and_true, not_true, not_false_iff, false_or, or_false, if_true, if_false, if_pos, if_neg, zcd]
        · rw [if_neg (fun h => hx h.2)]
          simp (disch := omega) only [f_X12_concert_66, kd_80, r80_4 hR, kd_84, hV1, e, hx, if_false, zl_0, zl_1, nI_leI, nI_ltI, nI_eq, nI_clamp, nI_add, gd_t, gd_pos, lt_eq, Option.bind_some, true_and, and_true, not_true, not_false_iff, false_or, or_false, if_true, if_false, if_pos, if_neg, zcd]
      · rw [if_neg hb] at e
        rw [if_neg (fun h => hb h.1)]
        simp (disch := omega) only [f_X12_concert_66, kd_80, r80_4 hR, kd_84, hV1, e, zl_0, zl_1, nI_leI, nI_ltI, nI_eq, nI_clamp, nI_add, gd_t, gd_pos, lt_eq, Option.bind_some, true_and, and_true, not_true, not_false_iff, false_or, or_false, if_true, if_false, if_pos, if_neg, zcd])
    (fun n i hi => by
      have e := m_isOf (N := N) (R := R) (I := I) hM (j := i) (by omega)
      have l1 := (hV.2 i hi).1
      have i9 := h9 i hi
      have e9 : z_ah M V p (i + 1) = z_ah M V p i + (if z_ahb M V p i then 1 else 0) := rfl
      by_cases hb : M / 2 ^ i % 2 = 1
      · rw [if_pos hb] at e
        by_cases h1 : V i 0 < V p 0
        · rw [if_pos (show z_ahb M V p i from ⟨hb, by omega⟩)] at e9
          rw [e9]
          simp (disch := omega) only [f_X12_concert_66, kd_80, r80_4 hR, kd_84, r80_25 hR, kd_95, hV1, e, l0, l1, zl_0, zl_1, nI_leI, nI_ltI, nI_eq, nI_clamp, nI_add, gd_t, gd_pos, lt_eq, Option.bind_some, true_and, and_true, not_true, not_false_iff, false_or, or_false, if_true, if_false, if_pos, if_neg, zcd]
        · by_cases h2 : V i 0 = V p 0 ∧ i < p
          · rw [if_pos (show z_ahb M V p i from ⟨hb, by omega⟩)] at e9
            rw [e9]
            simp (disch := omega) only [f_X12_concert_66, kd_80, r80_4 hR, kd_84, r80_25 hR, kd_95, hV1, e, l0, l1, zl_0, zl_1, nI_leI, nI_ltI, nI_eq, nI_clamp, nI_add, gd_t, gd_pos, lt_eq, Option.bind_some, true_and, and_true, not_true, not_false_iff, false_or, or_false, if_true, if_false, if_pos, if_neg, zcd]
          · rw [if_neg (show ¬ z_ahb M V p i from fun h => by have := h.2; omega)] at e9
            rw [e9]
            by_cases h3 : V i 0 = V p 0
            · simp (disch := omega) only [f_X12_concert_66, kd_80, r80_4 hR, kd_84, r80_25 hR, kd_95, hV1, e, l0, l1, zl_0, zl_1, nI_leI, nI_ltI, nI_eq, nI_clamp, nI_add, gd_t, gd_pos, lt_eq, Option.bind_some, true_and, and_true, not_true, not_false_iff, false_or, or_false, if_true, if_false, if_pos, if_neg, zcd]
            · simp (disch := omega) only [f_X12_concert_66, kd_80, r80_4 hR, kd_84, r80_25 hR, kd_95, hV1, e, l0, l1, zl_0, zl_1, nI_leI, nI_ltI, nI_eq, nI_clamp, nI_add, gd_t, gd_pos, lt_eq, Option.bind_some, true_and, and_true, not_true, not_false_iff, false_or, or_false, if_true, if_false, if_pos, if_neg, zcd]
      · rw [if_neg hb] at e
        rw [if_neg (show ¬ z_ahb M V p i from fun h => hb h.1)] at e9
        rw [e9]
        simp (disch := omega) only [f_X12_concert_66, kd_80, r80_4 hR, kd_84, hV1, e, zl_0, zl_1, nI_leI, nI_ltI, nI_eq, nI_clamp, nI_add, gd_t, gd_pos, lt_eq, Option.bind_some, true_and, and_true, not_true, not_false_iff, false_or, or_false, if_true, if_false, if_pos, if_neg, zcd]) nu 0 N (by omega) (by omega)
theorem m_conc (hN : 5000 ≤ N) (hR : sR R q) (hV : zMV nu V I) (h7 : nu ≤ 7) (h9 : ∀ p, p < nu → V p 0 ≤ 99) {M : Nat} (hM : M < 2 ^ 31) (x : Int32) : f_X12_concert_49 N R N 80 x (nI M) (nI 0) I = some (zn1 (zfs (z_cc M V nu x) nu 0), I) := by
  have hV1 := hV.1
  have L := zfs_loop (fun n i (_ : Unit) => f_X12_concert_49 N R n 80 x (nI M) (nI i) I) (z_cc M V nu x) (fun _ _ => True) (fun o y => y = (zn1 o, I)) nu
    (fun n s _ => ⟨(-1, I), by simp (disch := omega) only [f_X12_concert_49, kd_80, r80_4 hR, kd_84, hV1, zl_0, zl_1, nI_leI, nI_ltI, nI_clamp, gd_t, gd_pos, lt_eq, Option.bind_some, true_and, and_true, not_true, not_false_iff, false_or, or_false, if_true, if_false, if_pos, if_neg, zcd], rfl⟩)
    (fun n i s hi _ hc => by
      have hc := of_decide_eq_true hc
      have e := m_c66 hN hR hV h7 h9 hM hi x (fun z0 z1 z2 z3 J => f_X12_concert_49 N R (n + 1) z0 z1 z2 z3 J)
      rw [if_pos hc] at e
      refine ⟨(nI i, I), Eq.trans ?_ e, rfl⟩
      simp (disch := omega) only [f_X12_concert_49, kd_80, r80_4 hR, kd_84, hV1, zl_0, zl_1, nI_leI, nI_ltI, nI_clamp, gd_t, gd_pos, lt_eq, Option.bind_some, true_and, and_true, not_true, not_false_iff, false_or, or_false, if_true, if_false, if_pos, if_neg, zcd])
    (fun n i s hi _ hc => by
      have hc : ¬ (M / 2 ^ i % 2 = 1 ∧ nI (z_ah M V i nu) = x) := fun h => hc (decide_eq_true h)
      have e := m_c66 hN hR hV h7 h9 hM hi x (fun z0 z1 z2 z3 J => f_X12_concert_49 N R n z0 z1 z2 z3 J)
      rw [if_neg hc] at e
      refine ⟨(), Eq.trans ?_ e, trivial⟩
      simp (disch := omega) only [f_X12_concert_49, kd_80, r80_4 hR, kd_84, hV1, zl_0, zl_1, nI_leI, nI_ltI, nI_clamp, gd_t, gd_pos, lt_eq, Option.bind_some, true_and, and_true, not_true, not_false_iff, false_or, or_false, if_true, if_false, if_pos, if_neg, zcd]) nu 0 () N (by omega) (by omega) trivial
  obtain ⟨y, l1, l2⟩ := L
  rw [l2] at l1
  exact l1
end ZC
theorem zo_concert_ok {N : Nat} (hN : 5000 ≤ N) : zo_concert N zInv := by
  intro I R a1 a2 hI
  obtain ⟨q, S, nu, pr, T, na, A, ns, sn, st, nt, tp, fp, im, hR, hO, hC, hM⟩ := hI
  have hR : sR R q := hR
  have hC : zCi q S nu T na A ns sn st nt tp fp im I := hC
  have hM : zMi S nu T na A ns sn st nt tp fp im I := hM
  obtain ⟨hso, h7, ⟨hT1, hT2, hT3, hT4⟩, hAk, hNk, hTp, hIm⟩ := id hO
  have h6 := hso.1
  have hpo : ∀ p, p < nu → z_pok S (T.2.2 p) := fun p hp => (hT4 p hp).1
  have haw : ∀ p, p < nu → T.2.2 p 4 < 2 ^ 30 := fun p hp => (hpo p hp).2.2.2.2.1
  obtain ⟨c1, c2, c3, c4, c5, c6, c7, c8, c9, c10⟩ := id hC
  have cS1 := c1.1
  have cV1 := c2.1
  have hq := hR.q
  have ht := q_t hR
  have hM0 := zcd_M hM 0
  obtain ⟨d1, d2, d3, d4, d5, d6, d7, d8, d9, d10⟩ := id hM0
  have h9 : ∀ p, p < nu → T.2.2 p 0 ≤ 99 := fun p hp => (hpo p hp).1
  have dV2 := hM.2.1.1
  have hp2 : 2 ^ nu ≤ 2 ^ 7 := Nat.pow_le_pow_right (by omega) h7
  have hp1 : 0 < 2 ^ nu := Nat.two_pow_pos nu
  have bad : f_X11_concert N R 0 a1 a2 I = some (.inr "java/lang/IllegalArgumentException", I) → f_X12_concert N R 80 a1 a2 I = some (0, zcd I 1) → ∃ (y : Int32 ⊕ String) (J : Nat → Nat → Int32) (r : Int32) (K : Nat → Nat → Int32), f_X11_concert N R 0 a1 a2 I = some (y, J) ∧ f_X12_concert N R 80 a1 a2 J = some (r, K) ∧ zo_ag 0 1 y r (K 80 3) ∧ zInv (K, R) := fun h1 h2 => ⟨_, I, 0, zcd I 1, h1, h2, ag_i _ (zcd_3 I 1), zInv_q hR hO hC (zfr_refl _ _) (zcd_M hM 1) (zcd_lo I 1)⟩
  by_cases h0 : a2 < nI 0
  · exact bad (by simp (disch := omega) only [f_X11_concert, h0, zl_0, gd_t, gd_pos, lt_eq, Option.bind_some, true_and, and_true, not_true, not_false_iff, false_or, or_false, if_true, if_false, if_pos, if_neg, zcd]) (by simp (disch := omega) only [f_X12_concert, kd_80, h0, zl_0, zl_1, m_fail, gd_t, gd_pos, lt_eq, Option.bind_some, true_and, and_true, not_true, not_false_iff, false_or, or_false, if_true, if_false, if_pos, if_neg, zcd, up_s, up_n, up_uu])
  · rcases zrg a1 0 1 with ⟨v, -, hv, rfl⟩ | hx
    · have hv2 : v = 0 ∨ v = 1 := by omega
      rcases hv2 with rfl | rfl
      · have hl : z_ald S nu T.2.2 < 2 ^ nu := zbt_lt _ nu
        have e1 := c_whoseDone hN hR hso c1 c2 h7 hpo
        have e2 := m_allDone hN hR hso d1 d2 h7 hpo
        have e3 := c_conc hN hR c2 h7 h9 (M := z_ald S nu T.2.2) (by omega) a2
        have e4 := m_conc hN hR d2 h7 h9 (M := z_ald S nu T.2.2) (by omega) a2
        refine ⟨.inl (zn1 (zfs (z_cc (z_ald S nu T.2.2) T.2.2 nu a2) nu 0)), I, zn1 (zfs (z_cc (z_ald S nu T.2.2) T.2.2 nu a2) nu 0), zcd I 0, ?_, ?_, ag_ok _ _ _ (zcd_3 I 0), zInv_q hR hO hC (zfr_refl _ _) hM0 (zcd_lo I 0)⟩
        · simp (disch := omega) only [f_X11_concert, kd_0, h0, if_false, zl_0, zl_1, nI_ltI, nI_leI, e1, e3, gd_t, gd_pos, lt_eq, Option.bind_some, true_and, and_true, not_true, not_false_iff, false_or, or_false, if_true, if_false, if_pos, if_neg, zcd]
        · simp (disch := omega) only [f_X12_concert, kd_80, h0, if_false, zl_0, zl_1, nI_ltI, nI_leI, e2, e4, gd_t, gd_pos, lt_eq, Option.bind_some, true_and, and_true, not_true, not_false_iff, false_or, or_false, if_true, if_false, if_pos, if_neg, zcd]
      · have e3 := c_conc hN hR c2 h7 h9 (M := 2 ^ nu - 1) (by omega) a2
        have e4 := m_conc hN hR d2 h7 h9 (M := 2 ^ nu - 1) (by omega) a2
        refine ⟨.inl (zn1 (zfs (z_cc (2 ^ nu - 1) T.2.2 nu a2) nu 0)), I, zn1 (zfs (z_cc (2 ^ nu - 1) T.2.2 nu a2) nu 0), zcd I 0, ?_, ?_, ag_ok _ _ _ (zcd_3 I 0), zInv_q hR hO hC (zfr_refl _ _) hM0 (zcd_lo I 0)⟩
        · simp (disch := omega) only [f_X11_concert, kd_0, hR.2.2.1, q_k0 hR, q_r5 hR, q_t0 hR, cV1, h0, if_false, zl_0, zl_1, nI_ltI, nI_leI, nI_eq, zb_shl, pk_sub, e3, gd_t, gd_pos, lt_eq, Option.bind_some, true_and, and_true, not_true, not_false_iff, false_or, or_false, if_true, if_false, if_pos, if_neg, zcd]
        · simp (disch := omega) only [f_X12_concert, kd_80, r80_4 hR, kd_84, dV2, h0, if_false, zl_0, zl_1, nI_ltI, nI_leI, nI_eq, nI_clamp, up_n, zb_shl, pk_sub, e4, gd_t, gd_pos, lt_eq, Option.bind_some, true_and, and_true, not_true, not_false_iff, false_or, or_false, if_true, if_false, if_pos, if_neg, zcd]
    · by_cases h1 : a1.toInt < ((0 : Nat) : Int)
      · have h2 : a1 < nI 0 := (zlt_l (by omega)).mpr h1
        exact bad (by simp (disch := omega) only [f_X11_concert, h0, h2, if_false, zl_0, gd_t, gd_pos, lt_eq, Option.bind_some, true_and, and_true, not_true, not_false_iff, false_or, or_false, if_true, if_false, if_pos, if_neg, zcd]) (by simp (disch := omega) only [f_X12_concert, kd_80, h0, h2, if_false, zl_0, zl_1, m_fail, gd_t, gd_pos, lt_eq, Option.bind_some, true_and, and_true, not_true, not_false_iff, false_or, or_false, if_true, if_false, if_pos, if_neg, zcd, up_s, up_n, up_uu])
      · have h2 : ¬ a1 < nI 0 := fun h => h1 ((zlt_l (by omega)).mp h)
        have h3 : ¬ a1 ≤ nI 1 := fun h => by
          have := (zle_l (by omega)).mp h
          omega
        exact bad (by simp (disch := omega) only [f_X11_concert, h0, h2, h3, if_false, zl_0, zl_1, gd_t, gd_pos, lt_eq, Option.bind_some, true_and, and_true, not_true, not_false_iff, false_or, or_false, if_true, if_false, if_pos, if_neg, zcd]) (by simp (disch := omega) only [f_X12_concert, kd_80, h0, h2, h3, if_false, zl_0, zl_1, m_fail, gd_t, gd_pos, lt_eq, Option.bind_some, true_and, and_true, not_true, not_false_iff, false_or, or_false, if_true, if_false, if_pos, if_neg, zcd, up_s, up_n, up_uu])
