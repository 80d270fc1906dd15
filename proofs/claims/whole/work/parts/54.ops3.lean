/-! ===== PURE PART: calls: hardest, empty, nobody, duet, concert ===== -/
theorem zf_eq2 {α β : Type} (F : Nat → Nat → α → Option β) (g : Nat → α → α) (k : α → Option β) (e : Nat) (hx : ∀ n a, F (n + 1) e a = k a) (hs : ∀ n i a, i < e → F (n + 1) i a = F n (i + 1) (g i a)) : ∀ d i a n, i + d = e → d < n → F n i a = k (zf g d i a)
  | 0, i, a, n + 1, h1, _ => by
    obtain rfl : i = e := by omega
    exact hx n a
  | d + 1, i, a, n + 1, h1, h2 => by
    rw [hs n i a (by omega), zf_eq2 F g k e hx hs d (i + 1) (g i a) n (by omega) (by omega)]
    try rfl
  | _, _, _, 0, _, h2 => absurd h2 (Nat.not_lt_zero _)
/-- the hardest piece of the first n -/
def z_hb (S : zS) : Nat → Option Nat
  | 0 => none
  | n + 1 => match z_hb S n with
    | none => some n
    | some b => if z_hm S b (z_bn S b) < z_hm S n (z_bn S n) then some n else some b
def z_hx (S : zS) : Option Nat → Nat
  | none => 0
  | some b => z_hm S b (z_bn S b)
theorem z_hb_lt (S : zS) : ∀ n b, z_hb S n = some b → b < n
  | 0, b, h => by cases h
  | n + 1, b, h => by
    unfold z_hb at h
    rcases hh : z_hb S n with _ | b'
    · rw [hh] at h
      cases h
      omega
    · rw [hh] at h
      have := z_hb_lt S n b' hh
      dsimp only at h
      split at h
      · cases h
        omega
      · cases h
        omega
theorem z_hm_pos {S : zS} (hso : z_sok S) {w : Nat} (hw : w < z_np S) : ∀ n, n < z_bn S w → 1 ≤ z_hm S w (n + 1)
  | n, h => by
    have := ((hso.2.1 _ hw).2.2.2 n h).1
    unfold z_hm
    omega
/-- a step of the class's inner loop: (which, most) -/
def z_hg (S : zS) (w : Nat) (b : Int32) (m : Nat) (i : Nat) : Int32 × Int32 := if m < z_hm S w i then (nI w, nI (z_hm S w i)) else (b, nI m)
set_option maxHeartbeats 4000000 in
theorem c_hard20 {N : Nat} (hN : 5000 ≤ N) {R : Nat → Nat → Nat} {q : Nat} {S : zS} {I : Nat → Nat → Int32} (hR : sR R q) (hso : z_sok S) (hS : zCS S q I) (kk6 : Nat → Int32 → Int32 → Int32 → (Nat → Nat → Int32) → Option (Int32 × (Nat → Nat → Int32))) {w : Nat} (hw : w < z_np S) (b : Int32) {m : Nat} (hm : m ≤ 99) : f_X11_hardest_20 N R kk6 N 0 b (nI m) (nI w) (nI 0) I = kk6 0 (z_hg S w b m (z_bn S w)).1 (z_hg S w b m (z_bn S w)).2 (nI w + nI 1) I := by
  have hq3 := hR.2.2.1
  have hq := hR.q
  obtain ⟨⟨k0, k1, k2, k3, k4, k5, k6, k16, k17, k18⟩, ⟨r0, r1, r2, r4, r5, r6, r7, r8, s0, s3⟩, ht⟩ := id hq
  have h6 := hso.1
  have g1 := (hS.2.1 w hw).1
  have h8 := (hso.2.1 _ hw).2.1
  have L := zu_loop2 (fun n i (a : Int32 × Int32) => f_X11_hardest_20 N R kk6 n 0 a.1 a.2 (nI w) (nI i) I) (fun i => z_hg S w b m i) (kk6 0 (z_hg S w b m (z_bn S w)).1 (z_hg S w b m (z_bn S w)).2 (nI w + nI 1) I) (z_bn S w)
    (fun n => by
      try dsimp only
      simp (disch := omega) only [f_X11_hardest_20, kd_0, hR.2.2.1, q_k0 hR, r0, k1, g1, zl_0, zl_1, nI_leI, nI_ltI, nI_clamp, gd_t, gd_pos, lt_eq, Option.bind_some, true_and, and_true, not_true, not_false_iff, false_or, or_false, if_true, if_false, if_pos, if_neg, zcd])
    (fun n i hi => by
      have e5 := c_hardOf (N := N) hq hso hS hw (i := i) (by omega)
      rw [if_pos hi] at e5
      have hl := z_hm_le hso hw i (by omega)
      have hh := ((hso.2.1 _ hw).2.2.2 i hi).2
      have e9 : z_hm S w (i + 1) = max (z_hm S w i) (z_hd S w i) := rfl
      unfold z_hg
      by_cases hc : m < z_hm S w i
      · rw [if_pos hc, if_pos (by omega)]
        by_cases hd : z_hd S w i ≤ z_hm S w i
        · rw [e9, Nat.max_eq_left hd]
          simp (disch := omega) only [f_X11_hardest_20, kd_0, hR.2.2.1, q_k0 hR, r0, k1, g1, e5, gd_t, gd_pos, lt_eq, Option.bind_some, true_and, and_true, not_true, not_false_iff, false_or, or_false, if_true, if_false, if_pos, if_neg, zcd, zl_0, zl_1, zl_2, zl_3, zl_4, zl_5, zl_6, zl_7, zl_8, zl_9, zl_10, zl_12, zl_14, zl_16, zl_20, zl_21, zl_28, zl_30, zl_32, zl_37, zl_40, zl_60, zl_64, zl_99, zl_100, zl_680, zl_700, zl_999, zl_9999, zl_10000, zl_20000, zl_20001, zl_20002, zl_20003, zl_20004, zl_20005, zl_20006, zl_20007, zl_ofNat, nI_add, pk_mul, nI_leI, nI_ltI, nI_eq, nI_clamp, mx_nI, mn_nI, pk_sub, zz_m1]
        · rw [e9, Nat.max_eq_right (by omega)]
          simp (disch := omega) only [f_X11_hardest_20, kd_0, hR.2.2.1, q_k0 hR, r0, k1, g1, e5, gd_t, gd_pos, lt_eq, Option.bind_some, true_and, and_true, not_true, not_false_iff, false_or, or_false, if_true, if_false, if_pos, if_neg, zcd, zl_0, zl_1, zl_2, zl_3, zl_4, zl_5, zl_6, zl_7, zl_8, zl_9, zl_10, zl_12, zl_14, zl_16, zl_20, zl_21, zl_28, zl_30, zl_32, zl_37, zl_40, zl_60, zl_64, zl_99, zl_100, zl_680, zl_700, zl_999, zl_9999, zl_10000, zl_20000, zl_20001, zl_20002, zl_20003, zl_20004, zl_20005, zl_20006, zl_20007, zl_ofNat, nI_add, pk_mul, nI_leI, nI_ltI, nI_eq, nI_clamp, mx_nI, mn_nI, pk_sub, zz_m1]
      · rw [if_neg hc]
        by_cases hd : z_hd S w i ≤ m
        · rw [if_neg (by omega)]
          simp (disch := omega) only [f_X11_hardest_20, kd_0, hR.2.2.1, q_k0 hR, r0, k1, g1, e5, gd_t, gd_pos, lt_eq, Option.bind_some, true_and, and_true, not_true, not_false_iff, false_or, or_false, if_true, if_false, if_pos, if_neg, zcd, zl_0, zl_1, zl_2, zl_3, zl_4, zl_5, zl_6, zl_7, zl_8, zl_9, zl_10, zl_12, zl_14, zl_16, zl_20, zl_21, zl_28, zl_30, zl_32, zl_37, zl_40, zl_60, zl_64, zl_99, zl_100, zl_680, zl_700, zl_999, zl_9999, zl_10000, zl_20000, zl_20001, zl_20002, zl_20003, zl_20004, zl_20005, zl_20006, zl_20007, zl_ofNat, nI_add, pk_mul, nI_leI, nI_ltI, nI_eq, nI_clamp, mx_nI, mn_nI, pk_sub, zz_m1]
        · rw [if_pos (by omega), e9, Nat.max_eq_right (by omega)]
          simp (disch := omega) only [f_X11_hardest_20, kd_0, hR.2.2.1, q_k0 hR, r0, k1, g1, e5, gd_t, gd_pos, lt_eq, Option.bind_some, true_and, and_true, not_true, not_false_iff, false_or, or_false, if_true, if_false, if_pos, if_neg, zcd, zl_0, zl_1, zl_2, zl_3, zl_4, zl_5, zl_6, zl_7, zl_8, zl_9, zl_10, zl_12, zl_14, zl_16, zl_20, zl_21, zl_28, zl_30, zl_32, zl_37, zl_40, zl_60, zl_64, zl_99, zl_100, zl_680, zl_700, zl_999, zl_9999, zl_10000, zl_20000, zl_20001, zl_20002, zl_20003, zl_20004, zl_20005, zl_20006, zl_20007, zl_ofNat, nI_add, pk_mul, nI_leI, nI_ltI, nI_eq, nI_clamp, mx_nI, mn_nI, pk_sub, zz_m1]) (z_bn S w) 0 N (by omega) (by omega)
  have g0 : z_hg S w b m 0 = (b, nI m) := if_neg (Nat.not_lt_zero _)
  rw [g0] at L
  exact L
theorem zo_hardest_ok {N : Nat} (hN : 5000 ≤ N) : zo_hardest N zInv := by
  intro I R hI
  obtain ⟨q, S, nu, pr, T, na, A, ns, sn, st, nt, tp, fp, im, hR, hO, hC, hM⟩ := hI
  have hR : sR R q := hR
  have hC : zCi q S nu T na A ns sn st nt tp fp im I := hC
  have hM : zMi S nu T na A ns sn st nt tp fp im I := hM
  obtain ⟨hso, h7, ⟨hT1, hT2, hT3, hT4⟩, hAk, hNk, hTp, hIm⟩ := id hO
  have h6 := hso.1
  have hpo : ∀ p, p < nu → z_pok S (T.2.2 p) := fun p hp => (hT4 p hp).1
  have haw : ∀ p, p < nu → T.2.2 p 4 < 2 ^ 30 := fun p hp => (hpo p hp).2.2.2.2.1
  obtain ⟨c1, c2, c3, c4, c5, c6, c7, c8, c9, c10⟩ := id hC
  have cS1 := c1.1
  have cV1 := c2.1
  have hq := hR.q
  have ht := q_t hR
  have hM0 := zcd_M hM 0
  obtain ⟨d1, d2, d3, d4, d5, d6, d7, d8, d9, d10⟩ := id hM0
  have dS2 := hM.1.1
  have hb9 : ∀ w, w ≤ z_np S → z_hx S (z_hb S w) ≤ 99 := fun w hw => by
    rcases hh : z_hb S w with _ | b
    · exact Nat.zero_le _
    · have := z_hb_lt S w b hh
      exact z_hm_le hso (by omega) _ (Nat.le_refl _)
  have L1 := zu_loop (fun n w (a : Int32 × Int32) => f_X11_hardest_6 N R n 0 a.1 a.2 (nI w) I) (fun w => (zn1 (z_hb S w), nI (z_hx S (z_hb S w)))) (zn1 (z_hb S (z_np S)), I) (z_np S)
    (fun n => by
      try dsimp only
      simp (disch := omega) only [f_X11_hardest_6, kd_0, hR.2.2.1, q_k0 hR, cS1, nI_leI, gd_t, gd_pos, lt_eq, Option.bind_some, true_and, and_true, not_true, not_false_iff, false_or, or_false, if_true, if_false, if_pos, if_neg, zcd])
    (fun n w hw => by
      have e := c_hard20 hN hR hso c1 (fun z0 z1 z2 z3 J => f_X11_hardest_6 N R n z0 z1 z2 z3 J) hw (zn1 (z_hb S w)) (hb9 w (by omega))
      have e9 : z_hg S w (zn1 (z_hb S w)) (z_hx S (z_hb S w)) (z_bn S w) = (zn1 (z_hb S (w + 1)), nI (z_hx S (z_hb S (w + 1)))) := by
        have h1 := (hso.2.1 w hw).1
        have h2 := z_hm_pos hso hw (z_bn S w - 1) (by omega)
        rw [show z_bn S w - 1 + 1 = z_bn S w by omega] at h2
        unfold z_hg
        rcases hh : z_hb S w with _ | b
        · have e8 : z_hb S (w + 1) = some w := by
            show (match z_hb S w with | none => some w | some b => if z_hm S b (z_bn S b) < z_hm S w (z_bn S w) then some w else some b) = some w
            rw [hh]
          rw [e8, if_pos (show z_hx S none < _ by show 0 < _; omega)]
          try rfl
        · have e8 : z_hb S (w + 1) = if z_hm S b (z_bn S b) < z_hm S w (z_bn S w) then some w else some b := by
            show (match z_hb S w with | none => some w | some b => if z_hm S b (z_bn S b) < z_hm S w (z_bn S w) then some w else some b) = _
            rw [hh]
          rw [e8]
          by_cases hc : z_hm S b (z_bn S b) < z_hm S w (z_bn S w)
          · rw [if_pos hc, if_pos (show z_hx S (some b) < _ from hc)]
            try rfl
          · rw [if_neg hc, if_neg (show ¬ z_hx S (some b) < _ from hc)]
            try rfl
      rw [e9] at e
      try dsimp only at e ⊢
      rw [← nI_1 w]
      refine Eq.trans ?_ e
      simp (disch := omega) only [f_X11_hardest_6, kd_0, hR.2.2.1, q_k0 hR, cS1, nI_leI, zl_0, gd_t, gd_pos, lt_eq, Option.bind_some, true_and, and_true, not_true, not_false_iff, false_or, or_false, if_true, if_false, if_pos, if_neg, zcd]) (z_np S) 0 N (by omega) (by omega)
  have L2 := zu_loop (fun n w a => f_X12_hardest_9 N R n 80 a (nI w) (zcd I 0)) (fun w => zn1 (z_hb S w)) (zn1 (z_hb S (z_np S)), zcd I 0) (z_np S)
    (fun n => by simp (disch := omega) only [f_X12_hardest_9, kd_80, r80_4 hR, kd_84, dS2, gd_t, gd_pos, lt_eq, Option.bind_some, true_and, and_true, not_true, not_false_iff, false_or, or_false, if_true, if_false, if_pos, if_neg, zcd, up_n, zl_0, zl_1, zl_2, zl_3, zl_4, zl_5, zl_6, zl_7, zl_8, zl_9, zl_10, zl_12, zl_14, zl_16, zl_20, zl_21, zl_28, zl_30, zl_32, zl_37, zl_40, zl_60, zl_64, zl_99, zl_100, zl_680, zl_700, zl_999, zl_9999, zl_10000, zl_20000, zl_20001, zl_20002, zl_20003, zl_20004, zl_20005, zl_20006, zl_20007, zl_ofNat, nI_add, pk_mul, nI_leI, nI_ltI, nI_eq, nI_clamp, mx_nI, mn_nI, pk_sub, zz_m1])
    (fun n w hw => by
      have m1 := m_hardestOf (N := N) hN hR hso d1 hw
      have l1 := z_hm_le hso hw (z_bn S w) (Nat.le_refl _)
      rcases hh : z_hb S w with _ | b
      · have e8 : z_hb S (w + 1) = some w := by
          show (match z_hb S w with | none => some w | some b => if z_hm S b (z_bn S b) < z_hm S w (z_bn S w) then some w else some b) = some w
          rw [hh]
        simp (disch := omega) only [f_X12_hardest_9, kd_80, r80_4 hR, kd_84, dS2, e8, zn1_n, zn1_s, gd_t, gd_pos, lt_eq, Option.bind_some, true_and, and_true, not_true, not_false_iff, false_or, or_false, if_true, if_false, if_pos, if_neg, zcd, up_n, zl_0, zl_1, nI_leI, nI_ltI, nI_clamp, nI_add]
      · have hbw := z_hb_lt S w b hh
        have m2 := m_hardestOf (N := N) hN hR hso d1 (w := b) (by omega)
        have l2 := z_hm_le hso (w := b) (by omega) (z_bn S b) (Nat.le_refl _)
        have e8 : z_hb S (w + 1) = if z_hm S b (z_bn S b) < z_hm S w (z_bn S w) then some w else some b := by
          show (match z_hb S w with | none => some w | some b => if z_hm S b (z_bn S b) < z_hm S w (z_bn S w) then some w else some b) = _
          rw [hh]
        by_cases hc : z_hm S b (z_bn S b) < z_hm S w (z_bn S w)
        · rw [if_pos hc] at e8
          simp (disch := omega) only [f_X12_hardest_9, kd_80, r80_4 hR, kd_84, dS2, e8, zn1_n, zn1_s, nn_m1, if_false, m1, m2, gd_t, gd_pos, lt_eq, Option.bind_some, true_and, and_true, not_true, not_false_iff, false_or, or_false, if_true, if_false, if_pos, if_neg, zcd, up_n, zl_0, zl_1, nI_leI, nI_ltI, nI_clamp, nI_add]
        · rw [if_neg hc] at e8
          simp (disch := omega) only [f_X12_hardest_9, kd_80, r80_4 hR, kd_84, dS2, e8, zn1_n, zn1_s, nn_m1, if_false, m1, m2, gd_t, gd_pos, lt_eq, Option.bind_some, true_and, and_true, not_true, not_false_iff, false_or, or_false, if_true, if_false, if_pos, if_neg, zcd, up_n, zl_0, zl_1, nI_leI, nI_ltI, nI_clamp, nI_add]) (z_np S) 0 N (by omega) (by omega)
  refine ⟨zn1 (z_hb S (z_np S)), I, zcd I 0, ?_, ?_, zInv_q hR hO hC (zfr_refl _ _) hM0 (zcd_lo I 0)⟩
  · exact L1
  · refine Eq.trans ?_ L2
    simp (disch := omega) only [f_X12_hardest, kd_80, zl_0, gd_t, gd_pos, lt_eq, Option.bind_some, true_and, and_true, not_true, not_false_iff, false_or, or_false, if_true, if_false, if_pos, if_neg, zcd]
    try rfl
def z_cw (nu : Nat) (V : Nat → zP) (b : Nat) : Nat → Nat := zsm (fun j => if z_awi nu V (j + 1) = b then 1 else 0)
theorem c_ww {N : Nat} (hN : 5000 ≤ N) {R : Nat → Nat → Nat} {q nu : Nat} {V : Nat → zP} {I : Nat → Nat → Int32} (hR : sR R q) (hV : zCV nu V (q + 7) I) (h7 : nu ≤ 7) (ho : ∀ p, p < nu → V p 4 < 2 ^ 30) {k b : Nat} (hk : k ≤ 30) (hb : b < 2 ^ 30) : f_X11_weeksWithAway N R 0 (nI k) (nI b) I = some (nI (z_cw nu V b k), I) := by
  have hq3 := hR.2.2.1
  have hq := hR.q
  obtain ⟨⟨k0, k1, k2, k3, k4, k5, k6, k16, k17, k18⟩, ⟨r0, r1, r2, r4, r5, r6, r7, r8, s0, s3⟩, ht⟩ := id hq
  have t0 := ht.1
  exact zu_loop (fun n i a => f_X11_weeksWithAway_5 N R n 0 (nI k) (nI b) a (nI (i + 1)) I) (fun i => nI (z_cw nu V b i)) (nI (z_cw nu V b k), I) k
    (fun n => by simp (disch := omega) only [f_X11_weeksWithAway_5, nI_ltI, gd_t, gd_pos, lt_eq, Option.bind_some, true_and, and_true, not_true, not_false_iff, false_or, or_false, if_true, if_false, if_pos, if_neg, zcd])
    (fun n i hi => by
      have e := c_awayIn hN ht hV h7 ho (k := i + 1) (by omega) (by omega)
      have hl := z_awi_lt nu V (i + 1) h7
      have e9 : z_cw nu V b (i + 1) = z_cw nu V b i + (if z_awi nu V (i + 1) = b then 1 else 0) := rfl
      by_cases hc : z_awi nu V (i + 1) = b
      · rw [if_pos hc] at e9
        simp (disch := omega) only [f_X11_weeksWithAway_5, kd_0, hR.2.2.1, q_k0 hR, q_r5 hR, q_t0 hR, e, e9, gd_t, gd_pos, lt_eq, Option.bind_some, true_and, and_true, not_true, not_false_iff, false_or, or_false, if_true, if_false, if_pos, if_neg, zcd, zl_0, zl_1, zl_2, zl_3, zl_4, zl_5, zl_6, zl_7, zl_8, zl_9, zl_10, zl_12, zl_14, zl_16, zl_20, zl_21, zl_28, zl_30, zl_32, zl_37, zl_40, zl_60, zl_64, zl_99, zl_100, zl_680, zl_700, zl_999, zl_9999, zl_10000, zl_20000, zl_20001, zl_20002, zl_20003, zl_20004, zl_20005, zl_20006, zl_20007, zl_ofNat, nI_add, pk_mul, nI_leI, nI_ltI, nI_eq, nI_clamp, mx_nI, mn_nI, pk_sub, zz_m1, Nat.add_zero]
      · rw [if_neg hc, Nat.add_zero] at e9
        simp (disch := omega) only [f_X11_weeksWithAway_5, kd_0, hR.2.2.1, q_k0 hR, q_r5 hR, q_t0 hR, e, e9, gd_t, gd_pos, lt_eq, Option.bind_some, true_and, and_true, not_true, not_false_iff, false_or, or_false, if_true, if_false, if_pos, if_neg, zcd, zl_0, zl_1, zl_2, zl_3, zl_4, zl_5, zl_6, zl_7, zl_8, zl_9, zl_10, zl_12, zl_14, zl_16, zl_20, zl_21, zl_28, zl_30, zl_32, zl_37, zl_40, zl_60, zl_64, zl_99, zl_100, zl_680, zl_700, zl_999, zl_9999, zl_10000, zl_20000, zl_20001, zl_20002, zl_20003, zl_20004, zl_20005, zl_20006, zl_20007, zl_ofNat, nI_add, pk_mul, nI_leI, nI_ltI, nI_eq, nI_clamp, mx_nI, mn_nI, pk_sub, zz_m1, Nat.add_zero]) k 0 N (by omega) (by omega)
theorem zo_empty_ok {N : Nat} (hN : 5000 ≤ N) : zo_empty N zInv := by
  intro I R a1 hI
  obtain ⟨q, S, nu, pr, T, na, A, ns, sn, st, nt, tp, fp, im, hR, hO, hC, hM⟩ := hI
  have hR : sR R q := hR
  have hC : zCi q S nu T na A ns sn st nt tp fp im I := hC
  have hM : zMi S nu T na A ns sn st nt tp fp im I := hM
  obtain ⟨hso, h7, ⟨hT1, hT2, hT3, hT4⟩, hAk, hNk, hTp, hIm⟩ := id hO
  have h6 := hso.1
  have hpo : ∀ p, p < nu → z_pok S (T.2.2 p) := fun p hp => (hT4 p hp).1
  have haw : ∀ p, p < nu → T.2.2 p 4 < 2 ^ 30 := fun p hp => (hpo p hp).2.2.2.2.1
  obtain ⟨c1, c2, c3, c4, c5, c6, c7, c8, c9, c10⟩ := id hC
  have cS1 := c1.1
  have cV1 := c2.1
  have hq := hR.q
  have ht := q_t hR
  have hM0 := zcd_M hM 0
  obtain ⟨d1, d2, d3, d4, d5, d6, d7, d8, d9, d10⟩ := id hM0
  have e2 := m_isIn (N := N) (R := R) (I := zcd I 0) a1.toInt64 1 30
  rw [z64, zq_1, zq_30] at e2
  rcases zrg a1 1 30 with ⟨k, hk1, hk, rfl⟩ | hx
  · have e1 := c_betw_in (N := N) (R := R) (I := I) (m := 30) (by omega) hk1 hk
    rw [nI_toInt (by omega), if_pos (by omega)] at e2
    have e3 := c_ww hN hR c2 h7 haw hk (b := 0) (by omega)
    have L2 := zu_loop (fun n i a => f_X12_empty_27 N R n 80 (nI k) a (nI (i + 1)) (zcd I 0)) (fun i => nI (z_cw nu T.2.2 0 i)) (nI (z_cw nu T.2.2 0 k), zcd I 0) k
      (fun n => by simp (disch := omega) only [f_X12_empty_27, nI_ltI, gd_t, gd_pos, lt_eq, Option.bind_some, true_and, and_true, not_true, not_false_iff, false_or, or_false, if_true, if_false, if_pos, if_neg, zcd])
      (fun n i hi => by
        have e := m_awayIn hN hR d2 h7 haw (k := i + 1) (by omega) (by omega)
        have hl := z_awi_lt nu T.2.2 (i + 1) h7
        have e9 : z_cw nu T.2.2 0 (i + 1) = z_cw nu T.2.2 0 i + (if z_awi nu T.2.2 (i + 1) = 0 then 1 else 0) := rfl
        by_cases hc : z_awi nu T.2.2 (i + 1) = 0
        · rw [if_pos hc] at e9
          simp (disch := omega) only [f_X12_empty_27, kd_80, e, e9, gd_t, gd_pos, lt_eq, Option.bind_some, true_and, and_true, not_true, not_false_iff, false_or, or_false, if_true, if_false, if_pos, if_neg, zcd, zl_0, zl_1, zl_2, zl_3, zl_4, zl_5, zl_6, zl_7, zl_8, zl_9, zl_10, zl_12, zl_14, zl_16, zl_20, zl_21, zl_28, zl_30, zl_32, zl_37, zl_40, zl_60, zl_64, zl_99, zl_100, zl_680, zl_700, zl_999, zl_9999, zl_10000, zl_20000, zl_20001, zl_20002, zl_20003, zl_20004, zl_20005, zl_20006, zl_20007, zl_ofNat, nI_add, pk_mul, nI_leI, nI_ltI, nI_eq, nI_clamp, mx_nI, mn_nI, pk_sub, zz_m1, Nat.add_zero]
        · rw [if_neg hc, Nat.add_zero] at e9
          simp (disch := omega) only [f_X12_empty_27, kd_80, e, e9, gd_t, gd_pos, lt_eq, Option.bind_some, true_and, and_true, not_true, not_false_iff, false_or, or_false, if_true, if_false, if_pos, if_neg, zcd, zl_0, zl_1, zl_2, zl_3, zl_4, zl_5, zl_6, zl_7, zl_8, zl_9, zl_10, zl_12, zl_14, zl_16, zl_20, zl_21, zl_28, zl_30, zl_32, zl_37, zl_40, zl_60, zl_64, zl_99, zl_100, zl_680, zl_700, zl_999, zl_9999, zl_10000, zl_20000, zl_20001, zl_20002, zl_20003, zl_20004, zl_20005, zl_20006, zl_20007, zl_ofNat, nI_add, pk_mul, nI_leI, nI_ltI, nI_eq, nI_clamp, mx_nI, mn_nI, pk_sub, zz_m1, Nat.add_zero]) k 0 N (by omega) (by omega)
    refine ⟨.inl (nI (z_cw nu T.2.2 0 k)), I, nI (z_cw nu T.2.2 0 k), zcd I 0, ?_, ?_, ag_ok _ _ _ (zcd_3 I 0), zInv_q hR hO hC (zfr_refl _ _) hM0 (zcd_lo I 0)⟩
    · simp (disch := omega) only [f_X11_empty, kd_0, zl_0, zl_1, zl_30, e1, tb_l, e3, gd_t, gd_pos, lt_eq, Option.bind_some, true_and, and_true, not_true, not_false_iff, false_or, or_false, if_true, if_false, if_pos, if_neg, zcd]
    · refine Eq.trans ?_ L2
      simp (disch := omega) only [f_X12_empty, kd_80, zl_0, zl_1, e2, gd_t, gd_pos, lt_eq, Option.bind_some, true_and, and_true, not_true, not_false_iff, false_or, or_false, if_true, if_false, if_pos, if_neg, zcd, nI_eq]
      try rfl
  · have e1 := c_betw_out (N := N) (R := R) (I := I) (a := 1) (m := 30) (by omega) (by omega) hx
    rw [if_neg (by omega)] at e2
    refine ⟨_, I, 0, zcd I 1, ?_, ?_, ag_i _ (zcd_3 I 1), zInv_q hR hO hC (zfr_refl _ _) (zcd_M hM 1) (zcd_lo I 1)⟩
    · simp (disch := omega) only [f_X11_empty, kd_0, hR.2.2.1, q_k0 hR, zl_0, zl_1, zl_30, e1, tb_r, gd_t, gd_pos, lt_eq, Option.bind_some, true_and, and_true, not_true, not_false_iff, false_or, or_false, if_true, if_false, if_pos, if_neg, zcd]
    · simp (disch := omega) only [f_X12_empty, kd_80, zl_0, zl_1, zl_2, e2, m_fail, gd_t, gd_pos, lt_eq, Option.bind_some, true_and, and_true, not_true, not_false_iff, false_or, or_false, if_true, if_false, if_pos, if_neg, zcd, up_s, up_n, up_uu, nI_eq]
theorem zo_nobody_ok {N : Nat} (hN : 5000 ≤ N) : zo_nobody N zInv := by
  intro I R a1 hI
  obtain ⟨q, S, nu, pr, T, na, A, ns, sn, st, nt, tp, fp, im, hR, hO, hC, hM⟩ := hI
  have hR : sR R q := hR
  have hC : zCi q S nu T na A ns sn st nt tp fp im I := hC
  have hM : zMi S nu T na A ns sn st nt tp fp im I := hM
  obtain ⟨hso, h7, ⟨hT1, hT2, hT3, hT4⟩, hAk, hNk, hTp, hIm⟩ := id hO
  have h6 := hso.1
  have hpo : ∀ p, p < nu → z_pok S (T.2.2 p) := fun p hp => (hT4 p hp).1
  have haw : ∀ p, p < nu → T.2.2 p 4 < 2 ^ 30 := fun p hp => (hpo p hp).2.2.2.2.1
  obtain ⟨c1, c2, c3, c4, c5, c6, c7, c8, c9, c10⟩ := id hC
  have cS1 := c1.1
  have cV1 := c2.1
  have hq := hR.q
  have ht := q_t hR
  have hM0 := zcd_M hM 0
  obtain ⟨d1, d2, d3, d4, d5, d6, d7, d8, d9, d10⟩ := id hM0
  have dV2 := hM.2.1.1
  have e2 := m_isIn (N := N) (R := R) (I := zcd I 0) a1.toInt64 1 30
  rw [z64, zq_1, zq_30] at e2
  rcases zrg a1 1 30 with ⟨k, hk1, hk, rfl⟩ | hx
  · have e1 := c_betw_in (N := N) (R := R) (I := I) (m := 30) (by omega) hk1 hk
    rw [nI_toInt (by omega), if_pos (by omega)] at e2
    by_cases hu : nu = 0
    · subst hu
      have L2 := zu_loop (fun n i a => f_X12_nobody_27 N R n 80 (nI k) a (nI (i + 1)) (zcd I 0)) (fun _ => nI 0) (nI 0, zcd I 0) k
        (fun n => by simp (disch := omega) only [f_X12_nobody_27, nI_ltI, gd_t, gd_pos, lt_eq, Option.bind_some, true_and, and_true, not_true, not_false_iff, false_or, or_false, if_true, if_false, if_pos, if_neg, zcd])
        (fun n i hi => by
          simp (disch := omega) only [f_X12_nobody_27, kd_80, r80_4 hR, kd_84, dV2, gd_t, gd_pos, lt_eq, Option.bind_some, true_and, and_true, not_true, not_false_iff, false_or, or_false, if_true, if_false, if_pos, if_neg, zcd, up_n, zl_0, zl_1, zl_2, zl_3, zl_4, zl_5, zl_6, zl_7, zl_8, zl_9, zl_10, zl_12, zl_14, zl_16, zl_20, zl_21, zl_28, zl_30, zl_32, zl_37, zl_40, zl_60, zl_64, zl_99, zl_100, zl_680, zl_700, zl_999, zl_9999, zl_10000, zl_20000, zl_20001, zl_20002, zl_20003, zl_20004, zl_20005, zl_20006, zl_20007, zl_ofNat, nI_add, pk_mul, nI_leI, nI_ltI, nI_eq, nI_clamp, mx_nI, mn_nI, pk_sub, zz_m1, Nat.add_zero]) k 0 N (by omega) (by omega)
      refine ⟨.inl (nI 0), I, nI 0, zcd I 0, ?_, ?_, ag_ok _ _ _ (zcd_3 I 0), zInv_q hR hO hC (zfr_refl _ _) hM0 (zcd_lo I 0)⟩
      · simp (disch := omega) only [f_X11_nobody, kd_0, hR.2.2.1, q_k0 hR, q_r5 hR, q_t0 hR, zl_0, zl_1, zl_30, e1, tb_l, cV1, gd_t, gd_pos, lt_eq, Option.bind_some, true_and, and_true, not_true, not_false_iff, false_or, or_false, if_true, if_false, if_pos, if_neg, zcd]
      · refine Eq.trans ?_ L2
        simp (disch := omega) only [f_X12_nobody, kd_80, zl_0, zl_1, e2, gd_t, gd_pos, lt_eq, Option.bind_some, true_and, and_true, not_true, not_false_iff, false_or, or_false, if_true, if_false, if_pos, if_neg, zcd, nI_eq]
        try rfl
    · have hp2 : 2 ^ nu ≤ 2 ^ 7 := Nat.pow_le_pow_right (by omega) h7
      have hp1 : 0 < 2 ^ nu := Nat.two_pow_pos nu
      have e3 := c_ww hN hR c2 h7 haw hk (b := 2 ^ nu - 1) (by omega)
      have L2 := zu_loop (fun n i a => f_X12_nobody_27 N R n 80 (nI k) a (nI (i + 1)) (zcd I 0)) (fun i => nI (z_cw nu T.2.2 (2 ^ nu - 1) i)) (nI (z_cw nu T.2.2 (2 ^ nu - 1) k), zcd I 0) k
        (fun n => by simp (disch := omega) only [f_X12_nobody_27, nI_ltI, gd_t, gd_pos, lt_eq, Option.bind_some, true_and, and_true, not_true, not_false_iff, false_or, or_false, if_true, if_false, if_pos, if_neg, zcd])
        (fun n i hi => by
          have e := m_awayIn hN hR d2 h7 haw (k := i + 1) (by omega) (by omega)
          have hl := z_awi_lt nu T.2.2 (i + 1) h7
          have e4 := m_bitsOf (N := N) (R := R) (I := zcd I 0) hN (a := z_awi nu T.2.2 (i + 1)) (by omega)
          have hz := z_pc_le 32 (z_awi nu T.2.2 (i + 1))
          have e9 : z_cw nu T.2.2 (2 ^ nu - 1) (i + 1) = z_cw nu T.2.2 (2 ^ nu - 1) i + (if z_awi nu T.2.2 (i + 1) = 2 ^ nu - 1 then 1 else 0) := rfl
          have ha := z_all_eq (nu := nu) (V := T.2.2) (k := i + 1) h7
          by_cases hc : z_pc 32 (z_awi nu T.2.2 (i + 1)) = nu
          · rw [if_pos (ha.mp hc)] at e9
            simp (disch := omega) only [f_X12_nobody_27, kd_80, r80_4 hR, kd_84, dV2, e, e4, e9, gd_t, gd_pos, lt_eq, Option.bind_some, true_and, and_true, not_true, not_false_iff, false_or, or_false, if_true, if_false, if_pos, if_neg, zcd, up_n, zl_0, zl_1, zl_2, zl_3, zl_4, zl_5, zl_6, zl_7, zl_8, zl_9, zl_10, zl_12, zl_14, zl_16, zl_20, zl_21, zl_28, zl_30, zl_32, zl_37, zl_40, zl_60, zl_64, zl_99, zl_100, zl_680, zl_700, zl_999, zl_9999, zl_10000, zl_20000, zl_20001, zl_20002, zl_20003, zl_20004, zl_20005, zl_20006, zl_20007, zl_ofNat, nI_add, pk_mul, nI_leI, nI_ltI, nI_eq, nI_clamp, mx_nI, mn_nI, pk_sub, zz_m1]
          · rw [if_neg (fun h => hc (ha.mpr h)), Nat.add_zero] at e9
            simp (disch := omega) only [f_X12_nobody_27, kd_80, r80_4 hR, kd_84, dV2, e, e4, e9, gd_t, gd_pos, lt_eq, Option.bind_some, true_and, and_true, not_true, not_false_iff, false_or, or_false, if_true, if_false, if_pos, if_neg, zcd, up_n, zl_0, zl_1, zl_2, zl_3, zl_4, zl_5, zl_6, zl_7, zl_8, zl_9, zl_10, zl_12, zl_14, zl_16, zl_20, zl_21, zl_28, zl_30, zl_32, zl_37, zl_40, zl_60, zl_64, zl_99, zl_100, zl_680, zl_700, zl_999, zl_9999, zl_10000, zl_20000, zl_20001, zl_20002, zl_20003, zl_20004, zl_20005, zl_20006, zl_20007, zl_ofNat, nI_add, pk_mul, nI_leI, nI_ltI, nI_eq, nI_clamp, mx_nI, mn_nI, pk_sub, zz_m1, Nat.add_zero]) k 0 N (by omega) (by omega)
      refine ⟨.inl (nI (z_cw nu T.2.2 (2 ^ nu - 1) k)), I, nI (z_cw nu T.2.2 (2 ^ nu - 1) k), zcd I 0, ?_, ?_, ag_ok _ _ _ (zcd_3 I 0), zInv_q hR hO hC (zfr_refl _ _) hM0 (zcd_lo I 0)⟩
      · simp (disch := omega) only [f_X11_nobody, kd_0, hR.2.2.1, q_k0 hR, q_r5 hR, q_t0 hR, zl_0, zl_1, zl_30, e1, tb_l, cV1, nI_eq, zb_shl, pk_sub, e3, gd_t, gd_pos, lt_eq, Option.bind_some, true_and, and_true, not_true, not_false_iff, false_or, or_false, if_true, if_false, if_pos, if_neg, zcd]
      · refine Eq.trans ?_ L2
        simp (disch := omega) only [f_X12_nobody, kd_80, zl_0, zl_1, e2, gd_t, gd_pos, lt_eq, Option.bind_some, true_and, and_true, not_true, not_false_iff, false_or, or_false, if_true, if_false, if_pos, if_neg, zcd, nI_eq]
        try rfl
  · have e1 := c_betw_out (N := N) (R := R) (I := I) (a := 1) (m := 30) (by omega) (by omega) hx
    rw [if_neg (by omega)] at e2
    refine ⟨_, I, 0, zcd I 1, ?_, ?_, ag_i _ (zcd_3 I 1), zInv_q hR hO hC (zfr_refl _ _) (zcd_M hM 1) (zcd_lo I 1)⟩
    · simp (disch := omega) only [f_X11_nobody, kd_0, hR.2.2.1, q_k0 hR, zl_0, zl_1, zl_30, e1, tb_r, gd_t, gd_pos, lt_eq, Option.bind_some, true_and, and_true, not_true, not_false_iff, false_or, or_false, if_true, if_false, if_pos, if_neg, zcd]
    · simp (disch := omega) only [f_X12_nobody, kd_80, zl_0, zl_1, zl_2, e2, m_fail, gd_t, gd_pos, lt_eq, Option.bind_some, true_and, and_true, not_true, not_false_iff, false_or, or_false, if_true, if_false, if_pos, if_neg, zcd, up_s, up_n, up_uu, nI_eq]
/-! a duet -/
def z_da (V : Nat → zP) (p j : Nat) : Int32 := sm_ab (nI (V p 0) - nI (V j 0))
def z_ds (V : Nat → zP) (p : Nat) (j : Nat) (a : Int32 × Int32) : Int32 × Int32 := if a.2 ≤ z_da V p j then a else (nI 10 * nI p + nI j, z_da V p j)
def z_du (V : Nat → zP) (nu : Nat) (p : Nat) (a : Int32 × Int32) : Int32 × Int32 := zf (z_ds V p) (nu - (p + 1)) (p + 1) a
theorem zo_duet_ok {N : Nat} (hN : 5000 ≤ N) : zo_duet N zInv := by
  intro I R hI
  obtain ⟨q, S, nu, pr, T, na, A, ns, sn, st, nt, tp, fp, im, hR, hO, hC, hM⟩ := hI
  have hR : sR R q := hR
  have hC : zCi q S nu T na A ns sn st nt tp fp im I := hC
  have hM : zMi S nu T na A ns sn st nt tp fp im I := hM
  obtain ⟨hso, h7, ⟨hT1, hT2, hT3, hT4⟩, hAk, hNk, hTp, hIm⟩ := id hO
  have h6 := hso.1
  have hpo : ∀ p, p < nu → z_pok S (T.2.2 p) := fun p hp => (hT4 p hp).1
  have haw : ∀ p, p < nu → T.2.2 p 4 < 2 ^ 30 := fun p hp => (hpo p hp).2.2.2.2.1
  obtain ⟨c1, c2, c3, c4, c5, c6, c7, c8, c9, c10⟩ := id hC
  have cS1 := c1.1
  have cV1 := c2.1
  have hq := hR.q
  have ht := q_t hR
  have hM0 := zcd_M hM 0
  obtain ⟨d1, d2, d3, d4, d5, d6, d7, d8, d9, d10⟩ := id hM0
  have dV2 := hM.2.1.1
  have L1 := zf_eq (fun n p (a : Int32 × Int32) => f_X11_duet_7 N R n 0 a.1 a.2 (nI p) I) (z_du T.2.2 nu) (fun a => (a.1, I)) nu
    (fun n a => by
      try dsimp only
      simp (disch := omega) only [f_X11_duet_7, kd_0, hR.2.2.1, q_k0 hR, q_r5 hR, q_t0 hR, cV1, nI_leI, gd_t, gd_pos, lt_eq, Option.bind_some, true_and, and_true, not_true, not_false_iff, false_or, or_false, if_true, if_false, if_pos, if_neg, zcd])
    (fun n p a hp => by
      have l0 := c2.2 p hp 0 (by omega)
      have e := zf_eq2 (fun m j (a : Int32 × Int32) => f_X11_duet_26 N R (fun z0 z1 z2 z3 J => f_X11_duet_7 N R n z0 z1 z2 z3 J) m 0 a.1 a.2 (nI p) (nI j) I) (z_ds T.2.2 p) (fun a => f_X11_duet_7 N R n 0 a.1 a.2 (nI (p + 1)) I) nu
        (fun m a => by
          try dsimp only
          simp (disch := omega) only [f_X11_duet_26, kd_0, hR.2.2.1, q_k0 hR, q_r5 hR, q_t0 hR, cV1, nI_leI, zl_1, nI_add, gd_t, gd_pos, lt_eq, Option.bind_some, true_and, and_true, not_true, not_false_iff, false_or, or_false, if_true, if_false, if_pos, if_neg, zcd])
        (fun m j a hj => by
          have l1 := c2.2 j hj 0 (by omega)
          try dsimp only
          unfold z_ds
          by_cases hc : a.2 ≤ z_da T.2.2 p j
          · rw [if_pos hc]
            unfold z_da at hc
            simp (disch := omega) only [f_X11_duet_26, kd_0, hR.2.2.1, q_k0 hR, q_r5 hR, q_t0 hR, q_t1 hR, q_t2 hR, q_t3 hR, q_t4 hR, cV1, l0, l1, hc, gd_t, gd_pos, lt_eq, Option.bind_some, true_and, and_true, not_true, not_false_iff, false_or, or_false, if_true, if_false, if_pos, if_neg, zcd, zl_0, zl_1, nI_leI, nI_ltI, nI_clamp, nI_add]
          · rw [if_neg hc]
            unfold z_da at hc ⊢
            simp (disch := omega) only [f_X11_duet_26, kd_0, hR.2.2.1, q_k0 hR, q_r5 hR, q_t0 hR, q_t1 hR, q_t2 hR, q_t3 hR, q_t4 hR, cV1, l0, l1, hc, if_false, gd_t, gd_pos, lt_eq, Option.bind_some, true_and, and_true, not_true, not_false_iff, false_or, or_false, if_true, if_false, if_pos, if_neg, zcd, zl_0, zl_1, zl_10, nI_leI, nI_ltI, nI_clamp, nI_add])
        (nu - (p + 1)) (p + 1) a N (by omega) (by omega)
      try dsimp only at e ⊢
      refine Eq.trans ?_ e
      simp (disch := omega) only [f_X11_duet_7, kd_0, hR.2.2.1, q_k0 hR, q_r5 hR, q_t0 hR, cV1, nI_leI, zl_1, nI_add, gd_t, gd_pos, lt_eq, Option.bind_some, true_and, and_true, not_true, not_false_iff, false_or, or_false, if_true, if_false, if_pos, if_neg, zcd]) nu 0 (-1, 100) N (by omega) (by omega)
  have L2 := zf_eq (fun n p (a : Int32 × Int32) => f_X12_duet_12 N R n 80 a.1 a.2 (nI p) (zcd I 0)) (z_du T.2.2 nu) (fun a => (a.1, zcd I 0)) nu
    (fun n a => by
      try dsimp only
      simp (disch := omega) only [f_X12_duet_12, kd_80, r80_4 hR, kd_84, dV2, gd_t, gd_pos, lt_eq, Option.bind_some, true_and, and_true, not_true, not_false_iff, false_or, or_false, if_true, if_false, if_pos, if_neg, zcd, up_n, zl_0, zl_1, nI_leI, nI_ltI, nI_clamp])
    (fun n p a hp => by
      have l0 := (hM.2.1.2 p hp).1
      have e := zf_eq2 (fun m j (a : Int32 × Int32) => f_X12_duet_27 N R (fun z0 z1 z2 z3 J => f_X12_duet_12 N R n z0 z1 z2 z3 J) m 80 a.1 a.2 (nI p) (nI j) (zcd I 0)) (z_ds T.2.2 p) (fun a => f_X12_duet_12 N R n 80 a.1 a.2 (nI (p + 1)) (zcd I 0)) nu
        (fun m a => by
          try dsimp only
          simp (disch := omega) only [f_X12_duet_27, kd_80, r80_4 hR, kd_84, dV2, gd_t, gd_pos, lt_eq, Option.bind_some, true_and, and_true, not_true, not_false_iff, false_or, or_false, if_true, if_false, if_pos, if_neg, zcd, up_n, zl_0, zl_1, nI_leI, nI_ltI, nI_clamp, nI_add])
        (fun m j a hj => by
          have l1 := (hM.2.1.2 j hj).1
          try dsimp only
          unfold z_ds
          by_cases hc : a.2 ≤ z_da T.2.2 p j
          · rw [if_pos hc]
            unfold z_da at hc
            have hc2 : ¬ sm_ab (nI (T.2.2 p 0) - nI (T.2.2 j 0)) < a.2 := Int32.not_lt.mpr hc
            simp (disch := omega) only [f_X12_duet_27, kd_80, r80_4 hR, kd_84, r80_25 hR, kd_95, dV2, l0, l1, hc2, if_false, gd_t, gd_pos, lt_eq, Option.bind_some, true_and, and_true, not_true, not_false_iff, false_or, or_false, if_true, if_false, if_pos, if_neg, zcd, up_n, zl_0, zl_1, nI_leI, nI_ltI, nI_clamp, nI_add]
          · rw [if_neg hc]
            unfold z_da at hc ⊢
            have hc2 : sm_ab (nI (T.2.2 p 0) - nI (T.2.2 j 0)) < a.2 := Int32.not_le.mp hc
            simp (disch := omega) only [f_X12_duet_27, kd_80, r80_4 hR, kd_84, r80_25 hR, kd_95, dV2, l0, l1, hc2, gd_t, gd_pos, lt_eq, Option.bind_some, true_and, and_true, not_true, not_false_iff, false_or, or_false, if_true, if_false, if_pos, if_neg, zcd, up_n, zl_0, zl_1, zl_10, nI_leI, nI_ltI, nI_clamp, nI_add])
        (nu - (p + 1)) (p + 1) a N (by omega) (by omega)
      try dsimp only at e ⊢
      refine Eq.trans ?_ e
      simp (disch := omega) only [f_X12_duet_12, kd_80, r80_4 hR, kd_84, dV2, gd_t, gd_pos, lt_eq, Option.bind_some, true_and, and_true, not_true, not_false_iff, false_or, or_false, if_true, if_false, if_pos, if_neg, zcd, up_n, zl_0, zl_1, nI_leI, nI_ltI, nI_clamp, nI_add]) nu 0 (-1, 100) N (by omega) (by omega)
  refine ⟨(zf (z_du T.2.2 nu) nu 0 (-1, 100)).1, I, zcd I 0, L1, ?_, zInv_q hR hO hC (zfr_refl _ _) hM0 (zcd_lo I 0)⟩
  refine Eq.trans ?_ L2
  simp (disch := omega) only [f_X12_duet, kd_80, zl_0, gd_t, gd_pos, lt_eq, Option.bind_some, true_and, and_true, not_true, not_false_iff, false_or, or_false, if_true, if_false, if_pos, if_neg, zcd]
  try rfl
