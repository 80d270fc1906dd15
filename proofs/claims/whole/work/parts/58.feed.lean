/-! ===== PURE PART: feed ===== -/
theorem zl_24 : (24 : Int32) = nI 24 := rfl
theorem zl_255 : (255 : Int32) = nI 255 := rfl
def zX (x : Int32) : Nat := x.toBitVec.toNat
theorem zX_lt (x : Int32) : zX x < 2 ^ 32 := x.toBitVec.isLt
theorem zX_eq (x : Int32) : x = nI (zX x) := by
  apply Int32.toBitVec_inj.1
  show x.toBitVec = BitVec.ofNat 32 x.toBitVec.toNat
  rw [BitVec.ofNat_toNat, BitVec.setWidth_eq]
def zby (x : Int32) (j : Nat) : Nat := zX x / 2 ^ (24 - 8 * j) % 256
theorem zby_lt (x : Int32) (j : Nat) : zby x j < 256 := Nat.mod_lt _ (by decide)
theorem zy_i8 (m : Nat) : sm_i8 (nI m) = sm_i8 (nI (m % 256)) := by
  unfold sm_i8
  have e : (nI m).toInt8 = (nI (m % 256)).toInt8 := by
    show (Int32.ofNat m).toInt8 = (Int32.ofNat (m % 256)).toInt8
    apply Int8.toBitVec_inj.1
    show (BitVec.ofNat 32 m).signExtend 8 = (BitVec.ofNat 32 (m % 256)).signExtend 8
    rw [BitVec.signExtend_eq_setWidth_of_le _ (by decide), BitVec.signExtend_eq_setWidth_of_le _ (by decide)]
    apply BitVec.eq_of_toNat_eq
    rw [BitVec.toNat_setWidth, BitVec.toNat_setWidth, BitVec.toNat_ofNat, BitVec.toNat_ofNat]
    omega
  rw [e]
theorem zy_88 (x : Int32) : sm_i8 (sm_i8 x) = sm_i8 x := by
  unfold sm_i8
  simp
theorem zy_c (x : Int32) {n j : Nat} (hn : n = 24 - 8 * j) : sm_i8 (sm_i8 (sm_us x (nI n))) = sm_i8 (nI (zby x j)) := by
  rw [zy_88]
  have e : sm_us x (nI n) = nI (zX x / 2 ^ n) := by
    have := zb_us (n := zX x) (k := n) (zX_lt x) (by omega)
    rw [← zX_eq x] at this
    exact this
  rw [e, zy_i8]
  unfold zby
  rw [hn]
theorem zy_and (y : Int32) : y &&& nI 255 = nI (zX y % 256) := by
  apply Int32.toBitVec_inj.1
  show y.toBitVec &&& BitVec.ofNat 32 255 = BitVec.ofNat 32 (y.toBitVec.toNat % 256)
  apply BitVec.eq_of_toNat_eq
  rw [BitVec.toNat_and, BitVec.toNat_ofNat, BitVec.toNat_ofNat, show 255 % 2 ^ 32 = 2 ^ 8 - 1 from rfl, Nat.and_two_pow_sub_one_eq_mod]
  have := y.toBitVec.isLt
  omega
theorem zy_m (x : Int32) {n j : Nat} (hn : n = 24 - 8 * j) : (x >>> (nI n &&& 31)) &&& nI 255 = nI (zby x j) := by
  rw [zy_and]
  congr 1
  unfold zby
  rw [← hn]
  have hn9 : n ≤ 24 := by omega
  have e : zX (x >>> (nI n &&& 31)) = (x.toBitVec.sshiftRight n).toNat := by
    unfold zX
    rw [Int32.toBitVec_shiftRight]
    show (x.toBitVec.sshiftRight ((nI n &&& 31).toBitVec.smod 32).toNat).toNat = _
    rw [zb_sl n (by omega)]
  rw [e, show (256 : Nat) = 2 ^ 8 from rfl]
  apply Nat.eq_of_testBit_eq
  intro i
  rw [Nat.testBit_mod_two_pow, Nat.testBit_mod_two_pow, Nat.testBit_div_two_pow]
  by_cases hi : i < 8
  · have h1 : (x.toBitVec.sshiftRight n).toNat.testBit i = (x.toBitVec.sshiftRight n).getLsbD i := BitVec.testBit_toNat _
    have h2 : (zX x).testBit (i + n) = x.toBitVec.getLsbD (i + n) := BitVec.testBit_toNat _
    rw [h1, h2, BitVec.getLsbD_sshiftRight]
    simp [hi, show ¬ 32 ≤ i by omega, show n + i < 32 by omega, Nat.add_comm]
  · simp [hi]
/-- bytes behind the tape -/
def z_fd (tp : Nat → Nat) (nt : Nat) (w : Nat → Int32) : Nat → (Nat → Nat)
  | 0 => tp
  | k + 1 => sm_up (z_fd tp nt w k) (nt + k) (zby (w (k / 4)) (k % 4))
def z_w5 (a b c d e : Int32) : Nat → Int32 := fun i => match i with
  | 0 => a
  | 1 => b
  | 2 => c
  | 3 => d
  | _ => e
def zTp (nt : Nat) (tp : Nat → Nat) (I : Nat → Nat → Int32) : Prop := I 0 1 = nI nt ∧ ∀ i, i < nt → I 2 i = sm_i8 (nI (tp i))
section ZC
variable {N : Nat} {R : Nat → Nat → Nat} {q nt : Nat} {tp : Nat → Nat} {I : Nat → Nat → Int32}
theorem c_put1 (hR : sR R q) (h : zTp nt tp I) (hn : nt < 700) (x : Int32) {j n m : Nat} (hj : n = 24 - 8 * j) (hj3 : j ≤ 3) : ∃ J, f_X11_putFour_3 N R (m + 1) 0 x (nI n) I = f_X11_putFour_3 N R m 0 x (nI n + -nI 8) J ∧ zTp (nt + 1) (sm_up tp nt (zby x j)) J ∧ (∀ c, c ≠ 0 → c ≠ 2 → J c = I c) ∧ ∀ f, f ≠ 1 → J 0 f = I 0 f := by
  have h1 := h.1
  have e := zy_c x hj
  refine ⟨sm_up (sm_up I 2 (sm_up (I 2) nt (sm_i8 (nI (zby x j))))) 0 (sm_up (I 0) 1 (nI (nt + 1))), ?_, ⟨by rw [up_s, up_s], fun i hi => ?_⟩, fun c h0 h1 => by rw [up_n _ _ h0, up_n _ _ h1], fun f hf => by rw [up_s, up_n _ _ hf]⟩
  · simp (disch := omega) only [f_X11_putFour_3, kd_0, r0_0 hR, kd_1, r1_0 hR, kd_2, h1, e, zl_0, zl_1, zl_8, zl_700, nI_ltI, nI_leI, nI_clamp, nI_add, up_s, up_n, gd_t, gd_pos, lt_eq, Option.bind_some, true_and, and_true, not_true, not_false_iff, false_or, or_false, if_true, if_false, if_pos, if_neg, zcd]
  · rw [up_n _ _ (by omega), up_s]
    by_cases e2 : i = nt
    · rw [e2, up_s, up_s]
    · rw [up_n _ _ e2, up_n _ _ e2]
      exact h.2 i (by omega)
theorem c_put4 (hN : 5000 ≤ N) (hR : sR R q) (h : zTp nt tp I) (hn : nt ≤ 696) (x : Int32) : ∃ J, f_X11_putFour N R 0 x I = some ((), J) ∧ zTp (nt + 4) (sm_up (sm_up (sm_up (sm_up tp nt (zby x 0)) (nt + 1) (zby x 1)) (nt + 2) (zby x 2)) (nt + 3) (zby x 3)) J ∧ (∀ c, c ≠ 0 → c ≠ 2 → J c = I c) ∧ ∀ f, f ≠ 1 → J 0 f = I 0 f := by
  obtain ⟨m, rfl⟩ : ∃ m, N = m + 5 := ⟨N - 5, by omega⟩
  obtain ⟨J1, a1, b1, c1, d1⟩ := c_put1 (N := m + 5) (m := m + 4) (n := 24) (j := 0) hR h (by omega) x rfl (by omega)
  obtain ⟨J2, a2, b2, c2, d2⟩ := c_put1 (N := m + 5) (m := m + 3) (n := 16) (j := 1) hR b1 (by omega) x rfl (by omega)
  obtain ⟨J3, a3, b3, c3, d3⟩ := c_put1 (N := m + 5) (m := m + 2) (n := 8) (j := 2) hR b2 (by omega) x rfl (by omega)
  obtain ⟨J4, a4, b4, c4, d4⟩ := c_put1 (N := m + 5) (m := m + 1) (n := 0) (j := 3) hR b3 (by omega) x rfl (by omega)
  refine ⟨J4, ?_, b4, fun c h0 h1 => (c4 c h0 h1).trans ((c3 c h0 h1).trans ((c2 c h0 h1).trans (c1 c h0 h1))), fun f hf => (d4 f hf).trans ((d3 f hf).trans ((d2 f hf).trans (d1 f hf)))⟩
  have s1 : nI 24 + -nI 8 = nI 16 := by decide
  have s2 : nI 16 + -nI 8 = nI 8 := by decide
  have s3 : nI 8 + -nI 8 = nI 0 := by decide
  have s4 : nI 0 + -nI 8 < nI 0 := by decide
  unfold f_X11_putFour
  rw [zl_24, a1, s1, a2, s2, a3, s3, a4]
  simp (disch := omega) only [f_X11_putFour_3, zl_0, s4, gd_t, gd_pos, lt_eq, Option.bind_some, true_and, and_true, not_true, not_false_iff, false_or, or_false, if_true, if_false, if_pos, if_neg, zcd]
end ZC
theorem c_i8_ok : True := trivial
theorem zo_feed_ok {N : Nat} (hN : 5000 ≤ N) : zo_feed N zInv := by
  intro I R a1 a2 a3 a4 a5 hI
  obtain ⟨q, S, nu, pr, T, na, A, ns, sn, st, nt, tp, fp, im, hR, hO, hC, hM⟩ := hI
  have hR : sR R q := hR
  have hC : zCi q S nu T na A ns sn st nt tp fp im I := hC
  have hM : zMi S nu T na A ns sn st nt tp fp im I := hM
  obtain ⟨hso, h7, ⟨hT1, hT2, hT3, hT4⟩, hAk, hNk, hTp, hIm⟩ := id hO
  have h6 := hso.1
  have hpo : ∀ p, p < nu → z_pok S (T.2.2 p) := fun p hp => (hT4 p hp).1
  have haw : ∀ p, p < nu → T.2.2 p 4 < 2 ^ 30 := fun p hp => (hpo p hp).2.2.2.2.1
  obtain ⟨c1, c2, c3, c4, c5, c6, c7, c8, c9, c10⟩ := id hC
  have cS1 := c1.1
  have cV1 := c2.1
  have hq := hR.q
  have ht := q_t hR
  have hM0 := zcd_M hM 0
  obtain ⟨d1, d2, d3, d4, d5, d6, d7, d8, d9, d10⟩ := id hM0
  have c81 := c8.1
  have hq9 := sR_q hR
  by_cases h6 : nt ≤ 680
  · obtain ⟨J1, p1, q1, o1, f1⟩ := c_put4 hN hR c8 (by omega) a1
    obtain ⟨J2, p2, q2, o2, f2⟩ := c_put4 hN hR q1 (by omega) a2
    obtain ⟨J3, p3, q3, o3, f3⟩ := c_put4 hN hR q2 (by omega) a3
    obtain ⟨J4, p4, q4, o4, f4⟩ := c_put4 hN hR q3 (by omega) a4
    obtain ⟨J, p5, q5, o5, f5⟩ := c_put4 hN hR q4 (by omega) a5
    have q6 : zTp (nt + 20) (z_fd tp nt (z_w5 a1 a2 a3 a4 a5) 20) J := q5
    have io : ∀ c, c ≠ 0 → c ≠ 2 → J c = I c := fun c h0 h1 => (o5 c h0 h1).trans ((o4 c h0 h1).trans ((o3 c h0 h1).trans ((o2 c h0 h1).trans (o1 c h0 h1))))
    have fo : ∀ f, f ≠ 1 → J 0 f = I 0 f := fun f hf => (f5 f hf).trans ((f4 f hf).trans ((f3 f hf).trans ((f2 f hf).trans (f1 f hf))))
    have hCJ : zCi q S nu T na A ns sn st (nt + 20) (z_fd tp nt (z_w5 a1 a2 a3 a4 a5) 20) fp im J := ⟨zCS_fr c1 (fun c h1 h2 => io c (by omega) (by omega)), zCV_fr c2 h7 (fun c hc => io c (by omega) (by omega)), by rw [io _ (by omega) (by omega)]; exact c3, by rw [io _ (by omega) (by omega)]; exact c4, zCA_fr c5 (io 41 (by omega) (by omega)) (io 42 (by omega) (by omega)), zCN_fr c6 (fun c h1 h2 => io c (by omega) (by omega)), fun j hj => by rw [io 47 (by omega) (by omega)]; exact c7 j hj, q6, by rw [fo 2 (by omega)]; exact c9, zCI_fr c10 (fun c h1 h2 => io c (by omega) (by omega))⟩
    have hMJ := zcd_M (zMi_lo (J := J) hM (fun k hk => io k (by omega) (by omega))) 0
    obtain ⟨w1, w2, w3, w4, w5, w6, w7, w8, w9, w10⟩ := id hMJ
    have w81 := w8.1
    obtain ⟨X, hX⟩ : ∃ X, X = zcd J 0 := ⟨_, rfl⟩
    rw [← hX] at w8 w81
    have key := zm_loop (fun n k s => f_X12_feed_23 N R n 80 a1 a2 a3 a4 a5 (nI k) s)
      (fun k s => s 80 15 = nI (nt + k) ∧ (∀ i, i < nt + k → s 94 i = nI (z_fd tp nt (z_w5 a1 a2 a3 a4 a5) k i)) ∧ zfm [94] [15] X s)
      (fun y => y.1 = nI (nt + 20) ∧ y.2 80 15 = nI (nt + 20) ∧ (∀ i, i < nt + 20 → y.2 94 i = nI (z_fd tp nt (z_w5 a1 a2 a3 a4 a5) 20 i)) ∧ zfm [94] [15] X y.2) 20
      (fun n s hs => ⟨(nI (nt + 20), s), by
        have h1 := hs.1
        simp (disch := omega) only [f_X12_feed_23, kd_80, zl_20, h1, nI_leI, gd_t, gd_pos, lt_eq, Option.bind_some, true_and, and_true, not_true, not_false_iff, false_or, or_false, if_true, if_false, if_pos, if_neg, zcd], rfl, hs⟩)
      (fun n k s hk hs => by
        have h1 := hs.1
        have hm : (nI (k % 4)) = nI (k % 4) := rfl
        have e9 : z_fd tp nt (z_w5 a1 a2 a3 a4 a5) (k + 1) = sm_up (z_fd tp nt (z_w5 a1 a2 a3 a4 a5) k) (nt + k) (zby (z_w5 a1 a2 a3 a4 a5 (k / 4)) (k % 4)) := rfl
        have hb := zy_m (z_w5 a1 a2 a3 a4 a5 (k / 4)) (n := 24 - 8 * (k % 4)) (j := k % 4) rfl
        refine ⟨sm_up (sm_up s 94 (sm_up (s 94) (nt + k) (nI (zby (z_w5 a1 a2 a3 a4 a5 (k / 4)) (k % 4))))) 80 (sm_up (s 80) 15 (nI (nt + (k + 1)))), ?_, by rw [up_s, up_s], fun i hi => ?_, ?_⟩
        · have hc : k < 4 ∨ (4 ≤ k ∧ k < 8) ∨ (8 ≤ k ∧ k < 12) ∨ (12 ≤ k ∧ k < 16) ∨ 16 ≤ k := by omega
          have key2 : ∀ b : Int32, z_w5 a1 a2 a3 a4 a5 (k / 4) = b → f_X12_feed_76 N R (fun z0 z1 z2 z3 z4 z5 z6 J => f_X12_feed_23 N R n z0 z1 z2 z3 z4 z5 z6 J) 80 a1 a2 a3 a4 a5 (nI k) b s = f_X12_feed_23 N R n 80 a1 a2 a3 a4 a5 (nI (k + 1)) (sm_up (sm_up s 94 (sm_up (s 94) (nt + k) (nI (zby (z_w5 a1 a2 a3 a4 a5 (k / 4)) (k % 4))))) 80 (sm_up (s 80) 15 (nI (nt + (k + 1))))) := by
            intro b hb2
            rw [hb2] at hb ⊢
            simp (disch := omega) only [f_X12_feed_76, kd_80, r80_14 hR, kd_94, h1, zl_0, zl_1, zl_4, zl_8, zl_24, zl_255, zz_rem, pk_mul, pk_sub, hb, nI_ltI, nI_leI, nI_clamp, nI_add, up_s, up_n, Nat.add_assoc, gd_t, gd_pos, lt_eq, Option.bind_some, true_and, and_true, not_true, not_false_iff, false_or, or_false, if_true, if_false, if_pos, if_neg, zcd]
          rcases hc with h | h | h | h | h
          · have := key2 a1 (by rw [show k / 4 = 0 by omega]; rfl)
            simp (disch := omega) only [f_X12_feed_23, zl_20, zl_4, zl_8, zl_12, zl_16, nI_leI, this, gd_t, gd_pos, lt_eq, Option.bind_some, true_and, and_true, not_true, not_false_iff, false_or, or_false, if_true, if_false, if_pos, if_neg, zcd]
          · have := key2 a2 (by rw [show k / 4 = 1 by omega]; rfl)
            simp (disch := omega) only [f_X12_feed_23, zl_20, zl_4, zl_8, zl_12, zl_16, nI_leI, this, gd_t, gd_pos, lt_eq, Option.bind_some, true_and, and_true, not_true, not_false_iff, false_or, or_false, if_true, if_false, if_pos, if_neg, zcd]
          · have := key2 a3 (by rw [show k / 4 = 2 by omega]; rfl)
            simp (disch := omega) only [f_X12_feed_23, zl_20, zl_4, zl_8, zl_12, zl_16, nI_leI, this, gd_t, gd_pos, lt_eq, Option.bind_some, true_and, and_true, not_true, not_false_iff, false_or, or_false, if_true, if_false, if_pos, if_neg, zcd]
          · have := key2 a4 (by rw [show k / 4 = 3 by omega]; rfl)
            simp (disch := omega) only [f_X12_feed_23, zl_20, zl_4, zl_8, zl_12, zl_16, nI_leI, this, gd_t, gd_pos, lt_eq, Option.bind_some, true_and, and_true, not_true, not_false_iff, false_or, or_false, if_true, if_false, if_pos, if_neg, zcd]
          · have := key2 a5 (by rw [show k / 4 = 4 by omega]; rfl)
            simp (disch := omega) only [f_X12_feed_23, zl_20, zl_4, zl_8, zl_12, zl_16, nI_leI, this, gd_t, gd_pos, lt_eq, Option.bind_some, true_and, and_true, not_true, not_false_iff, false_or, or_false, if_true, if_false, if_pos, if_neg, zcd]
        · rw [up_n _ _ (by omega), up_s, e9]
          by_cases e2 : i = nt + k
          · rw [e2, up_s, up_s]
          · rw [up_n _ _ e2, up_n _ _ e2]
            exact hs.2.1 i (by omega)
        · have := zfm_f (i := 15) (zfm_up (k := 94) hs.2.2 (by simp) (by omega) (sm_up (s 94) (nt + k) (nI (zby (z_w5 a1 a2 a3 a4 a5 (k / 4)) (k % 4))))) (by simp) (nI (nt + (k + 1)))
          rw [show sm_up s 94 (sm_up (s 94) (nt + k) (nI (zby (z_w5 a1 a2 a3 a4 a5 (k / 4)) (k % 4)))) 80 = s 80 from up_n _ _ (by omega)] at this
          exact this)
      20 0 X N (by omega) (by omega) ⟨w81, w8.2, zfm_refl _ _ _⟩
    obtain ⟨⟨y, K⟩, g1, g2, g3, g4, g5⟩ := key
    cases g2
    have kg : ∀ c, c ≠ 80 → c ≠ 94 → K c = X c := fun c h1 h2 => g5.1 c h1 (by simp; omega)
    have kf : ∀ f, f ≠ 15 → K 80 f = X 80 f := fun f hf => g5.2 f (by simp; omega)
    rw [← hX] at w1 w2 w3 w4 w5 w6 w7 w9 w10
    have hMK : zMi S nu T na A ns sn st (nt + 20) (z_fd tp nt (z_w5 a1 a2 a3 a4 a5) 20) fp im K := ⟨zMS_eq w1 (fun c h1 h2 => kg c (by omega) (by omega)), zMV_fr w2 g5 (by decide), by rw [kf 31 (by omega)]; exact w3, by rw [kf 32 (by omega)]; exact w4, zMA_eq w5 (kf 33 (by omega)) (kg 100 (by omega) (by omega)), zMN_eq w6 (kf 34 (by omega)) (kg 107 (by omega) (by omega)) (kg 108 (by omega) (by omega)) (kg 109 (by omega) (by omega)), fun j hj => by rw [kg 93 (by omega) (by omega)]; exact w7 j hj, ⟨g3, g4⟩, by rw [kf 24 (by omega)]; exact w9, zMI_eq w10 (fun c h1 h2 => kg c (by omega) (by omega)) (kf 50 (by omega)) (kf 51 (by omega)) (kf 52 (by omega))⟩
    have hbb : ∀ k i, (∀ j, j < nt → tp j < 256) → i < nt + k → z_fd tp nt (z_w5 a1 a2 a3 a4 a5) k i < 256 := by
      intro k
      induction k with
      | zero => exact fun i h1 h2 => h1 i h2
      | succ k ih =>
        intro i h1 h2
        show sm_up (z_fd tp nt (z_w5 a1 a2 a3 a4 a5) k) (nt + k) _ i < 256
        by_cases e2 : i = nt + k
        · rw [e2, up_s]
          exact zby_lt _ _
        · rw [up_n _ _ e2]
          exact ih i h1 (by omega)
    have hO2 : zOk S nu pr T na A ns sn (nt + 20) (z_fd tp nt (z_w5 a1 a2 a3 a4 a5) 20) im := ⟨hso, h7, ⟨hT1, hT2, hT3, hT4⟩, hAk, hNk, ⟨by omega, fun i hi => hbb 20 i hTp.2 hi⟩, hIm⟩
    refine ⟨nI (nt + 20), J, K, ?_, ?_, zInv_of hR hO2 hCJ hMK (fun j hj => ?_)⟩
    · have g6 := q6.1
      simp (disch := omega) only [f_X11_feed, kd_0, c81, zl_680, nI_leI, p1, p2, p3, p4, p5, g6, gd_t, gd_pos, lt_eq, Option.bind_some, true_and, and_true, not_true, not_false_iff, false_or, or_false, if_true, if_false, if_pos, if_neg, zcd]
    · have hX2 : sm_up J 80 (sm_up (J 80) 3 (nI 0)) = X := hX.symm
      unfold f_X12_feed
      rw [gd_pos kd_80, lt_eq, zl_0, hX2, w81, zl_20, nI_add, zl_700, if_pos (by rw [nI_leI (by omega) (by omega)]; omega)]
      exact g1
    · rw [kg j (by omega) (by omega), hX]
      exact zcd_lo J 0 j hj
  · have u81 := hM.2.2.2.2.2.2.2.1.1
    have hle := hTp.1
    refine ⟨-1, I, zcd I 0, ?_, ?_, zInv_q hR hO hC (zfr_refl _ _) hM0 (zcd_lo I 0)⟩
    · simp (disch := omega) only [f_X11_feed, kd_0, c81, zl_680, nI_leI, gd_t, gd_pos, lt_eq, Option.bind_some, true_and, and_true, not_true, not_false_iff, false_or, or_false, if_true, if_false, if_pos, if_neg, zcd]
    · simp (disch := omega) only [f_X12_feed, kd_80, zl_0, u81, zl_20, zl_700, nI_add, nI_leI, up_s, up_n, gd_t, gd_pos, lt_eq, Option.bind_some, true_and, and_true, not_true, not_false_iff, false_or, or_false, if_true, if_false, if_pos, if_neg, zcd]
