/-! ===== PURE PART: calls: pupil, fits, repertoire, hardest, work, mates, empty, nobody ===== -/
theorem zu_loop2 {α β : Type} (F : Nat → Nat → α → Option β) (g : Nat → α) (r : Option β) (e : Nat) (hx : ∀ n, F (n + 1) e (g e) = r) (hs : ∀ n i, i < e → F (n + 1) i (g i) = F n (i + 1) (g (i + 1))) : ∀ d i n, i + d = e → d < n → F n i (g i) = r
  | 0, i, n + 1, h1, _ => by
    obtain rfl : i = e := by omega
    exact hx n
  | d + 1, i, n + 1, h1, h2 => by
    rw [hs n i (by omega)]
    exact zu_loop2 F g r e hx hs d (i + 1) n (by omega) (by omega)
  | _, _, 0, _, h2 => absurd h2 (Nat.not_lt_zero _)
theorem zn1_n : zn1 none = -nI 1 := rfl
theorem zn1_s (k : Nat) : zn1 (some k) = nI k := rfl
theorem nn_m1 {b : Nat} (h : b < 2 ^ 31) : (nI b = -nI 1) = False := eq_false (fun e => by
  have := congrArg Int32.toInt e
  rw [nI_toInt h, zz_neg (by omega)] at this
  omega)
theorem zbt_add {c : Nat → Bool} {n : Nat} (h : c n = true) : zbt c (n + 1) = zbt c n + 2 ^ n := by
  have e := Nat.two_pow_add_eq_or_of_lt (zbt_lt c n) 1
  rw [Nat.mul_one] at e
  rw [zbt_t h, Nat.or_comm, ← e, Nat.add_comm]
theorem z_pc_1 : ∀ k, 0 < k → z_pc k 1 = 1
  | k + 1, _ => by
    show 1 % 2 + z_pc k (1 / 2) = 1
    rw [show 1 / 2 = 0 from rfl, z_pc_0]
theorem z_pc_hi {x n : Nat} (hn : n < 32) (hx : x < 2 ^ n) : z_pc 32 (x + 2 ^ n) = z_pc 32 x + 1 := by
  have e1 := z_pc_add n (32 - n) (x + 2 ^ n)
  have e2 := z_pc_add n (32 - n) x
  rw [show n + (32 - n) = 32 by omega] at e1 e2
  rw [e1, e2, Nat.add_mod_right, Nat.mod_eq_of_lt hx, Nat.add_div_right _ (Nat.two_pow_pos n), Nat.div_eq_of_lt hx, z_pc_0, z_pc_1 _ (by omega)]
theorem z_pc_bt (c : Nat → Bool) : ∀ n, n ≤ 32 → z_pc 32 (zbt c n) = zsm (fun i => if c i = true then 1 else 0) n
  | 0, _ => z_pc_0 32
  | n + 1, h => by
    have ih := z_pc_bt c n (by omega)
    show _ = zsm _ n + (if c n = true then 1 else 0)
    by_cases hc : c n = true
    · rw [zbt_add hc, z_pc_hi (by omega) (zbt_lt c n), ih, if_pos hc]
    · rw [zbt_f hc, ih, if_neg hc, Nat.add_zero]
theorem zbt_full (c : Nat → Bool) : ∀ n, (zbt c n = 2 ^ n - 1 ↔ ∀ i, i < n → c i = true)
  | 0 => ⟨fun _ i hi => absurd hi (Nat.not_lt_zero _), fun _ => rfl⟩
  | n + 1 => by
    have ih := zbt_full c n
    have hl := zbt_lt c n
    by_cases hc : c n = true
    · rw [zbt_add hc, Nat.pow_succ]
      constructor
      · intro h i hi
        by_cases e : i = n
        · rw [e]; exact hc
        · exact ih.mp (by omega) i (by omega)
      · intro h
        have := ih.mpr (fun i hi => h i (by omega))
        omega
    · rw [zbt_f hc, Nat.pow_succ]
      constructor
      · intro h
        omega
      · intro h
        exact absurd (h n (by omega)) hc
theorem zsm_full (c : Nat → Bool) : ∀ n, (zsm (fun i => if c i = true then 1 else 0) n = n ↔ ∀ i, i < n → c i = true) ∧ zsm (fun i => if c i = true then 1 else 0) n ≤ n
  | 0 => ⟨⟨fun _ i hi => absurd hi (Nat.not_lt_zero _), fun _ => rfl⟩, Nat.le_refl 0⟩
  | n + 1 => by
    obtain ⟨ih, hl⟩ := zsm_full c n
    have e : zsm (fun i => if c i = true then 1 else 0) (n + 1) = zsm (fun i => if c i = true then 1 else 0) n + (if c n = true then 1 else 0) := rfl
    rw [e]
    by_cases hc : c n = true
    · rw [if_pos hc]
      refine ⟨⟨fun h i hi => ?_, fun h => ?_⟩, by omega⟩
      · by_cases e : i = n
        · rw [e]; exact hc
        · exact ih.mp (by omega) i (by omega)
      · have := ih.mpr (fun i hi => h i (by omega))
        omega
    · rw [if_neg hc]
      exact ⟨⟨fun h => by omega, fun h => absurd (h n (by omega)) hc⟩, by omega⟩
theorem z_all_eq {nu : Nat} {V : Nat → zP} {k : Nat} (h7 : nu ≤ 7) : (z_pc 32 (z_awi nu V k) = nu) ↔ (z_awi nu V k = 2 ^ nu - 1) := by
  unfold z_awi
  rw [z_pc_bt _ nu (by omega), (zsm_full _ nu).1, zbt_full]
section ZC
variable {N : Nat} {R : Nat → Nat → Nat} {q nu : Nat} {S : zS} {I : Nat → Nat → Int32} {V : Nat → zP} {pl : zP}
theorem c_would (hN : 5000 ≤ N) (hR : sR R q) (hso : z_sok S) (hS : zCS S q I) {k : Nat} (hk : sm_kd k = (4, 6)) (hne : k ≠ 57) (hp : zPl pl (I k)) (ho : z_pok S pl) : ∃ J, f_X11_wouldLearn N R 0 k I = some (nI (z_up S pl), J) ∧ zfr [57, q + 6, q + 16] I J := by
  have hq3 := hR.2.2.1
  have hq := hR.q
  have k0 := hq.1.1
  have hn := qR_ne hq hk
  obtain ⟨J, j1, j2, j3⟩ := c_become (N := N) (R := R) hk kd_57 hne hp
  have hS2 : zCS S q J := zCS_fr hS (fun c h1 h2 => j3 c (by have := sR_q hR; simp; omega))
  obtain ⟨K, k1, k2, k3⟩ := c_practise hN hq hso hS2 kd_57 j2 ho
  have g0 : K 57 0 = nI (pl 0 + z_up S pl) := k2 0 (by omega)
  have g1 : K k 0 = nI (pl 0) := by
    rw [k3 k (by simp; omega), j3 k (by simp; omega)]
    exact hp 0 (by omega)
  refine ⟨K, ?_, zfr_trans (zfr_mono j3 (by simp)) k3⟩
  simp (disch := omega) only [f_X11_wouldLearn, kd_0, r0_8 hR, kd_57, hR.2.2.1, q_k0 hR, hk, j1, k1, g0, g1, pk_sub, Nat.add_sub_cancel_left, gd_t, gd_pos, lt_eq, Option.bind_some, true_and, and_true, not_true, not_false_iff, false_or, or_false, if_true, if_false, if_pos, if_neg, zcd]
end ZC
theorem zo_pupil_ok {N : Nat} (hN : 5000 ≤ N) : zo_pupil N zInv := by
  intro I R a1 a2 hI
  obtain ⟨q, S, nu, pr, T, na, A, ns, sn, st, nt, tp, fp, im, hR, hO, hC, hM⟩ := hI
  have hR : sR R q := hR
  have hC : zCi q S nu T na A ns sn st nt tp fp im I := hC
  have hM : zMi S nu T na A ns sn st nt tp fp im I := hM
  obtain ⟨hso, h7, ⟨hT1, hT2, hT3, hT4⟩, hAk, hNk, hTp, hIm⟩ := id hO
  have h6 := hso.1
  have hpo : ∀ p, p < nu → z_pok S (T.2.2 p) := fun p hp => (hT4 p hp).1
  have haw : ∀ p, p < nu → T.2.2 p 4 < 2 ^ 30 := fun p hp => (hpo p hp).2.2.2.2.1
  obtain ⟨c1, c2, c3, c4, c5, c6, c7, c8, c9, c10⟩ := id hC
  have cS1 := c1.1
  have cV1 := c2.1
  have hq := hR.q
  have ht := q_t hR
  have hM0 := zcd_M hM 0
  obtain ⟨d1, d2, d3, d4, d5, d6, d7, d8, d9, d10⟩ := id hM0
  rcases zrx a1 nu with ⟨p, hp, rfl⟩ | hx
  · obtain ⟨u1, u2, u3, u4, u5, u6, u7, u8, u9, u10⟩ := id hM
    have e1 := c_pupil_in (N := N) hR c2 h7 hp
    have e2 := m_isPupil (N := N) hR h7 d2 (nI p)
    rw [nI_toInt (by omega), if_pos (by omega)] at e2
    have kp := q_t9 hR (show p < 7 by omega)
    have pl := c2.2 p hp
    rw [show q + 7 + 2 + p = q + 9 + p by omega] at pl
    obtain ⟨v0, v1, v2, v3, v4, v5⟩ := u2.2 p hp
    have l0 := pl 0 (by omega)
    have l1 := pl 1 (by omega)
    have l2 := pl 2 (by omega)
    have l3 := pl 3 (by omega)
    have l4 := pl 4 (by omega)
    have l5 := pl 5 (by omega)
    rcases zrg a2 0 6 with ⟨k, -, hk, rfl⟩ | hx
    · have hc : k = 0 ∨ k = 1 ∨ k = 2 ∨ k = 3 ∨ k = 4 ∨ k = 5 ∨ k = 6 := by omega
      rcases hc with rfl | rfl | rfl | rfl | rfl | rfl | rfl
      · refine ⟨.inl (nI (T.2.2 p 0)), I, nI (T.2.2 p 0), zcd I 0, ?_, ?_, ag_ok _ _ _ (zcd_3 I 0), zInv_q hR hO hC (zfr_refl _ _) hM0 (zcd_lo I 0)⟩
        · simp (disch := omega) only [f_X11_pupil, kd_0, e1, tb_l, kp, l0, gd_t, gd_pos, lt_eq, Option.bind_some, true_and, and_true, not_true, not_false_iff, false_or, or_false, if_true, if_false, if_pos, if_neg, zcd, zl_0, zl_1, zl_2, zl_3, zl_4, zl_5, zl_6, zl_7, zl_8, zl_9, zl_10, zl_12, zl_14, zl_16, zl_20, zl_21, zl_28, zl_30, zl_32, zl_37, zl_40, zl_60, zl_64, zl_99, zl_100, zl_680, zl_700, zl_999, zl_9999, zl_10000, zl_20000, zl_20001, zl_20002, zl_20003, zl_20004, zl_20005, zl_20006, zl_20007, zl_ofNat, nI_add, pk_mul, nI_leI, nI_ltI, nI_eq, nI_clamp, mx_nI, mn_nI, pk_sub, zz_m1]
        · simp (disch := omega) only [f_X12_pupil, kd_80, zl_0, zl_1, e2, r80_25 hR, kd_95, v0, gd_t, gd_pos, lt_eq, Option.bind_some, true_and, and_true, not_true, not_false_iff, false_or, or_false, if_true, if_false, if_pos, if_neg, zcd, up_s, up_n, up_uu, zl_0, zl_1, zl_2, zl_3, zl_4, zl_5, zl_6, zl_7, zl_8, zl_9, zl_10, zl_12, zl_14, zl_16, zl_20, zl_21, zl_28, zl_30, zl_32, zl_37, zl_40, zl_60, zl_64, zl_99, zl_100, zl_680, zl_700, zl_999, zl_9999, zl_10000, zl_20000, zl_20001, zl_20002, zl_20003, zl_20004, zl_20005, zl_20006, zl_20007, zl_ofNat, nI_add, pk_mul, nI_leI, nI_ltI, nI_eq, nI_clamp, mx_nI, mn_nI, pk_sub, zz_m1]
      · refine ⟨.inl (nI (T.2.2 p 1)), I, nI (T.2.2 p 1), zcd I 0, ?_, ?_, ag_ok _ _ _ (zcd_3 I 0), zInv_q hR hO hC (zfr_refl _ _) hM0 (zcd_lo I 0)⟩
        · simp (disch := omega) only [f_X11_pupil, kd_0, e1, tb_l, kp, l1, gd_t, gd_pos, lt_eq, Option.bind_some, true_and, and_true, not_true, not_false_iff, false_or, or_false, if_true, if_false, if_pos, if_neg, zcd, zl_0, zl_1, zl_2, zl_3, zl_4, zl_5, zl_6, zl_7, zl_8, zl_9, zl_10, zl_12, zl_14, zl_16, zl_20, zl_21, zl_28, zl_30, zl_32, zl_37, zl_40, zl_60, zl_64, zl_99, zl_100, zl_680, zl_700, zl_999, zl_9999, zl_10000, zl_20000, zl_20001, zl_20002, zl_20003, zl_20004, zl_20005, zl_20006, zl_20007, zl_ofNat, nI_add, pk_mul, nI_leI, nI_ltI, nI_eq, nI_clamp, mx_nI, mn_nI, pk_sub, zz_m1]
        · simp (disch := omega) only [f_X12_pupil, kd_80, zl_0, zl_1, e2, r80_26 hR, kd_96, v1, gd_t, gd_pos, lt_eq, Option.bind_some, true_and, and_true, not_true, not_false_iff, false_or, or_false, if_true, if_false, if_pos, if_neg, zcd, up_s, up_n, up_uu, zl_0, zl_1, zl_2, zl_3, zl_4, zl_5, zl_6, zl_7, zl_8, zl_9, zl_10, zl_12, zl_14, zl_16, zl_20, zl_21, zl_28, zl_30, zl_32, zl_37, zl_40, zl_60, zl_64, zl_99, zl_100, zl_680, zl_700, zl_999, zl_9999, zl_10000, zl_20000, zl_20001, zl_20002, zl_20003, zl_20004, zl_20005, zl_20006, zl_20007, zl_ofNat, nI_add, pk_mul, nI_leI, nI_ltI, nI_eq, nI_clamp, mx_nI, mn_nI, pk_sub, zz_m1]
      · refine ⟨.inl (nI (T.2.2 p 2)), I, nI (T.2.2 p 2), zcd I 0, ?_, ?_, ag_ok _ _ _ (zcd_3 I 0), zInv_q hR hO hC (zfr_refl _ _) hM0 (zcd_lo I 0)⟩
        · simp (disch := omega) only [f_X11_pupil, kd_0, e1, tb_l, kp, l2, gd_t, gd_pos, lt_eq, Option.bind_some, true_and, and_true, not_true, not_false_iff, false_or, or_false, if_true, if_false, if_pos, if_neg, zcd, zl_0, zl_1, zl_2, zl_3, zl_4, zl_5, zl_6, zl_7, zl_8, zl_9, zl_10, zl_12, zl_14, zl_16, zl_20, zl_21, zl_28, zl_30, zl_32, zl_37, zl_40, zl_60, zl_64, zl_99, zl_100, zl_680, zl_700, zl_999, zl_9999, zl_10000, zl_20000, zl_20001, zl_20002, zl_20003, zl_20004, zl_20005, zl_20006, zl_20007, zl_ofNat, nI_add, pk_mul, nI_leI, nI_ltI, nI_eq, nI_clamp, mx_nI, mn_nI, pk_sub, zz_m1]
        · simp (disch := omega) only [f_X12_pupil, kd_80, zl_0, zl_1, e2, r80_27 hR, kd_97, v2, gd_t, gd_pos, lt_eq, Option.bind_some, true_and, and_true, not_true, not_false_iff, false_or, or_false, if_true, if_false, if_pos, if_neg, zcd, up_s, up_n, up_uu, zl_0, zl_1, zl_2, zl_3, zl_4, zl_5, zl_6, zl_7, zl_8, zl_9, zl_10, zl_12, zl_14, zl_16, zl_20, zl_21, zl_28, zl_30, zl_32, zl_37, zl_40, zl_60, zl_64, zl_99, zl_100, zl_680, zl_700, zl_999, zl_9999, zl_10000, zl_20000, zl_20001, zl_20002, zl_20003, zl_20004, zl_20005, zl_20006, zl_20007, zl_ofNat, nI_add, pk_mul, nI_leI, nI_ltI, nI_eq, nI_clamp, mx_nI, mn_nI, pk_sub, zz_m1]
      · refine ⟨.inl (nI (T.2.2 p 3)), I, nI (T.2.2 p 3), zcd I 0, ?_, ?_, ag_ok _ _ _ (zcd_3 I 0), zInv_q hR hO hC (zfr_refl _ _) hM0 (zcd_lo I 0)⟩
        · simp (disch := omega) only [f_X11_pupil, kd_0, e1, tb_l, kp, l3, gd_t, gd_pos, lt_eq, Option.bind_some, true_and, and_true, not_true, not_false_iff, false_or, or_false, if_true, if_false, if_pos, if_neg, zcd, zl_0, zl_1, zl_2, zl_3, zl_4, zl_5, zl_6, zl_7, zl_8, zl_9, zl_10, zl_12, zl_14, zl_16, zl_20, zl_21, zl_28, zl_30, zl_32, zl_37, zl_40, zl_60, zl_64, zl_99, zl_100, zl_680, zl_700, zl_999, zl_9999, zl_10000, zl_20000, zl_20001, zl_20002, zl_20003, zl_20004, zl_20005, zl_20006, zl_20007, zl_ofNat, nI_add, pk_mul, nI_leI, nI_ltI, nI_eq, nI_clamp, mx_nI, mn_nI, pk_sub, zz_m1]
        · simp (disch := omega) only [f_X12_pupil, kd_80, zl_0, zl_1, e2, r80_28 hR, kd_98, v3, gd_t, gd_pos, lt_eq, Option.bind_some, true_and, and_true, not_true, not_false_iff, false_or, or_false, if_true, if_false, if_pos, if_neg, zcd, up_s, up_n, up_uu, zl_0, zl_1, zl_2, zl_3, zl_4, zl_5, zl_6, zl_7, zl_8, zl_9, zl_10, zl_12, zl_14, zl_16, zl_20, zl_21, zl_28, zl_30, zl_32, zl_37, zl_40, zl_60, zl_64, zl_99, zl_100, zl_680, zl_700, zl_999, zl_9999, zl_10000, zl_20000, zl_20001, zl_20002, zl_20003, zl_20004, zl_20005, zl_20006, zl_20007, zl_ofNat, nI_add, pk_mul, nI_leI, nI_ltI, nI_eq, nI_clamp, mx_nI, mn_nI, pk_sub, zz_m1]
      · refine ⟨.inl (nI (T.2.2 p 4)), I, nI (T.2.2 p 4), zcd I 0, ?_, ?_, ag_ok _ _ _ (zcd_3 I 0), zInv_q hR hO hC (zfr_refl _ _) hM0 (zcd_lo I 0)⟩
        · simp (disch := omega) only [f_X11_pupil, kd_0, e1, tb_l, kp, l4, gd_t, gd_pos, lt_eq, Option.bind_some, true_and, and_true, not_true, not_false_iff, false_or, or_false, if_true, if_false, if_pos, if_neg, zcd, zl_0, zl_1, zl_2, zl_3, zl_4, zl_5, zl_6, zl_7, zl_8, zl_9, zl_10, zl_12, zl_14, zl_16, zl_20, zl_21, zl_28, zl_30, zl_32, zl_37, zl_40, zl_60, zl_64, zl_99, zl_100, zl_680, zl_700, zl_999, zl_9999, zl_10000, zl_20000, zl_20001, zl_20002, zl_20003, zl_20004, zl_20005, zl_20006, zl_20007, zl_ofNat, nI_add, pk_mul, nI_leI, nI_ltI, nI_eq, nI_clamp, mx_nI, mn_nI, pk_sub, zz_m1]
        · simp (disch := omega) only [f_X12_pupil, kd_80, zl_0, zl_1, e2, r80_29 hR, kd_99, v4, gd_t, gd_pos, lt_eq, Option.bind_some, true_and, and_true, not_true, not_false_iff, false_or, or_false, if_true, if_false, if_pos, if_neg, zcd, up_s, up_n, up_uu, zl_0, zl_1, zl_2, zl_3, zl_4, zl_5, zl_6, zl_7, zl_8, zl_9, zl_10, zl_12, zl_14, zl_16, zl_20, zl_21, zl_28, zl_30, zl_32, zl_37, zl_40, zl_60, zl_64, zl_99, zl_100, zl_680, zl_700, zl_999, zl_9999, zl_10000, zl_20000, zl_20001, zl_20002, zl_20003, zl_20004, zl_20005, zl_20006, zl_20007, zl_ofNat, nI_add, pk_mul, nI_leI, nI_ltI, nI_eq, nI_clamp, mx_nI, mn_nI, pk_sub, zz_m1]
      · refine ⟨.inl (nI (T.2.2 p 5)), I, nI (T.2.2 p 5), zcd I 0, ?_, ?_, ag_ok _ _ _ (zcd_3 I 0), zInv_q hR hO hC (zfr_refl _ _) hM0 (zcd_lo I 0)⟩
        · simp (disch := omega) only [f_X11_pupil, kd_0, e1, tb_l, kp, l5, gd_t, gd_pos, lt_eq, Option.bind_some, true_and, and_true, not_true, not_false_iff, false_or, or_false, if_true, if_false, if_pos, if_neg, zcd, zl_0, zl_1, zl_2, zl_3, zl_4, zl_5, zl_6, zl_7, zl_8, zl_9, zl_10, zl_12, zl_14, zl_16, zl_20, zl_21, zl_28, zl_30, zl_32, zl_37, zl_40, zl_60, zl_64, zl_99, zl_100, zl_680, zl_700, zl_999, zl_9999, zl_10000, zl_20000, zl_20001, zl_20002, zl_20003, zl_20004, zl_20005, zl_20006, zl_20007, zl_ofNat, nI_add, pk_mul, nI_leI, nI_ltI, nI_eq, nI_clamp, mx_nI, mn_nI, pk_sub, zz_m1]
        · simp (disch := omega) only [f_X12_pupil, kd_80, zl_0, zl_1, e2, r80_8 hR, kd_88, v5, gd_t, gd_pos, lt_eq, Option.bind_some, true_and, and_true, not_true, not_false_iff, false_or, or_false, if_true, if_false, if_pos, if_neg, zcd, up_s, up_n, up_uu, zl_0, zl_1, zl_2, zl_3, zl_4, zl_5, zl_6, zl_7, zl_8, zl_9, zl_10, zl_12, zl_14, zl_16, zl_20, zl_21, zl_28, zl_30, zl_32, zl_37, zl_40, zl_60, zl_64, zl_99, zl_100, zl_680, zl_700, zl_999, zl_9999, zl_10000, zl_20000, zl_20001, zl_20002, zl_20003, zl_20004, zl_20005, zl_20006, zl_20007, zl_ofNat, nI_add, pk_mul, nI_leI, nI_ltI, nI_eq, nI_clamp, mx_nI, mn_nI, pk_sub, zz_m1]
      · obtain ⟨J, j1, j2⟩ := c_would hN hR hso c1 kp (by have := sR_q hR; omega) pl (hpo p hp)
        have hJ : zfr (zScr q) I J := zfr_mono j2 (by simp [zScr])
        have hMJ := zMi_lo hM (zScr_lt hR hJ)
        have e2 := m_isPupil (N := N) hR h7 (zcd_M hMJ 0).2.1 (nI p)
        rw [nI_toInt (by omega), if_pos (by omega)] at e2
        obtain ⟨K, k1, k2⟩ := m_gain hN hR hso (zcd_M hMJ 0).1 (zcd_M hMJ 0).2.1 h7 hp (hpo p hp)
        refine ⟨.inl (nI (z_up S (T.2.2 p))), J, nI (z_up S (T.2.2 p)), K, ?_, ?_, ag_ok _ _ _ ?_, zInv_q hR hO hC hJ (zcd_z hMJ k2 (by simp [zMsc]) (by simp)) (fun k hk => (zfm_lo k2 (by simp) k hk).trans (zcd_lo J 0 k hk))⟩
        · simp (disch := omega) only [f_X11_pupil, kd_0, e1, tb_l, j1, gd_t, gd_pos, lt_eq, Option.bind_some, true_and, and_true, not_true, not_false_iff, false_or, or_false, if_true, if_false, if_pos, if_neg, zcd, zl_0, zl_1, zl_2, zl_3, zl_4, zl_5, zl_6, zl_7, zl_8, zl_9, zl_10, zl_12, zl_14, zl_16, zl_20, zl_21, zl_28, zl_30, zl_32, zl_37, zl_40, zl_60, zl_64, zl_99, zl_100, zl_680, zl_700, zl_999, zl_9999, zl_10000, zl_20000, zl_20001, zl_20002, zl_20003, zl_20004, zl_20005, zl_20006, zl_20007, zl_ofNat, nI_add, pk_mul, nI_leI, nI_ltI, nI_eq, nI_clamp, mx_nI, mn_nI, pk_sub, zz_m1]
        · simp (disch := omega) only [f_X12_pupil, kd_80, zl_0, e2, k1, gd_t, gd_pos, lt_eq, Option.bind_some, true_and, and_true, not_true, not_false_iff, false_or, or_false, if_true, if_false, if_pos, if_neg, zcd, zl_0, zl_1, zl_2, zl_3, zl_4, zl_5, zl_6, zl_7, zl_8, zl_9, zl_10, zl_12, zl_14, zl_16, zl_20, zl_21, zl_28, zl_30, zl_32, zl_37, zl_40, zl_60, zl_64, zl_99, zl_100, zl_680, zl_700, zl_999, zl_9999, zl_10000, zl_20000, zl_20001, zl_20002, zl_20003, zl_20004, zl_20005, zl_20006, zl_20007, zl_ofNat, nI_add, pk_mul, nI_leI, nI_ltI, nI_eq, nI_clamp, mx_nI, mn_nI, pk_sub, zz_m1]
        · rw [k2.2 3 (by simp), zcd_3]
    · refine ⟨_, I, 0, zcd I 1, ?_, ?_, ag_n _ _ (zcd_3 I 1), zInv_q hR hO hC (zfr_refl _ _) (zcd_M hM 1) (zcd_lo I 1)⟩
      · simp (disch := omega) only [f_X11_pupil, kd_0, e1, tb_l, zl_0, zl_1, zl_2, zl_3, zl_4, zl_5, zl_6, zl_7, zl_8, zl_9, zl_10, zl_12, zl_14, zl_16, zl_20, zl_21, zl_28, zl_30, zl_32, zl_37, zl_40, zl_60, zl_64, zl_99, zl_100, zl_680, zl_700, zl_999, zl_9999, zl_10000, zl_20000, zl_20001, zl_20002, zl_20003, zl_20004, zl_20005, zl_20006, zl_20007, zeq_l, gd_t, gd_pos, lt_eq, Option.bind_some, true_and, and_true, not_true, not_false_iff, false_or, or_false, if_true, if_false, if_pos, if_neg, zcd]
      · simp (disch := omega) only [f_X12_pupil, kd_80, zl_0, zl_1, zl_2, zl_3, zl_4, zl_5, zl_6, zl_7, zl_8, zl_9, zl_10, zl_12, zl_14, zl_16, zl_20, zl_21, zl_28, zl_30, zl_32, zl_37, zl_40, zl_60, zl_64, zl_99, zl_100, zl_680, zl_700, zl_999, zl_9999, zl_10000, zl_20000, zl_20001, zl_20002, zl_20003, zl_20004, zl_20005, zl_20006, zl_20007, e2, zeq_l, nI_toInt, m_fail, gd_t, gd_pos, lt_eq, Option.bind_some, true_and, and_true, not_true, not_false_iff, false_or, or_false, if_true, if_false, if_pos, if_neg, zcd, up_s, up_n, up_uu]
  · have e1 := c_pupil_out (N := N) hR c2 h7 hx
    have e2 := m_isPupil (N := N) hR h7 d2 a1
    rw [if_neg (by omega)] at e2
    refine ⟨_, I, 0, zcd I 1, ?_, ?_, ag_n _ _ (zcd_3 I 1), zInv_q hR hO hC (zfr_refl _ _) (zcd_M hM 1) (zcd_lo I 1)⟩
    · simp (disch := omega) only [f_X11_pupil, kd_0, hR.2.2.1, q_k0 hR, q_r5 hR, q_t0 hR, e1, tb_r, tb_l, gd_t, gd_pos, lt_eq, Option.bind_some, true_and, and_true, not_true, not_false_iff, false_or, or_false, if_true, if_false, if_pos, if_neg, zcd]
    · simp (disch := omega) only [f_X12_pupil, kd_80, zl_0, zl_1, e2, m_fail, gd_t, gd_pos, lt_eq, Option.bind_some, true_and, and_true, not_true, not_false_iff, false_or, or_false, if_true, if_false, if_pos, if_neg, zcd, up_s, up_n, up_uu, nI_eq]
theorem zo_fits_ok {N : Nat} (hN : 5000 ≤ N) : zo_fits N zInv := by
  intro I R a1 a2 hI
  obtain ⟨q, S, nu, pr, T, na, A, ns, sn, st, nt, tp, fp, im, hR, hO, hC, hM⟩ := hI
  have hR : sR R q := hR
  have hC : zCi q S nu T na A ns sn st nt tp fp im I := hC
  have hM : zMi S nu T na A ns sn st nt tp fp im I := hM
  obtain ⟨hso, h7, ⟨hT1, hT2, hT3, hT4⟩, hAk, hNk, hTp, hIm⟩ := id hO
  have h6 := hso.1
  have hpo : ∀ p, p < nu → z_pok S (T.2.2 p) := fun p hp => (hT4 p hp).1
  have haw : ∀ p, p < nu → T.2.2 p 4 < 2 ^ 30 := fun p hp => (hpo p hp).2.2.2.2.1
  obtain ⟨c1, c2, c3, c4, c5, c6, c7, c8, c9, c10⟩ := id hC
  have cS1 := c1.1
  have cV1 := c2.1
  have hq := hR.q
  have ht := q_t hR
  have hM0 := zcd_M hM 0
  obtain ⟨d1, d2, d3, d4, d5, d6, d7, d8, d9, d10⟩ := id hM0
  rcases zrx a1 nu with ⟨p, hp, rfl⟩ | hx
  · have l9 := (hpo p hp).1
    have e1 := c_pupil_in (N := N) hR c2 h7 hp
    have e2 := m_isPupil (N := N) hR h7 d2 (nI p)
    rw [nI_toInt (by omega), if_pos (by omega)] at e2
    have kp := q_t9 hR (show p < 7 by omega)
    have pl := c2.2 p hp
    rw [show q + 7 + 2 + p = q + 9 + p by omega] at pl
    have l0 := pl 0 (by omega)
    rcases zrx a2 (z_np S) with ⟨w, hw, rfl⟩ | hx
    · have e3 := c_piece_in (N := N) hR hso c1 hw
      have e4 := m_isPiece (N := N) hR hso d1 (nI w)
      rw [nI_toInt (by omega), if_pos (by omega)] at e4
      have e5 := c_fit (N := N) hN hq hso c1 hw l9
      have e6 := m_fitOf (N := N) hN hR hso d1 d2 h7 hp l9 hw
      refine ⟨.inl (nI (z_ft S w (T.2.2 p 0) (z_bn S w) 0)), I, nI (z_ft S w (T.2.2 p 0) (z_bn S w) 0), zcd I 0, ?_, ?_, ag_ok _ _ _ (zcd_3 I 0), zInv_q hR hO hC (zfr_refl _ _) hM0 (zcd_lo I 0)⟩
      · simp (disch := omega) only [f_X11_fits, kd_0, hR.2.2.1, q_k0 hR, kp, e1, e3, tb_l, l0, e5, gd_t, gd_pos, lt_eq, Option.bind_some, true_and, and_true, not_true, not_false_iff, false_or, or_false, if_true, if_false, if_pos, if_neg, zcd]
      · simp (disch := omega) only [f_X12_fits, kd_80, zl_0, zl_1, e2, e4, e6, gd_t, gd_pos, lt_eq, Option.bind_some, true_and, and_true, not_true, not_false_iff, false_or, or_false, if_true, if_false, if_pos, if_neg, zcd, nI_eq]
    · have e3 := c_piece_out (N := N) hR hso c1 hx
      have e4 := m_isPiece (N := N) hR hso d1 a2
      rw [if_neg (by omega)] at e4
      refine ⟨_, I, 0, zcd I 1, ?_, ?_, ag_n _ _ (zcd_3 I 1), zInv_q hR hO hC (zfr_refl _ _) (zcd_M hM 1) (zcd_lo I 1)⟩
      · simp (disch := omega) only [f_X11_fits, kd_0, e1, e3, tb_l, tb_r, gd_t, gd_pos, lt_eq, Option.bind_some, true_and, and_true, not_true, not_false_iff, false_or, or_false, if_true, if_false, if_pos, if_neg, zcd]
      · simp (disch := omega) only [f_X12_fits, kd_80, zl_0, zl_1, e2, e4, m_fail, gd_t, gd_pos, lt_eq, Option.bind_some, true_and, and_true, not_true, not_false_iff, false_or, or_false, if_true, if_false, if_pos, if_neg, zcd, up_s, up_n, up_uu, nI_eq]
  · have e1 := c_pupil_out (N := N) hR c2 h7 hx
    have e2 := m_isPupil (N := N) hR h7 d2 a1
    rw [if_neg (by omega)] at e2
    refine ⟨_, I, 0, zcd I 1, ?_, ?_, ag_n _ _ (zcd_3 I 1), zInv_q hR hO hC (zfr_refl _ _) (zcd_M hM 1) (zcd_lo I 1)⟩
    · simp (disch := omega) only [f_X11_fits, kd_0, hR.2.2.1, q_k0 hR, q_r5 hR, q_t0 hR, e1, tb_r, tb_l, gd_t, gd_pos, lt_eq, Option.bind_some, true_and, and_true, not_true, not_false_iff, false_or, or_false, if_true, if_false, if_pos, if_neg, zcd]
    · simp (disch := omega) only [f_X12_fits, kd_80, zl_0, zl_1, e2, m_fail, gd_t, gd_pos, lt_eq, Option.bind_some, true_and, and_true, not_true, not_false_iff, false_or, or_false, if_true, if_false, if_pos, if_neg, zcd, up_s, up_n, up_uu, nI_eq]
def z_rep (S : zS) (s : Nat) : Nat → Nat := zbt (fun w => decide (z_ft S w s (z_bn S w) 0 = z_bn S w))
theorem z_ft_le {S : zS} {w s : Nat} : ∀ d b, z_ft S w s d b ≤ b + d
  | 0, b => Nat.le_refl _
  | d + 1, b => by
    have := z_ft_le (S := S) (w := w) (s := s) d (b + 1)
    unfold z_ft
    split <;> omega
theorem zo_repertoire_ok {N : Nat} (hN : 5000 ≤ N) : zo_repertoire N zInv := by
  intro I R a1 hI
  obtain ⟨q, S, nu, pr, T, na, A, ns, sn, st, nt, tp, fp, im, hR, hO, hC, hM⟩ := hI
  have hR : sR R q := hR
  have hC : zCi q S nu T na A ns sn st nt tp fp im I := hC
  have hM : zMi S nu T na A ns sn st nt tp fp im I := hM
  obtain ⟨hso, h7, ⟨hT1, hT2, hT3, hT4⟩, hAk, hNk, hTp, hIm⟩ := id hO
  have h6 := hso.1
  have hpo : ∀ p, p < nu → z_pok S (T.2.2 p) := fun p hp => (hT4 p hp).1
  have haw : ∀ p, p < nu → T.2.2 p 4 < 2 ^ 30 := fun p hp => (hpo p hp).2.2.2.2.1
  obtain ⟨c1, c2, c3, c4, c5, c6, c7, c8, c9, c10⟩ := id hC
  have cS1 := c1.1
  have cV1 := c2.1
  have hq := hR.q
  have ht := q_t hR
  have hM0 := zcd_M hM 0
  obtain ⟨d1, d2, d3, d4, d5, d6, d7, d8, d9, d10⟩ := id hM0
  rcases zrx a1 nu with ⟨p, hp, rfl⟩ | hx
  · have l9 := (hpo p hp).1
    have e1 := c_pupil_in (N := N) hR c2 h7 hp
    have e2 := m_isPupil (N := N) hR h7 d2 (nI p)
    rw [nI_toInt (by omega), if_pos (by omega)] at e2
    have kp := q_t9 hR (show p < 7 by omega)
    have pl := c2.2 p hp
    rw [show q + 7 + 2 + p = q + 9 + p by omega] at pl
    have l0 := pl 0 (by omega)
    have L1 := zu_loop (fun n i a => f_X11_repertoire_11 N R n 0 (q + 9 + p) a (nI i) I) (fun i => nI (z_rep S (T.2.2 p 0) i)) (.inl (nI (z_rep S (T.2.2 p 0) (z_np S))), I) (z_np S)
      (fun n => by simp (disch := omega) only [f_X11_repertoire_11, kd_0, hR.2.2.1, q_k0 hR, cS1, nI_leI, gd_t, gd_pos, lt_eq, Option.bind_some, true_and, and_true, not_true, not_false_iff, false_or, or_false, if_true, if_false, if_pos, if_neg, zcd])
      (fun n i hi => by
        have e5 := c_fit (N := N) hN hq hso c1 hi l9
        have g1 := (c1.2.1 i hi).1
        have h8 := (hso.2.1 _ hi).2.1
        have hz := z_ft_le (S := S) (w := i) (s := T.2.2 p 0) (z_bn S i) 0
        by_cases hc : z_ft S i (T.2.2 p 0) (z_bn S i) 0 = z_bn S i
        · have e9 : z_rep S (T.2.2 p 0) (i + 1) = z_rep S (T.2.2 p 0) i ||| 2 ^ i := zbt_t (decide_eq_true hc)
          simp (disch := omega) only [f_X11_repertoire_11, kd_0, hR.2.2.1, q_k0 hR, q_r0 hR, q_k1 hR, kp, cS1, l0, e5, g1, e9, gd_t, gd_pos, lt_eq, Option.bind_some, true_and, and_true, not_true, not_false_iff, false_or, or_false, if_true, if_false, if_pos, if_neg, zcd, zl_0, zl_1, zl_2, zl_3, zl_4, zl_5, zl_6, zl_7, zl_8, zl_9, zl_10, zl_12, zl_14, zl_16, zl_20, zl_21, zl_28, zl_30, zl_32, zl_37, zl_40, zl_60, zl_64, zl_99, zl_100, zl_680, zl_700, zl_999, zl_9999, zl_10000, zl_20000, zl_20001, zl_20002, zl_20003, zl_20004, zl_20005, zl_20006, zl_20007, zl_ofNat, nI_add, pk_mul, nI_leI, nI_ltI, nI_eq, nI_clamp, mx_nI, mn_nI, pk_sub, zz_m1, zb_shl, zb_or]
        · have e9 : z_rep S (T.2.2 p 0) (i + 1) = z_rep S (T.2.2 p 0) i := zbt_f (fun h => hc (of_decide_eq_true h))
          simp (disch := omega) only [f_X11_repertoire_11, kd_0, hR.2.2.1, q_k0 hR, q_r0 hR, q_k1 hR, kp, cS1, l0, e5, g1, e9, gd_t, gd_pos, lt_eq, Option.bind_some, true_and, and_true, not_true, not_false_iff, false_or, or_false, if_true, if_false, if_pos, if_neg, zcd, zl_0, zl_1, zl_2, zl_3, zl_4, zl_5, zl_6, zl_7, zl_8, zl_9, zl_10, zl_12, zl_14, zl_16, zl_20, zl_21, zl_28, zl_30, zl_32, zl_37, zl_40, zl_60, zl_64, zl_99, zl_100, zl_680, zl_700, zl_999, zl_9999, zl_10000, zl_20000, zl_20001, zl_20002, zl_20003, zl_20004, zl_20005, zl_20006, zl_20007, zl_ofNat, nI_add, pk_mul, nI_leI, nI_ltI, nI_eq, nI_clamp, mx_nI, mn_nI, pk_sub, zz_m1]) (z_np S) 0 N (by omega) (by omega)
    have L2 := zu_loop (fun n i a => f_X12_repertoire_23 N R n 80 (nI p) a (nI i) (zcd I 0)) (fun i => nI (z_rep S (T.2.2 p 0) i)) (nI (z_rep S (T.2.2 p 0) (z_np S)), zcd I 0) (z_np S)
      (fun n => by
        have dS2 := hM.1.1
        simp (disch := omega) only [f_X12_repertoire_23, kd_80, r80_4 hR, kd_84, dS2, gd_t, gd_pos, lt_eq, Option.bind_some, true_and, and_true, not_true, not_false_iff, false_or, or_false, if_true, if_false, if_pos, if_neg, zcd, up_n, zl_0, zl_1, zl_2, zl_3, zl_4, zl_5, zl_6, zl_7, zl_8, zl_9, zl_10, zl_12, zl_14, zl_16, zl_20, zl_21, zl_28, zl_30, zl_32, zl_37, zl_40, zl_60, zl_64, zl_99, zl_100, zl_680, zl_700, zl_999, zl_9999, zl_10000, zl_20000, zl_20001, zl_20002, zl_20003, zl_20004, zl_20005, zl_20006, zl_20007, zl_ofNat, nI_add, pk_mul, nI_leI, nI_ltI, nI_eq, nI_clamp, mx_nI, mn_nI, pk_sub, zz_m1])
      (fun n i hi => by
        have dS2 := hM.1.1
        have e5 := m_fitOf (N := N) hN hR hso d1 d2 h7 hp l9 hi
        have g1 := (hM.1.2.1 i hi).1
        have h8 := (hso.2.1 _ hi).2.1
        have hz := z_ft_le (S := S) (w := i) (s := T.2.2 p 0) (z_bn S i) 0
        by_cases hc : z_ft S i (T.2.2 p 0) (z_bn S i) 0 = z_bn S i
        · have e9 : z_rep S (T.2.2 p 0) (i + 1) = z_rep S (T.2.2 p 0) i ||| 2 ^ i := zbt_t (decide_eq_true hc)
          simp (disch := omega) only [f_X12_repertoire_23, kd_80, r80_4 hR, kd_84, r80_6 hR, kd_86, dS2, e5, g1, e9, gd_t, gd_pos, lt_eq, Option.bind_some, true_and, and_true, not_true, not_false_iff, false_or, or_false, if_true, if_false, if_pos, if_neg, zcd, up_n, zl_0, zl_1, zl_2, zl_3, zl_4, zl_5, zl_6, zl_7, zl_8, zl_9, zl_10, zl_12, zl_14, zl_16, zl_20, zl_21, zl_28, zl_30, zl_32, zl_37, zl_40, zl_60, zl_64, zl_99, zl_100, zl_680, zl_700, zl_999, zl_9999, zl_10000, zl_20000, zl_20001, zl_20002, zl_20003, zl_20004, zl_20005, zl_20006, zl_20007, zl_ofNat, nI_add, pk_mul, nI_leI, nI_ltI, nI_eq, nI_clamp, mx_nI, mn_nI, pk_sub, zz_m1, zb_shl, zb_or]
        · have e9 : z_rep S (T.2.2 p 0) (i + 1) = z_rep S (T.2.2 p 0) i := zbt_f (fun h => hc (of_decide_eq_true h))
          simp (disch := omega) only [f_X12_repertoire_23, kd_80, r80_4 hR, kd_84, r80_6 hR, kd_86, dS2, e5, g1, e9, gd_t, gd_pos, lt_eq, Option.bind_some, true_and, and_true, not_true, not_false_iff, false_or, or_false, if_true, if_false, if_pos, if_neg, zcd, up_n, zl_0, zl_1, zl_2, zl_3, zl_4, zl_5, zl_6, zl_7, zl_8, zl_9, zl_10, zl_12, zl_14, zl_16, zl_20, zl_21, zl_28, zl_30, zl_32, zl_37, zl_40, zl_60, zl_64, zl_99, zl_100, zl_680, zl_700, zl_999, zl_9999, zl_10000, zl_20000, zl_20001, zl_20002, zl_20003, zl_20004, zl_20005, zl_20006, zl_20007, zl_ofNat, nI_add, pk_mul, nI_leI, nI_ltI, nI_eq, nI_clamp, mx_nI, mn_nI, pk_sub, zz_m1, zb_or, Nat.or_zero]) (z_np S) 0 N (by omega) (by omega)
    refine ⟨.inl (nI (z_rep S (T.2.2 p 0) (z_np S))), I, nI (z_rep S (T.2.2 p 0) (z_np S)), zcd I 0, ?_, ?_, ag_ok _ _ _ (zcd_3 I 0), zInv_q hR hO hC (zfr_refl _ _) hM0 (zcd_lo I 0)⟩
    · rw [← L1]
      simp (disch := omega) only [f_X11_repertoire, kd_0, e1, tb_l, gd_t, gd_pos, lt_eq, Option.bind_some, true_and, and_true, not_true, not_false_iff, false_or, or_false, if_true, if_false, if_pos, if_neg, zcd]
      rfl
    · rw [← L2]
      simp (disch := omega) only [f_X12_repertoire, kd_80, zl_0, zl_1, e2, gd_t, gd_pos, lt_eq, Option.bind_some, true_and, and_true, not_true, not_false_iff, false_or, or_false, if_true, if_false, if_pos, if_neg, zcd, nI_eq]
      rfl
  · have e1 := c_pupil_out (N := N) hR c2 h7 hx
    have e2 := m_isPupil (N := N) hR h7 d2 a1
    rw [if_neg (by omega)] at e2
    refine ⟨_, I, 0, zcd I 1, ?_, ?_, ag_n _ _ (zcd_3 I 1), zInv_q hR hO hC (zfr_refl _ _) (zcd_M hM 1) (zcd_lo I 1)⟩
    · simp (disch := omega) only [f_X11_repertoire, kd_0, hR.2.2.1, q_k0 hR, q_r5 hR, q_t0 hR, e1, tb_r, tb_l, gd_t, gd_pos, lt_eq, Option.bind_some, true_and, and_true, not_true, not_false_iff, false_or, or_false, if_true, if_false, if_pos, if_neg, zcd]
    · simp (disch := omega) only [f_X12_repertoire, kd_80, zl_0, zl_1, e2, m_fail, gd_t, gd_pos, lt_eq, Option.bind_some, true_and, and_true, not_true, not_false_iff, false_or, or_false, if_true, if_false, if_pos, if_neg, zcd, up_s, up_n, up_uu, nI_eq]
theorem zo_work_ok {N : Nat} (hN : 5000 ≤ N) : zo_work N zInv := by
  intro I R a1 hI
  obtain ⟨q, S, nu, pr, T, na, A, ns, sn, st, nt, tp, fp, im, hR, hO, hC, hM⟩ := hI
  have hR : sR R q := hR
  have hC : zCi q S nu T na A ns sn st nt tp fp im I := hC
  have hM : zMi S nu T na A ns sn st nt tp fp im I := hM
  obtain ⟨hso, h7, ⟨hT1, hT2, hT3, hT4⟩, hAk, hNk, hTp, hIm⟩ := id hO
  have h6 := hso.1
  have hpo : ∀ p, p < nu → z_pok S (T.2.2 p) := fun p hp => (hT4 p hp).1
  have haw : ∀ p, p < nu → T.2.2 p 4 < 2 ^ 30 := fun p hp => (hpo p hp).2.2.2.2.1
  obtain ⟨c1, c2, c3, c4, c5, c6, c7, c8, c9, c10⟩ := id hC
  have cS1 := c1.1
  have cV1 := c2.1
  have hq := hR.q
  have ht := q_t hR
  have hM0 := zcd_M hM 0
  obtain ⟨d1, d2, d3, d4, d5, d6, d7, d8, d9, d10⟩ := id hM0
  rcases zrx a1 (z_np S) with ⟨w, hw, rfl⟩ | hx
  · have e1 := c_piece_in (N := N) hR hso c1 hw
    have e2 := m_isPiece (N := N) hR hso d1 (nI w)
    rw [nI_toInt (by omega), if_pos (by omega)] at e2
    have g1 := (c1.2.1 w hw).1
    have m1 := (hM.1.2.1 w hw).1
    have h8 := (hso.2.1 _ hw).2.1
    have L1 := zu_loop (fun n i a => f_X11_work_9 N R n 0 (nI w) a (nI i) I) (fun i => nI (zsm (fun i => z_hd S w i) i)) (.inl (nI (zsm (fun i => z_hd S w i) (z_bn S w))), I) (z_bn S w)
      (fun n => by simp (disch := omega) only [f_X11_work_9, kd_0, hR.2.2.1, q_k0 hR, q_r0 hR, q_k1 hR, g1, gd_t, gd_pos, lt_eq, Option.bind_some, true_and, and_true, not_true, not_false_iff, false_or, or_false, if_true, if_false, if_pos, if_neg, zcd, zl_0, zl_1, zl_2, zl_3, zl_4, zl_5, zl_6, zl_7, zl_8, zl_9, zl_10, zl_12, zl_14, zl_16, zl_20, zl_21, zl_28, zl_30, zl_32, zl_37, zl_40, zl_60, zl_64, zl_99, zl_100, zl_680, zl_700, zl_999, zl_9999, zl_10000, zl_20000, zl_20001, zl_20002, zl_20003, zl_20004, zl_20005, zl_20006, zl_20007, zl_ofNat, nI_add, pk_mul, nI_leI, nI_ltI, nI_eq, nI_clamp, mx_nI, mn_nI, pk_sub, zz_m1])
      (fun n i hi => by
        have e5 := c_hardOf (N := N) hq hso c1 hw (i := i) (by omega)
        rw [if_pos hi] at e5
        have e9 : zsm (fun i => z_hd S w i) (i + 1) = zsm (fun i => z_hd S w i) i + z_hd S w i := rfl
        simp (disch := omega) only [f_X11_work_9, kd_0, hR.2.2.1, q_k0 hR, q_r0 hR, q_k1 hR, g1, e5, e9, gd_t, gd_pos, lt_eq, Option.bind_some, true_and, and_true, not_true, not_false_iff, false_or, or_false, if_true, if_false, if_pos, if_neg, zcd, zl_0, zl_1, zl_2, zl_3, zl_4, zl_5, zl_6, zl_7, zl_8, zl_9, zl_10, zl_12, zl_14, zl_16, zl_20, zl_21, zl_28, zl_30, zl_32, zl_37, zl_40, zl_60, zl_64, zl_99, zl_100, zl_680, zl_700, zl_999, zl_9999, zl_10000, zl_20000, zl_20001, zl_20002, zl_20003, zl_20004, zl_20005, zl_20006, zl_20007, zl_ofNat, nI_add, pk_mul, nI_leI, nI_ltI, nI_eq, nI_clamp, mx_nI, mn_nI, pk_sub, zz_m1]) (z_bn S w) 0 N (by omega) (by omega)
    have L2 := zu_loop (fun n i a => f_X12_work_23 N R n 80 (nI w) a (nI i) (zcd I 0)) (fun i => nI (zsm (fun i => z_hd S w i) i)) (nI (zsm (fun i => z_hd S w i) (z_bn S w)), zcd I 0) (z_bn S w)
      (fun n => by simp (disch := omega) only [f_X12_work_23, kd_80, r80_6 hR, kd_86, m1, gd_t, gd_pos, lt_eq, Option.bind_some, true_and, and_true, not_true, not_false_iff, false_or, or_false, if_true, if_false, if_pos, if_neg, zcd, up_n, zl_0, zl_1, zl_2, zl_3, zl_4, zl_5, zl_6, zl_7, zl_8, zl_9, zl_10, zl_12, zl_14, zl_16, zl_20, zl_21, zl_28, zl_30, zl_32, zl_37, zl_40, zl_60, zl_64, zl_99, zl_100, zl_680, zl_700, zl_999, zl_9999, zl_10000, zl_20000, zl_20001, zl_20002, zl_20003, zl_20004, zl_20005, zl_20006, zl_20007, zl_ofNat, nI_add, pk_mul, nI_leI, nI_ltI, nI_eq, nI_clamp, mx_nI, mn_nI, pk_sub, zz_m1])
      (fun n i hi => by
        have e5 := m_hardOf (N := N) hR hso d1 hw hi
        have e9 : zsm (fun i => z_hd S w i) (i + 1) = zsm (fun i => z_hd S w i) i + z_hd S w i := rfl
        simp (disch := omega) only [f_X12_work_23, kd_80, r80_6 hR, kd_86, m1, e5, e9, gd_t, gd_pos, lt_eq, Option.bind_some, true_and, and_true, not_true, not_false_iff, false_or, or_false, if_true, if_false, if_pos, if_neg, zcd, up_n, zl_0, zl_1, zl_2, zl_3, zl_4, zl_5, zl_6, zl_7, zl_8, zl_9, zl_10, zl_12, zl_14, zl_16, zl_20, zl_21, zl_28, zl_30, zl_32, zl_37, zl_40, zl_60, zl_64, zl_99, zl_100, zl_680, zl_700, zl_999, zl_9999, zl_10000, zl_20000, zl_20001, zl_20002, zl_20003, zl_20004, zl_20005, zl_20006, zl_20007, zl_ofNat, nI_add, pk_mul, nI_leI, nI_ltI, nI_eq, nI_clamp, mx_nI, mn_nI, pk_sub, zz_m1]) (z_bn S w) 0 N (by omega) (by omega)
    refine ⟨.inl (nI (zsm (fun i => z_hd S w i) (z_bn S w))), I, nI (zsm (fun i => z_hd S w i) (z_bn S w)), zcd I 0, ?_, ?_, ag_ok _ _ _ (zcd_3 I 0), zInv_q hR hO hC (zfr_refl _ _) hM0 (zcd_lo I 0)⟩
    · rw [← L1]
      simp (disch := omega) only [f_X11_work, kd_0, e1, tb_l, gd_t, gd_pos, lt_eq, Option.bind_some, true_and, and_true, not_true, not_false_iff, false_or, or_false, if_true, if_false, if_pos, if_neg, zcd]
      rfl
    · rw [← L2]
      simp (disch := omega) only [f_X12_work, kd_80, zl_0, zl_1, e2, gd_t, gd_pos, lt_eq, Option.bind_some, true_and, and_true, not_true, not_false_iff, false_or, or_false, if_true, if_false, if_pos, if_neg, zcd, nI_eq]
      rfl
  · have e1 := c_piece_out (N := N) hR hso c1 hx
    have e2 := m_isPiece (N := N) hR hso d1 a1
    rw [if_neg (by omega)] at e2
    refine ⟨_, I, 0, zcd I 1, ?_, ?_, ag_n _ _ (zcd_3 I 1), zInv_q hR hO hC (zfr_refl _ _) (zcd_M hM 1) (zcd_lo I 1)⟩
    · simp (disch := omega) only [f_X11_work, kd_0, hR.2.2.1, q_k0 hR, e1, tb_r, gd_t, gd_pos, lt_eq, Option.bind_some, true_and, and_true, not_true, not_false_iff, false_or, or_false, if_true, if_false, if_pos, if_neg, zcd]
    · simp (disch := omega) only [f_X12_work, kd_80, zl_0, zl_1, e2, m_fail, gd_t, gd_pos, lt_eq, Option.bind_some, true_and, and_true, not_true, not_false_iff, false_or, or_false, if_true, if_false, if_pos, if_neg, zcd, up_s, up_n, up_uu, nI_eq]
def z_mat (V : Nat → zP) (p : Nat) : Nat → Nat := zbt (fun j => decide (¬ j = p ∧ V j 2 = V p 2))
theorem zo_mates_ok {N : Nat} (hN : 5000 ≤ N) : zo_mates N zInv := by
  intro I R a1 hI
  obtain ⟨q, S, nu, pr, T, na, A, ns, sn, st, nt, tp, fp, im, hR, hO, hC, hM⟩ := hI
  have hR : sR R q := hR
  have hC : zCi q S nu T na A ns sn st nt tp fp im I := hC
  have hM : zMi S nu T na A ns sn st nt tp fp im I := hM
  obtain ⟨hso, h7, ⟨hT1, hT2, hT3, hT4⟩, hAk, hNk, hTp, hIm⟩ := id hO
  have h6 := hso.1
  have hpo : ∀ p, p < nu → z_pok S (T.2.2 p) := fun p hp => (hT4 p hp).1
  have haw : ∀ p, p < nu → T.2.2 p 4 < 2 ^ 30 := fun p hp => (hpo p hp).2.2.2.2.1
  obtain ⟨c1, c2, c3, c4, c5, c6, c7, c8, c9, c10⟩ := id hC
  have cS1 := c1.1
  have cV1 := c2.1
  have hq := hR.q
  have ht := q_t hR
  have hM0 := zcd_M hM 0
  obtain ⟨d1, d2, d3, d4, d5, d6, d7, d8, d9, d10⟩ := id hM0
  rcases zrx a1 nu with ⟨p, hp, rfl⟩ | hx
  · have dV2 := hM.2.1.1
    have e1 := c_pupil_in (N := N) hR c2 h7 hp
    have e2 := m_isPupil (N := N) hR h7 d2 (nI p)
    rw [nI_toInt (by omega), if_pos (by omega)] at e2
    have kp := q_t9 hR (show p < 7 by omega)
    have pl := c2.2 p hp
    rw [show q + 7 + 2 + p = q + 9 + p by omega] at pl
    have l2 := pl 2 (by omega)
    have o2 := (hpo p hp).2.2.1
    have v2 := (hM.2.1.2 p hp).2.2.1
    have L1 := zu_loop (fun n i a => f_X11_mates_11 N R n 0 (nI p) (q + 9 + p) a (nI i) I) (fun i => nI (z_mat T.2.2 p i)) (.inl (nI (z_mat T.2.2 p nu)), I) nu
      (fun n => by simp (disch := omega) only [f_X11_mates_11, kd_0, hR.2.2.1, q_k0 hR, q_r5 hR, q_t0 hR, cV1, nI_leI, gd_t, gd_pos, lt_eq, Option.bind_some, true_and, and_true, not_true, not_false_iff, false_or, or_false, if_true, if_false, if_pos, if_neg, zcd])
      (fun n i hi => by
        have o3 := (hpo i hi).2.2.1
        by_cases hip : i = p
        · subst hip
          have e9 : z_mat T.2.2 i (i + 1) = z_mat T.2.2 i i := zbt_f (fun h => (of_decide_eq_true h).1 rfl)
          simp (disch := omega) only [f_X11_mates_11, kd_0, hR.2.2.1, q_k0 hR, q_r5 hR, q_t0 hR, cV1, e9, gd_t, gd_pos, lt_eq, Option.bind_some, true_and, and_true, not_true, not_false_iff, false_or, or_false, if_true, if_false, if_pos, if_neg, zcd, zl_0, zl_1, zl_2, zl_3, zl_4, zl_5, zl_6, zl_7, zl_8, zl_9, zl_10, zl_12, zl_14, zl_16, zl_20, zl_21, zl_28, zl_30, zl_32, zl_37, zl_40, zl_60, zl_64, zl_99, zl_100, zl_680, zl_700, zl_999, zl_9999, zl_10000, zl_20000, zl_20001, zl_20002, zl_20003, zl_20004, zl_20005, zl_20006, zl_20007, zl_ofNat, nI_add, pk_mul, nI_leI, nI_ltI, nI_eq, nI_clamp, mx_nI, mn_nI, pk_sub, zz_m1]
        · have g2 := c2.2 i hi 2 (by omega)
          by_cases hc : T.2.2 i 2 = T.2.2 p 2
          · have e9 : z_mat T.2.2 p (i + 1) = z_mat T.2.2 p i ||| 2 ^ i := zbt_t (decide_eq_true ⟨hip, hc⟩)
            simp (disch := omega) only [f_X11_mates_11, kd_0, hR.2.2.1, q_k0 hR, q_r5 hR, q_t0 hR, q_t1 hR, q_t2 hR, q_t3 hR, q_t4 hR, kp, cV1, g2, l2, e9, gd_t, gd_pos, lt_eq, Option.bind_some, true_and, and_true, not_true, not_false_iff, false_or, or_false, if_true, if_false, if_pos, if_neg, zcd, zl_0, zl_1, zl_2, zl_3, zl_4, zl_5, zl_6, zl_7, zl_8, zl_9, zl_10, zl_12, zl_14, zl_16, zl_20, zl_21, zl_28, zl_30, zl_32, zl_37, zl_40, zl_60, zl_64, zl_99, zl_100, zl_680, zl_700, zl_999, zl_9999, zl_10000, zl_20000, zl_20001, zl_20002, zl_20003, zl_20004, zl_20005, zl_20006, zl_20007, zl_ofNat, nI_add, pk_mul, nI_leI, nI_ltI, nI_eq, nI_clamp, mx_nI, mn_nI, pk_sub, zz_m1, zb_shl, zb_or]
          · have e9 : z_mat T.2.2 p (i + 1) = z_mat T.2.2 p i := zbt_f (fun h => hc (of_decide_eq_true h).2)
            simp (disch := omega) only [f_X11_mates_11, kd_0, hR.2.2.1, q_k0 hR, q_r5 hR, q_t0 hR, q_t1 hR, q_t2 hR, q_t3 hR, q_t4 hR, kp, cV1, g2, l2, e9, gd_t, gd_pos, lt_eq, Option.bind_some, true_and, and_true, not_true, not_false_iff, false_or, or_false, if_true, if_false, if_pos, if_neg, zcd, zl_0, zl_1, zl_2, zl_3, zl_4, zl_5, zl_6, zl_7, zl_8, zl_9, zl_10, zl_12, zl_14, zl_16, zl_20, zl_21, zl_28, zl_30, zl_32, zl_37, zl_40, zl_60, zl_64, zl_99, zl_100, zl_680, zl_700, zl_999, zl_9999, zl_10000, zl_20000, zl_20001, zl_20002, zl_20003, zl_20004, zl_20005, zl_20006, zl_20007, zl_ofNat, nI_add, pk_mul, nI_leI, nI_ltI, nI_eq, nI_clamp, mx_nI, mn_nI, pk_sub, zz_m1]) nu 0 N (by omega) (by omega)
    have L2 := zu_loop (fun n i a => f_X12_mates_23 N R n 80 (nI p) a (nI i) (zcd I 0)) (fun i => nI (z_mat T.2.2 p i)) (nI (z_mat T.2.2 p nu), zcd I 0) nu
      (fun n => by simp (disch := omega) only [f_X12_mates_23, kd_80, r80_4 hR, kd_84, dV2, gd_t, gd_pos, lt_eq, Option.bind_some, true_and, and_true, not_true, not_false_iff, false_or, or_false, if_true, if_false, if_pos, if_neg, zcd, up_n, zl_0, zl_1, zl_2, zl_3, zl_4, zl_5, zl_6, zl_7, zl_8, zl_9, zl_10, zl_12, zl_14, zl_16, zl_20, zl_21, zl_28, zl_30, zl_32, zl_37, zl_40, zl_60, zl_64, zl_99, zl_100, zl_680, zl_700, zl_999, zl_9999, zl_10000, zl_20000, zl_20001, zl_20002, zl_20003, zl_20004, zl_20005, zl_20006, zl_20007, zl_ofNat, nI_add, pk_mul, nI_leI, nI_ltI, nI_eq, nI_clamp, mx_nI, mn_nI, pk_sub, zz_m1])
      (fun n i hi => by
        have o3 := (hpo i hi).2.2.1
        by_cases hip : i = p
        · subst hip
          have e9 : z_mat T.2.2 i (i + 1) = z_mat T.2.2 i i := zbt_f (fun h => (of_decide_eq_true h).1 rfl)
          simp (disch := omega) only [f_X12_mates_23, kd_80, r80_4 hR, kd_84, dV2, e9, gd_t, gd_pos, lt_eq, Option.bind_some, true_and, and_true, not_true, not_false_iff, false_or, or_false, if_true, if_false, if_pos, if_neg, zcd, up_n, zl_0, zl_1, zl_2, zl_3, zl_4, zl_5, zl_6, zl_7, zl_8, zl_9, zl_10, zl_12, zl_14, zl_16, zl_20, zl_21, zl_28, zl_30, zl_32, zl_37, zl_40, zl_60, zl_64, zl_99, zl_100, zl_680, zl_700, zl_999, zl_9999, zl_10000, zl_20000, zl_20001, zl_20002, zl_20003, zl_20004, zl_20005, zl_20006, zl_20007, zl_ofNat, nI_add, pk_mul, nI_leI, nI_ltI, nI_eq, nI_clamp, mx_nI, mn_nI, pk_sub, zz_m1, zb_or, Nat.or_zero]
        · have g2 := (hM.2.1.2 i hi).2.2.1
          by_cases hc : T.2.2 i 2 = T.2.2 p 2
          · have e9 : z_mat T.2.2 p (i + 1) = z_mat T.2.2 p i ||| 2 ^ i := zbt_t (decide_eq_true ⟨hip, hc⟩)
            simp (disch := omega) only [f_X12_mates_23, kd_80, r80_4 hR, kd_84, r80_27 hR, kd_97, dV2, g2, v2, e9, gd_t, gd_pos, lt_eq, Option.bind_some, true_and, and_true, not_true, not_false_iff, false_or, or_false, if_true, if_false, if_pos, if_neg, zcd, up_n, zl_0, zl_1, zl_2, zl_3, zl_4, zl_5, zl_6, zl_7, zl_8, zl_9, zl_10, zl_12, zl_14, zl_16, zl_20, zl_21, zl_28, zl_30, zl_32, zl_37, zl_40, zl_60, zl_64, zl_99, zl_100, zl_680, zl_700, zl_999, zl_9999, zl_10000, zl_20000, zl_20001, zl_20002, zl_20003, zl_20004, zl_20005, zl_20006, zl_20007, zl_ofNat, nI_add, pk_mul, nI_leI, nI_ltI, nI_eq, nI_clamp, mx_nI, mn_nI, pk_sub, zz_m1, zb_shl, zb_or]
          · have e9 : z_mat T.2.2 p (i + 1) = z_mat T.2.2 p i := zbt_f (fun h => hc (of_decide_eq_true h).2)
            simp (disch := omega) only [f_X12_mates_23, kd_80, r80_4 hR, kd_84, r80_27 hR, kd_97, dV2, g2, v2, e9, gd_t, gd_pos, lt_eq, Option.bind_some, true_and, and_true, not_true, not_false_iff, false_or, or_false, if_true, if_false, if_pos, if_neg, zcd, up_n, zl_0, zl_1, zl_2, zl_3, zl_4, zl_5, zl_6, zl_7, zl_8, zl_9, zl_10, zl_12, zl_14, zl_16, zl_20, zl_21, zl_28, zl_30, zl_32, zl_37, zl_40, zl_60, zl_64, zl_99, zl_100, zl_680, zl_700, zl_999, zl_9999, zl_10000, zl_20000, zl_20001, zl_20002, zl_20003, zl_20004, zl_20005, zl_20006, zl_20007, zl_ofNat, nI_add, pk_mul, nI_leI, nI_ltI, nI_eq, nI_clamp, mx_nI, mn_nI, pk_sub, zz_m1, zb_or, Nat.or_zero]) nu 0 N (by omega) (by omega)
    refine ⟨.inl (nI (z_mat T.2.2 p nu)), I, nI (z_mat T.2.2 p nu), zcd I 0, ?_, ?_, ag_ok _ _ _ (zcd_3 I 0), zInv_q hR hO hC (zfr_refl _ _) hM0 (zcd_lo I 0)⟩
    · rw [← L1]
      simp (disch := omega) only [f_X11_mates, kd_0, e1, tb_l, gd_t, gd_pos, lt_eq, Option.bind_some, true_and, and_true, not_true, not_false_iff, false_or, or_false, if_true, if_false, if_pos, if_neg, zcd]
      rfl
    · rw [← L2]
      simp (disch := omega) only [f_X12_mates, kd_80, zl_0, zl_1, e2, gd_t, gd_pos, lt_eq, Option.bind_some, true_and, and_true, not_true, not_false_iff, false_or, or_false, if_true, if_false, if_pos, if_neg, zcd, nI_eq]
      rfl
  · have e1 := c_pupil_out (N := N) hR c2 h7 hx
    have e2 := m_isPupil (N := N) hR h7 d2 a1
    rw [if_neg (by omega)] at e2
    refine ⟨_, I, 0, zcd I 1, ?_, ?_, ag_n _ _ (zcd_3 I 1), zInv_q hR hO hC (zfr_refl _ _) (zcd_M hM 1) (zcd_lo I 1)⟩
    · simp (disch := omega) only [f_X11_mates, kd_0, hR.2.2.1, q_k0 hR, q_r5 hR, q_t0 hR, e1, tb_r, tb_l, gd_t, gd_pos, lt_eq, Option.bind_some, true_and, and_true, not_true, not_false_iff, false_or, or_false, if_true, if_false, if_pos, if_neg, zcd]
    · simp (disch := omega) only [f_X12_mates, kd_80, zl_0, zl_1, e2, m_fail, gd_t, gd_pos, lt_eq, Option.bind_some, true_and, and_true, not_true, not_false_iff, false_or, or_false, if_true, if_false, if_pos, if_neg, zcd, up_s, up_n, up_uu, nI_eq]
