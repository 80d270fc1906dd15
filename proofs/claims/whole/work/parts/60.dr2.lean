/-! ===== PURE PART: heard, best, sorest, done, stuck ===== -/
theorem z_wks_s (S : zS) : ∀ (n : Nat) (pl : zP), z_wks S (n + 1) pl = z_wk S (z_wks S n pl)
  | 0, _ => rfl
  | n + 1, pl => z_wks_s S n (z_wk S pl)
theorem z_lb_ge (S : zS) (w s : Nat) : ∀ n b, b ≤ z_lb S w s n b
  | 0, b => Nat.le_refl _
  | n + 1, b => by
    unfold z_lb
    split
    · have := z_lb_ge S w s n (b + 1)
      omega
    · exact Nat.le_refl _
theorem z_wk_2 (S : zS) (pl : zP) : z_wk S pl 2 = pl 2 := by
  unfold z_wk
  split <;> rfl
theorem z_wk_3 (S : zS) (pl : zP) : pl 3 ≤ z_wk S pl 3 := by
  unfold z_wk
  split
  · exact Nat.le_refl _
  · exact z_lb_ge S _ _ _ _
theorem z_dn_wk {S : zS} {pl : zP} (h : z_dn S pl = true) : z_dn S (z_wk S pl) = true := by
  unfold z_dn at h ⊢
  have h1 := of_decide_eq_true h
  have h2 := z_wk_2 S pl
  have h3 := z_wk_3 S pl
  apply decide_eq_true
  rw [h2]
  omega
theorem z_dn_wks {S : zS} {pl : zP} {i : Nat} (h : z_dn S (z_wks S i pl) = true) : ∀ d, z_dn S (z_wks S (i + d) pl) = true
  | 0 => h
  | d + 1 => by
    show z_dn S (z_wks S (i + d + 1) pl) = true
    rw [z_wks_s]
    exact z_dn_wk (z_dn_wks h d)
theorem zfs_none {c : Nat → Bool} : ∀ d i, zfs c d i = none → ∀ j, i ≤ j → j < i + d → ¬ c j = true
  | 0, i, _, j, h1, h2 => by omega
  | d + 1, i, h, j, h1, h2 => by
    unfold zfs at h
    by_cases hc : c i = true
    · rw [if_pos hc] at h
      cases h
    · rw [if_neg hc] at h
      by_cases e : j = i
      · rw [e]
        exact hc
      · exact zfs_none d (i + 1) h j (by omega) (by omega)
theorem zfs_some {c : Nat → Bool} : ∀ d i k, zfs c d i = some k → i ≤ k ∧ k < i + d ∧ c k = true
  | 0, i, k, h => by cases h
  | d + 1, i, k, h => by
    unfold zfs at h
    by_cases hc : c i = true
    · rw [if_pos hc] at h
      cases h
      exact ⟨by omega, by omega, hc⟩
    · rw [if_neg hc] at h
      have := zfs_some d (i + 1) k h
      exact ⟨by omega, by omega, this.2.2⟩
def z_wd (S : zS) (pl : zP) : Option Nat := zfs (fun j => z_dn S (z_wks S j pl)) 61 0
theorem z_wd_60 (S : zS) (pl : zP) : z_wd S pl = none ↔ ¬ z_dn S (z_wks S 60 pl) = true := by
  constructor
  · intro h
    exact zfs_none 61 0 h 60 (by omega) (by omega)
  · intro h
    rcases hh : z_wd S pl with _ | k
    · rfl
    · have := zfs_some 61 0 k hh
      have h2 := z_dn_wks this.2.2 (60 - k)
      rw [show k + (60 - k) = 60 by omega] at h2
      exact absurd h2 h
theorem zn1_m1 {o : Option Nat} (h : ∀ k, o = some k → k < 2 ^ 31) : (zn1 o = -nI 1) ↔ o = none := by
  rcases o with _ | k
  · exact ⟨fun _ => rfl, fun _ => rfl⟩
  · rw [zn1_s, nn_m1 (h k rfl)]
    exact ⟨fun h => h.elim, fun h => by cases h⟩
section ZD
variable {N : Nat} {R : Nat → Nat → Nat} {q : Nat} {S : zS} {nu : Nat} {V : Nat → zP} {I J K : Nat → Nat → Int32} {pl : zP}
theorem zW_S (hR : sR R q) (hJ : zfr [57, q + 6, q + 16] I J) (h : zCS S q I) : zCS S q J := zCS_fr h (fun c h1 h2 => hJ c (by have := sR_q hR; simp; omega))
theorem zW_V (hR : sR R q) (hJ : zfr [57, q + 6, q + 16] I J) (h7 : nu ≤ 7) (h : zCV nu V (q + 7) I) : zCV nu V (q + 7) J := zCV_fr h h7 (fun c hc => hJ c (by have := sR_q hR; simp; omega))
theorem c_wtd (hN : 5000 ≤ N) (hR : sR R q) (hso : z_sok S) (hS : zCS S q I) {k : Nat} (hk : sm_kd k = (4, 6)) (hne : k ≠ 57) (hp : zPl pl (I k)) (ho : z_pok S pl) : ∃ J, f_X11_weeksTillDone N R 0 k I = some (zn1 (z_wd S pl), J) ∧ zfr [57, q + 6, q + 16] I J := by
  obtain ⟨J, j1, j2, j3⟩ := c_become (N := N) (R := R) hk kd_57 hne hp
  have j3 : zfr [57, q + 6, q + 16] I J := zfr_mono j3 (by simp)
  have L := zfs_loop (fun n i s => f_X11_weeksTillDone_10 N R n 0 (nI i) s) (fun j => z_dn S (z_wks S j pl)) (fun i s => zPl (z_wks S i pl) (s 57) ∧ zfr [57, q + 6, q + 16] I s) (fun o y => y.1 = zn1 o ∧ zfr [57, q + 6, q + 16] I y.2) 61
    (fun n s hs => ⟨(-1, s), by simp (disch := omega) only [f_X11_weeksTillDone_10, zl_60, nI_ltI, gd_t, gd_pos, lt_eq, Option.bind_some, true_and, and_true, not_true, not_false_iff, false_or, or_false, if_true, if_false, if_pos, if_neg, zcd], rfl, hs.2⟩)
    (fun n i s hi hs hc => by
      have e := c_isDone (N := N) hR.q hso (zW_S hR hs.2 hS) kd_57 hs.1 (z_pok_wks i pl ho)
      rw [if_neg (of_decide_eq_true hc)] at e
      exact ⟨(nI i, s), by simp (disch := omega) only [f_X11_weeksTillDone_10, kd_0, hR.2.2.1, q_k0 hR, r0_8 hR, e, zl_0, zl_1, zl_2, zl_3, zl_4, zl_5, zl_6, zl_7, zl_8, zl_9, zl_10, zl_12, zl_14, zl_16, zl_20, zl_21, zl_28, zl_30, zl_32, zl_37, zl_40, zl_60, zl_64, zl_99, zl_100, zl_680, zl_700, zl_999, zl_9999, zl_10000, zl_20000, zl_20001, zl_20002, zl_20003, zl_20004, zl_20005, zl_20006, zl_20007, nI_eq, nI_ltI, gd_t, gd_pos, lt_eq, Option.bind_some, true_and, and_true, not_true, not_false_iff, false_or, or_false, if_true, if_false, if_pos, if_neg, zcd], rfl, hs.2⟩)
    (fun n i s hi hs hc => by
      have hS2 := zW_S hR hs.2 hS
      have e := c_isDone (N := N) hR.q hso hS2 kd_57 hs.1 (z_pok_wks i pl ho)
      rw [if_pos (Decidable.of_not_not (fun h => hc (decide_eq_true h)))] at e
      obtain ⟨K, k1, k2, k3⟩ := c_pass (m := 1) hN hR.q hso hS2 kd_57 hs.1 (z_pok_wks i pl ho) (by omega)
      refine ⟨K, ?_, ?_, zfr_trans hs.2 k3⟩
      · simp (disch := omega) only [f_X11_weeksTillDone_10, kd_0, hR.2.2.1, q_k0 hR, r0_8 hR, e, k1, zl_0, zl_1, zl_2, zl_3, zl_4, zl_5, zl_6, zl_7, zl_8, zl_9, zl_10, zl_12, zl_14, zl_16, zl_20, zl_21, zl_28, zl_30, zl_32, zl_37, zl_40, zl_60, zl_64, zl_99, zl_100, zl_680, zl_700, zl_999, zl_9999, zl_10000, zl_20000, zl_20001, zl_20002, zl_20003, zl_20004, zl_20005, zl_20006, zl_20007, nI_eq, nI_ltI, nI_add, gd_t, gd_pos, lt_eq, Option.bind_some, true_and, and_true, not_true, not_false_iff, false_or, or_false, if_true, if_false, if_pos, if_neg, zcd]
      · rw [z_wks_s]
        exact k2) 61 0 J N (by omega) (by omega) ⟨j2, j3⟩
  obtain ⟨⟨v, L1⟩, l1, l2, l3⟩ := L
  have l2 : v = zn1 (z_wd S pl) := l2
  subst l2
  refine ⟨L1, ?_, l3⟩
  refine Eq.trans ?_ l1
  simp (disch := omega) only [f_X11_weeksTillDone, kd_0, r0_8 hR, kd_57, j1, zl_0, gd_t, gd_pos, lt_eq, Option.bind_some, true_and, and_true, not_true, not_false_iff, false_or, or_false, if_true, if_false, if_pos, if_neg, zcd]
end ZD
theorem zo_done_ok {N : Nat} (hN : 5000 ≤ N) : zo_done N zInv := by
  intro I R a1 hI
  obtain ⟨q, S, nu, pr, T, na, A, ns, sn, st, nt, tp, fp, im, hR, hO, hC, hM⟩ := hI
  have hR : sR R q := hR
  have hC : zCi q S nu T na A ns sn st nt tp fp im I := hC
  have hM : zMi S nu T na A ns sn st nt tp fp im I := hM
  obtain ⟨hso, h7, ⟨hT1, hT2, hT3, hT4⟩, hAk, hNk, hTp, hIm⟩ := id hO
  have h6 := hso.1
  have hpo : ∀ p, p < nu → z_pok S (T.2.2 p) := fun p hp => (hT4 p hp).1
  have haw : ∀ p, p < nu → T.2.2 p 4 < 2 ^ 30 := fun p hp => (hpo p hp).2.2.2.2.1
  obtain ⟨c1, c2, c3, c4, c5, c6, c7, c8, c9, c10⟩ := id hC
  have cS1 := c1.1
  have cV1 := c2.1
  have hq := hR.q
  have ht := q_t hR
  have hM0 := zcd_M hM 0
  obtain ⟨d1, d2, d3, d4, d5, d6, d7, d8, d9, d10⟩ := id hM0
  rcases zrx a1 nu with ⟨p, hp, rfl⟩ | hx
  · have hq9 := sR_q hR
    have e1 := c_pupil_in (N := N) hR c2 h7 hp
    have e2 := m_isPupil (N := N) hR h7 d2 (nI p)
    rw [nI_toInt (by omega), if_pos (by omega)] at e2
    have kp := q_t9 hR (show p < 7 by omega)
    have pl := c2.2 p hp
    rw [show q + 7 + 2 + p = q + 9 + p by omega] at pl
    obtain ⟨J, j1, j2⟩ := c_wtd hN hR hso c1 kp (by omega) pl (hpo p hp)
    have hJ := zW_s j2
    have hMJ := zMq hR hM hJ
    have f2 := m_isPupil (N := N) hR h7 hMJ.2.1 (nI p)
    rw [nI_toInt (by omega), if_pos (by omega)] at f2
    obtain ⟨X, x1, x2, x3, x4, x5⟩ := m_pk0 hN hR h7 hMJ
    have L := zfs_loop (fun n i s => f_X12_done_32 N R n 80 (nI p) (-nI 1) (nI i) s) (fun j => z_dn S (z_wks S j (T.2.2 p))) (fun i s => zMV nu (fun p => z_wks S i (T.2.2 p)) s ∧ zfm zLd zFd X s) (fun o y => y.1 = zn1 o ∧ zMi S nu T na A ns sn st nt tp fp im y.2 ∧ y.2 80 3 = X 80 3 ∧ ∀ k, k < 80 → y.2 k = X k) 61
      (fun n s hs => by
        obtain ⟨L, l1, l2, l3, l4⟩ := m_back hN hR h7 x2 x3 hs.2
        exact ⟨(-nI 1, L), by simp (disch := omega) only [f_X12_done_32, kd_80, r80_37 hR, kd_103, l1, zl_0, zl_60, nI_ltI, gd_t, gd_pos, lt_eq, Option.bind_some, true_and, and_true, not_true, not_false_iff, false_or, or_false, if_true, if_false, if_pos, if_neg, zcd], rfl, l2, l3, l4⟩)
      (fun n i s hi hs hc => by
        have hS2 := zMS_fr x2.1 hs.2 (by decide)
        have e := m_isDone (N := N) hR hso hS2 hs.1 h7 hp (z_pok_wks i _ (hpo p hp))
        rw [if_neg (of_decide_eq_true hc)] at e
        obtain ⟨K, k1, k2, k3, k4⟩ := m_week hN hR hso h7 hS2 hs.1 (fun p hp => z_pok_wks i _ (hpo p hp))
        obtain ⟨L, l1, l2, l3, l4⟩ := m_back hN hR h7 x2 x3 (zfm_trans hs.2 (zfm_d k4 (by decide) (by decide)))
        refine ⟨(nI i, L), ?_, rfl, l2, l3, l4⟩
        by_cases h60 : 60 < i + 1
        · simp (disch := omega) only [f_X12_done_32, kd_80, r80_37 hR, kd_103, l1, e, k1, zl_0, zl_1, zl_60, nI_ltI, nI_eq, nI_add, gd_t, gd_pos, lt_eq, Option.bind_some, true_and, and_true, not_true, not_false_iff, false_or, or_false, if_true, if_false, if_pos, if_neg, zcd]
        · simp (disch := omega) only [f_X12_done_32, kd_80, r80_37 hR, kd_103, l1, e, k1, zl_0, zl_1, zl_60, nI_ltI, nI_eq, nI_add, nn_m1, if_false, gd_t, gd_pos, lt_eq, Option.bind_some, true_and, and_true, not_true, not_false_iff, false_or, or_false, if_true, if_false, if_pos, if_neg, zcd])
      (fun n i s hi hs hc => by
        have hS2 := zMS_fr x2.1 hs.2 (by decide)
        have e := m_isDone (N := N) hR hso hS2 hs.1 h7 hp (z_pok_wks i _ (hpo p hp))
        rw [if_pos (Decidable.of_not_not (fun h => hc (decide_eq_true h)))] at e
        obtain ⟨K, k1, k2, k3, k4⟩ := m_week hN hR hso h7 hS2 hs.1 (fun p hp => z_pok_wks i _ (hpo p hp))
        refine ⟨K, ?_, zMV_cong k2 (fun p hp => (z_wks_s S i _).symm), zfm_trans hs.2 (zfm_d k4 (by decide) (by decide))⟩
        simp (disch := omega) only [f_X12_done_32, kd_80, e, k1, zl_0, zl_1, zl_60, nI_ltI, nI_eq, nI_add, gd_t, gd_pos, lt_eq, Option.bind_some, true_and, and_true, not_true, not_false_iff, false_or, or_false, if_true, if_false, if_pos, if_neg, zcd]) 61 0 X N (by omega) (by omega) ⟨x2.2.1, zfm_refl _ _ _⟩
    obtain ⟨⟨v, L1⟩, l1, l2, l3, l4, l5⟩ := L
    have l2 : v = zn1 (z_wd S (T.2.2 p)) := l2
    subst l2
    have l4 : L1 80 3 = nI 0 := (l4.trans x4).trans (zcd_3 J 0)
    refine ⟨.inl (zn1 (z_wd S (T.2.2 p))), J, zn1 (z_wd S (T.2.2 p)), L1, ?_, ?_, ag_ok _ _ _ l4, zInv_q hR hO hC hJ l3 (fun k hk => ((l5 k hk).trans (x5 k hk)).trans (zcd_lo J 0 k hk))⟩
    · simp (disch := omega) only [f_X11_done, kd_0, e1, tb_l, j1, gd_t, gd_pos, lt_eq, Option.bind_some, true_and, and_true, not_true, not_false_iff, false_or, or_false, if_true, if_false, if_pos, if_neg, zcd]
    · refine Eq.trans ?_ l1
      simp (disch := omega) only [f_X12_done, kd_80, zl_0, zl_1, f2, r80_37 hR, kd_103, x1, nI_eq, gd_t, gd_pos, lt_eq, Option.bind_some, true_and, and_true, not_true, not_false_iff, false_or, or_false, if_true, if_false, if_pos, if_neg, zcd]
  · have e1 := c_pupil_out (N := N) hR c2 h7 hx
    have e2 := m_isPupil (N := N) hR h7 d2 a1
    rw [if_neg (by omega)] at e2
    refine ⟨_, I, 0, zcd I 1, ?_, ?_, ag_n _ _ (zcd_3 I 1), zInv_q hR hO hC (zfr_refl _ _) (zcd_M hM 1) (zcd_lo I 1)⟩
    · simp (disch := omega) only [f_X11_done, kd_0, hR.2.2.1, q_k0 hR, q_r5 hR, q_t0 hR, e1, tb_r, tb_l, gd_t, gd_pos, lt_eq, Option.bind_some, true_and, and_true, not_true, not_false_iff, false_or, or_false, if_true, if_false, if_pos, if_neg, zcd]
    · simp (disch := omega) only [f_X12_done, kd_80, zl_0, zl_1, e2, m_fail, gd_t, gd_pos, lt_eq, Option.bind_some, true_and, and_true, not_true, not_false_iff, false_or, or_false, if_true, if_false, if_pos, if_neg, zcd, up_s, up_n, up_uu, nI_eq]
