/-! ===== PURE PART: what weeks would bring ===== -/
section ZD
variable {N : Nat} {R : Nat → Nat → Nat} {q : Nat} {S : zS} {nu : Nat} {pr : Nat → Nat} {T : zT} {na : Nat} {A : Nat → zT} {ns : Nat} {sn : Nat → Nat × Nat × Nat} {st : Nat → Int32} {nt : Nat} {tp : Nat → Nat} {fp : Int32} {im : Option zIm} {I J K : Nat → Nat → Int32} {pl : zP}
theorem zW_s (h : zfr [57, q + 6, q + 16] I J) : zfr (zScr q) I J := zfr_mono h (fun x hx => by
  unfold zScr
  simp only [List.mem_cons, List.not_mem_nil, or_false] at hx ⊢
  omega)
theorem zScr_hi (hR : sR R q) (h : zfr (zScr q) I J) : ∀ k, 80 ≤ k → J k = I k := fun k hk => h k (by
  have := sR_q hR
  unfold zScr
  simp only [List.mem_cons, List.not_mem_nil, or_false]
  omega)
theorem zMq (hR : sR R q) (hM : zMi S nu T na A ns sn st nt tp fp im I) (hJ : zfr (zScr q) I J) : zMi S nu T na A ns sn st nt tp fp im (zcd J 0) := zcd_M (zMi_lo hM (zScr_hi hR hJ)) 0
def zLd : List Nat := [95, 96, 97, 98, 99, 101, 102]
def zFd : List Nat := [31, 32]
theorem m_pk0 (hN : 5000 ≤ N) (hR : sR R q) (h7 : nu ≤ 7) (hM : zMi S nu T na A ns sn st nt tp fp im I) : ∃ J, f_X12_pack N R 80 103 (nI 0) I = some ((), J) ∧ zMi S nu T na A ns sn st nt tp fp im J ∧ zMRow nu T (J 103) 0 ∧ J 80 3 = I 80 3 ∧ ∀ k, k < 80 → J k = I k := by
  obtain ⟨J, j1, j2, j3, j4⟩ := m_pack (o := 0) hN hR hM.2.1 h7 hM.2.2.1 hM.2.2.2.1 kd_103 (by omega) (by omega) (by omega)
  exact ⟨J, j1, zMi_fr hM j4 (fun x hx => by simp at hx; subst hx; simp [zMsc]) (fun x hx => by cases hx), j2, j4.2 3 (by simp), zfm_lo j4 (fun x hx => by simp at hx; omega)⟩
theorem m_back (hN : 5000 ≤ N) (hR : sR R q) (h7 : nu ≤ 7) (hM : zMi S nu T na A ns sn st nt tp fp im J) (hr : zMRow nu T (J 103) 0) (hf : zfm zLd zFd J K) : ∃ L, f_X12_unpack N R 80 103 (nI 0) K = some ((), L) ∧ zMi S nu T na A ns sn st nt tp fp im L ∧ L 80 3 = J 80 3 ∧ ∀ k, k < 80 → L k = J k := by
  have hV := hM.2.1
  have e84 : K 84 = J 84 := hf.1 84 (by omega) (by decide)
  have e88 : K 88 = J 88 := hf.1 88 (by omega) (by decide)
  have e103 : K 103 = J 103 := hf.1 103 (by omega) (by decide)
  obtain ⟨L, l1, l2, l3, l4, l5⟩ := m_unpack (o := 0) (T := T) hN hR h7 (I := K) (by rw [e84]; exact hV.1) kd_103 (by omega) (by omega) (by omega) (by rw [e103]; exact hr) (fun p hp => by rw [e88]; exact (hV.2 p hp).2.2.2.2.2)
  have hg : zfm zLd zFd J L := zfm_trans hf (zfm_mono l5 (by unfold zLd; simp) (by unfold zFd; simp))
  exact ⟨L, l1, zMi_now hM hg (fun x hx => by
    unfold zLd at hx
    unfold zMsc
    simp only [List.mem_cons, List.not_mem_nil, or_false] at hx ⊢
    omega) (fun x hx => by
    unfold zFd at hx
    unfold zMsf
    simp only [List.mem_cons, List.not_mem_nil, or_false] at hx ⊢
    omega) l2 l3 l4, hg.2 3 (by decide), zfm_lo hg (fun x hx => by
    unfold zLd at hx
    simp only [List.mem_cons, List.not_mem_nil, or_false] at hx
    omega)⟩
theorem zfm_d {L F : List Nat} (h : zfm L F I J) (hL : (L.all zLd.contains) = true) (hF : (F.all zFd.contains) = true) : zfm zLd zFd I J := zfm_mono h (fun x hx => List.contains_iff_mem.mp (List.all_eq_true.mp hL x hx)) (fun x hx => List.contains_iff_mem.mp (List.all_eq_true.mp hF x hx))
/-- a pupil, weeks on, in the dream cell -/
theorem c_dr (hN : 5000 ≤ N) (hR : sR R q) (hso : z_sok S) (hS : zCS S q I) {k : Nat} (hk : sm_kd k = (4, 6)) (hne : k ≠ 57) (hp : zPl pl (I k)) (ho : z_pok S pl) {m : Nat} (hm : m ≤ 60) : ∃ J1 J, f_X4_become N R 57 k I = some ((), J1) ∧ f_X7_passWeeks N R q 57 (nI m) J1 = some ((), J) ∧ zPl (z_wks S m pl) (J 57) ∧ zfr [57, q + 6, q + 16] I J := by
  obtain ⟨J, j1, j2, j3⟩ := c_become (N := N) (R := R) hk kd_57 hne hp
  have hS2 : zCS S q J := zCS_fr hS (fun c h1 h2 => j3 c (by have := sR_q hR; simp; omega))
  obtain ⟨K, k1, k2, k3⟩ := c_pass hN hR.q hso hS2 kd_57 j2 ho hm
  exact ⟨J, K, j1, k1, k2, zfr_trans (zfr_mono j3 (by simp)) k3⟩
/-- all pupils, weeks on, in the model -/
theorem m_dr (hN : 5000 ≤ N) (hR : sR R q) (hO : zOk S nu pr T na A ns sn nt tp im) (hM : zMi S nu T na A ns sn st nt tp fp im I) {m : Nat} (hm : m ≤ 60) : ∃ J K L, f_X12_pack N R 80 103 (nI 0) I = some ((), J) ∧ f_X12_goOn N R 80 (nI m) J = some ((), K) ∧ f_X12_unpack N R 80 103 (nI 0) K = some ((), L) ∧ zMi S nu T na A ns sn st nt tp fp im J ∧ zMS S K ∧ zMV nu (fun p => z_wks S m (T.2.2 p)) K ∧ zMi S nu T na A ns sn st nt tp fp im L ∧ L 80 3 = I 80 3 ∧ ∀ k, k < 80 → L k = I k := by
  obtain ⟨J, j1, j2, j3, j4, j5⟩ := m_pk0 hN hR hO.2.1 hM
  obtain ⟨K, k1, k2, k3, k4⟩ := m_goOn hN hR hO.1 hO.2.1 hm j2.1 j2.2.1 (fun p hp => (hO.2.2.1.2.2.2 p hp).1)
  obtain ⟨L, l1, l2, l3, l4⟩ := m_back hN hR hO.2.1 j2 j3 (zfm_d k4 (by decide) (by decide))
  exact ⟨J, K, L, j1, k1, l1, j2, zMS_fr j2.1 k4 (by decide), k2, l2, l3.trans j4, fun k hk => (l4 k hk).trans (j5 k hk)⟩
end ZD
theorem zo_then_ok {N : Nat} (hN : 5000 ≤ N) : zo_then N zInv := by
  intro I R a1 a2 a3 hI
  obtain ⟨q, S, nu, pr, T, na, A, ns, sn, st, nt, tp, fp, im, hR, hO, hC, hM⟩ := hI
  have hR : sR R q := hR
  have hC : zCi q S nu T na A ns sn st nt tp fp im I := hC
  have hM : zMi S nu T na A ns sn st nt tp fp im I := hM
  obtain ⟨hso, h7, ⟨hT1, hT2, hT3, hT4⟩, hAk, hNk, hTp, hIm⟩ := id hO
  have h6 := hso.1
  have hpo : ∀ p, p < nu → z_pok S (T.2.2 p) := fun p hp => (hT4 p hp).1
  have haw : ∀ p, p < nu → T.2.2 p 4 < 2 ^ 30 := fun p hp => (hpo p hp).2.2.2.2.1
  obtain ⟨c1, c2, c3, c4, c5, c6, c7, c8, c9, c10⟩ := id hC
  have cS1 := c1.1
  have cV1 := c2.1
  have hq := hR.q
  have ht := q_t hR
  have hM0 := zcd_M hM 0
  obtain ⟨d1, d2, d3, d4, d5, d6, d7, d8, d9, d10⟩ := id hM0
  rcases zrx a1 nu with ⟨p, hp, rfl⟩ | hx
  · have hq9 := sR_q hR
    have e1 := c_pupil_in (N := N) hR c2 h7 hp
    have e2 := m_isPupil (N := N) hR h7 d2 (nI p)
    rw [nI_toInt (by omega), if_pos (by omega)] at e2
    have kp := q_t9 hR (show p < 7 by omega)
    have pl := c2.2 p hp
    rw [show q + 7 + 2 + p = q + 9 + p by omega] at pl
    rcases zrg a3 0 2 with ⟨v, -, hv, rfl⟩ | hx
    · have e3 := c_what_in (N := N) (R := R) (I := I) (m := 2) (by omega) hv
      rcases zrg a2 0 60 with ⟨m, -, hm, rfl⟩ | hx
      · have e5 := c_betw_in (N := N) (R := R) (I := I) (m := 60) (by omega) (Nat.zero_le m) hm
        obtain ⟨J1, J, j1, j2, j3, j4⟩ := c_dr hN hR hso c1 kp (by omega) pl (hpo p hp) hm
        have hJ := zW_s j4
        have hMJ := zMq hR hM hJ
        have f2 := m_isPupil (N := N) hR h7 hMJ.2.1 (nI p)
        rw [nI_toInt (by omega), if_pos (by omega)] at f2
        have f4 := m_isIn (N := N) (R := R) (I := zcd J 0) (nI v).toInt64 0 2
        rw [z64, zq_0, zq_2, nI_toInt (by omega), if_pos (by omega)] at f4
        have f6 := m_isIn (N := N) (R := R) (I := zcd J 0) (nI m).toInt64 0 60
        rw [z64, zq_0, zq_60, nI_toInt (by omega), if_pos (by omega)] at f6
        obtain ⟨X, K, L, x1, k1, l1, x2, k2, k3, l2, l3, l4⟩ := m_dr hN hR hO hMJ hm
        have l3 : L 80 3 = nI 0 := l3.trans (zcd_3 J 0)
        have l4 : ∀ k, k < 80 → L k = J k := fun k hk => (l4 k hk).trans (zcd_lo J 0 k hk)
        obtain ⟨v0, v1, v2, v3, v4, v5⟩ := k3.2 p hp
        have w0 := j3 0 (by omega)
        have w1 := j3 1 (by omega)
        have w3 := j3 3 (by omega)
        have hv3 : v = 0 ∨ v = 1 ∨ v = 2 := by omega
        rcases hv3 with rfl | rfl | rfl
        · refine ⟨.inl (nI (z_wks S m (T.2.2 p) 0)), J, nI (z_wks S m (T.2.2 p) 0), L, ?_, ?_, ag_ok _ _ _ l3, zInv_q hR hO hC hJ l2 l4⟩
          · simp (disch := omega) only [f_X11_then, kd_0, hR.2.2.1, q_k0 hR, r0_8 hR, kd_57, zl_0, zl_1, zl_2, zl_3, zl_4, zl_5, zl_6, zl_7, zl_8, zl_9, zl_10, zl_12, zl_14, zl_16, zl_20, zl_21, zl_28, zl_30, zl_32, zl_37, zl_40, zl_60, zl_64, zl_99, zl_100, zl_680, zl_700, zl_999, zl_9999, zl_10000, zl_20000, zl_20001, zl_20002, zl_20003, zl_20004, zl_20005, zl_20006, zl_20007, e1, e3, e5, j1, j2, w0, tb_l, gd_t, gd_pos, lt_eq, Option.bind_some, true_and, and_true, not_true, not_false_iff, false_or, or_false, if_true, if_false, if_pos, if_neg, zcd]
          · simp (disch := omega) only [f_X12_then, kd_80, zl_0, zl_1, zl_2, zl_3, zl_4, zl_5, zl_6, zl_7, zl_8, zl_9, zl_10, zl_12, zl_14, zl_16, zl_20, zl_21, zl_28, zl_30, zl_32, zl_37, zl_40, zl_60, zl_64, zl_99, zl_100, zl_680, zl_700, zl_999, zl_9999, zl_10000, zl_20000, zl_20001, zl_20002, zl_20003, zl_20004, zl_20005, zl_20006, zl_20007, f2, f4, f6, r80_37 hR, kd_103, r80_25 hR, kd_95, x1, k1, l1, v0, nI_eq, nI_ltI, nI_leI, nI_clamp, gd_t, gd_pos, lt_eq, Option.bind_some, true_and, and_true, not_true, not_false_iff, false_or, or_false, if_true, if_false, if_pos, if_neg, zcd]
        · refine ⟨.inl (nI (z_wks S m (T.2.2 p) 3)), J, nI (z_wks S m (T.2.2 p) 3), L, ?_, ?_, ag_ok _ _ _ l3, zInv_q hR hO hC hJ l2 l4⟩
          · simp (disch := omega) only [f_X11_then, kd_0, hR.2.2.1, q_k0 hR, r0_8 hR, kd_57, zl_0, zl_1, zl_2, zl_3, zl_4, zl_5, zl_6, zl_7, zl_8, zl_9, zl_10, zl_12, zl_14, zl_16, zl_20, zl_21, zl_28, zl_30, zl_32, zl_37, zl_40, zl_60, zl_64, zl_99, zl_100, zl_680, zl_700, zl_999, zl_9999, zl_10000, zl_20000, zl_20001, zl_20002, zl_20003, zl_20004, zl_20005, zl_20006, zl_20007, e1, e3, e5, j1, j2, w3, tb_l, nI_eq, gd_t, gd_pos, lt_eq, Option.bind_some, true_and, and_true, not_true, not_false_iff, false_or, or_false, if_true, if_false, if_pos, if_neg, zcd]
          · simp (disch := omega) only [f_X12_then, kd_80, zl_0, zl_1, zl_2, zl_3, zl_4, zl_5, zl_6, zl_7, zl_8, zl_9, zl_10, zl_12, zl_14, zl_16, zl_20, zl_21, zl_28, zl_30, zl_32, zl_37, zl_40, zl_60, zl_64, zl_99, zl_100, zl_680, zl_700, zl_999, zl_9999, zl_10000, zl_20000, zl_20001, zl_20002, zl_20003, zl_20004, zl_20005, zl_20006, zl_20007, f2, f4, f6, r80_37 hR, kd_103, r80_28 hR, kd_98, x1, k1, l1, v3, nI_eq, nI_ltI, nI_leI, nI_clamp, gd_t, gd_pos, lt_eq, Option.bind_some, true_and, and_true, not_true, not_false_iff, false_or, or_false, if_true, if_false, if_pos, if_neg, zcd]
        · refine ⟨.inl (nI (z_wks S m (T.2.2 p) 1)), J, nI (z_wks S m (T.2.2 p) 1), L, ?_, ?_, ag_ok _ _ _ l3, zInv_q hR hO hC hJ l2 l4⟩
          · simp (disch := omega) only [f_X11_then, kd_0, hR.2.2.1, q_k0 hR, r0_8 hR, kd_57, zl_0, zl_1, zl_2, zl_3, zl_4, zl_5, zl_6, zl_7, zl_8, zl_9, zl_10, zl_12, zl_14, zl_16, zl_20, zl_21, zl_28, zl_30, zl_32, zl_37, zl_40, zl_60, zl_64, zl_99, zl_100, zl_680, zl_700, zl_999, zl_9999, zl_10000, zl_20000, zl_20001, zl_20002, zl_20003, zl_20004, zl_20005, zl_20006, zl_20007, e1, e3, e5, j1, j2, w1, tb_l, nI_eq, gd_t, gd_pos, lt_eq, Option.bind_some, true_and, and_true, not_true, not_false_iff, false_or, or_false, if_true, if_false, if_pos, if_neg, zcd]
          · simp (disch := omega) only [f_X12_then, kd_80, zl_0, zl_1, zl_2, zl_3, zl_4, zl_5, zl_6, zl_7, zl_8, zl_9, zl_10, zl_12, zl_14, zl_16, zl_20, zl_21, zl_28, zl_30, zl_32, zl_37, zl_40, zl_60, zl_64, zl_99, zl_100, zl_680, zl_700, zl_999, zl_9999, zl_10000, zl_20000, zl_20001, zl_20002, zl_20003, zl_20004, zl_20005, zl_20006, zl_20007, f2, f4, f6, r80_37 hR, kd_103, r80_26 hR, kd_96, x1, k1, l1, v1, nI_eq, nI_ltI, nI_leI, nI_clamp, gd_t, gd_pos, lt_eq, Option.bind_some, true_and, and_true, not_true, not_false_iff, false_or, or_false, if_true, if_false, if_pos, if_neg, zcd]
      · have e5 := c_betw_out (N := N) (R := R) (I := I) (a := 0) (m := 60) (by omega) (by omega) hx
        have f4 := m_isIn (N := N) (R := R) (I := zcd I 0) (nI v).toInt64 0 2
        rw [z64, zq_0, zq_2, nI_toInt (by omega), if_pos (by omega)] at f4
        have f6 := m_isIn (N := N) (R := R) (I := zcd I 0) a2.toInt64 0 60
        rw [z64, zq_0, zq_60, if_neg (by omega)] at f6
        refine ⟨_, I, 0, zcd I 2, ?_, ?_, ag_i2 _ (zcd_3 I 2), zInv_q hR hO hC (zfr_refl _ _) (zcd_M hM 2) (zcd_lo I 2)⟩
        · simp (disch := omega) only [f_X11_then, kd_0, zl_0, zl_1, zl_2, zl_3, zl_4, zl_5, zl_6, zl_7, zl_8, zl_9, zl_10, zl_12, zl_14, zl_16, zl_20, zl_21, zl_28, zl_30, zl_32, zl_37, zl_40, zl_60, zl_64, zl_99, zl_100, zl_680, zl_700, zl_999, zl_9999, zl_10000, zl_20000, zl_20001, zl_20002, zl_20003, zl_20004, zl_20005, zl_20006, zl_20007, e1, e3, e5, tb_l, tb_r, gd_t, gd_pos, lt_eq, Option.bind_some, true_and, and_true, not_true, not_false_iff, false_or, or_false, if_true, if_false, if_pos, if_neg, zcd]
        · simp (disch := omega) only [f_X12_then, kd_80, zl_0, zl_1, zl_2, zl_3, zl_4, zl_5, zl_6, zl_7, zl_8, zl_9, zl_10, zl_12, zl_14, zl_16, zl_20, zl_21, zl_28, zl_30, zl_32, zl_37, zl_40, zl_60, zl_64, zl_99, zl_100, zl_680, zl_700, zl_999, zl_9999, zl_10000, zl_20000, zl_20001, zl_20002, zl_20003, zl_20004, zl_20005, zl_20006, zl_20007, e2, f4, f6, m_fail, gd_t, gd_pos, lt_eq, Option.bind_some, true_and, and_true, not_true, not_false_iff, false_or, or_false, if_true, if_false, if_pos, if_neg, zcd, up_s, up_n, up_uu, nI_eq]
    · have e3 := c_what_out (N := N) (R := R) (I := I) (m := 2) (by omega) hx
      have f4 := m_isIn (N := N) (R := R) (I := zcd I 0) a3.toInt64 0 2
      rw [z64, zq_0, zq_2, if_neg (by omega)] at f4
      refine ⟨_, I, 0, zcd I 1, ?_, ?_, ag_n _ _ (zcd_3 I 1), zInv_q hR hO hC (zfr_refl _ _) (zcd_M hM 1) (zcd_lo I 1)⟩
      · simp (disch := omega) only [f_X11_then, kd_0, zl_0, zl_1, zl_2, zl_3, zl_4, zl_5, zl_6, zl_7, zl_8, zl_9, zl_10, zl_12, zl_14, zl_16, zl_20, zl_21, zl_28, zl_30, zl_32, zl_37, zl_40, zl_60, zl_64, zl_99, zl_100, zl_680, zl_700, zl_999, zl_9999, zl_10000, zl_20000, zl_20001, zl_20002, zl_20003, zl_20004, zl_20005, zl_20006, zl_20007, e1, e3, tb_l, tb_r, gd_t, gd_pos, lt_eq, Option.bind_some, true_and, and_true, not_true, not_false_iff, false_or, or_false, if_true, if_false, if_pos, if_neg, zcd]
      · simp (disch := omega) only [f_X12_then, kd_80, zl_0, zl_1, zl_2, zl_3, zl_4, zl_5, zl_6, zl_7, zl_8, zl_9, zl_10, zl_12, zl_14, zl_16, zl_20, zl_21, zl_28, zl_30, zl_32, zl_37, zl_40, zl_60, zl_64, zl_99, zl_100, zl_680, zl_700, zl_999, zl_9999, zl_10000, zl_20000, zl_20001, zl_20002, zl_20003, zl_20004, zl_20005, zl_20006, zl_20007, e2, f4, m_fail, gd_t, gd_pos, lt_eq, Option.bind_some, true_and, and_true, not_true, not_false_iff, false_or, or_false, if_true, if_false, if_pos, if_neg, zcd, up_s, up_n, up_uu, nI_eq]
  · have e1 := c_pupil_out (N := N) hR c2 h7 hx
    have e2 := m_isPupil (N := N) hR h7 d2 a1
    rw [if_neg (by omega)] at e2
    refine ⟨_, I, 0, zcd I 1, ?_, ?_, ag_n _ _ (zcd_3 I 1), zInv_q hR hO hC (zfr_refl _ _) (zcd_M hM 1) (zcd_lo I 1)⟩
    · simp (disch := omega) only [f_X11_then, kd_0, hR.2.2.1, q_k0 hR, q_r5 hR, q_t0 hR, e1, tb_r, tb_l, gd_t, gd_pos, lt_eq, Option.bind_some, true_and, and_true, not_true, not_false_iff, false_or, or_false, if_true, if_false, if_pos, if_neg, zcd]
    · simp (disch := omega) only [f_X12_then, kd_80, zl_0, zl_1, e2, m_fail, gd_t, gd_pos, lt_eq, Option.bind_some, true_and, and_true, not_true, not_false_iff, false_or, or_false, if_true, if_false, if_pos, if_neg, zcd, up_s, up_n, up_uu, nI_eq]
