/-! ===== PURE PART: toBeDone ===== -/
def zLe : List Nat := [95, 96, 97, 98, 99, 101, 102, 104]
section ZD
variable {N : Nat} {R : Nat → Nat → Nat} {q : Nat} {S : zS} {nu : Nat} {pr : Nat → Nat} {T : zT} {na : Nat} {A : Nat → zT} {ns : Nat} {sn : Nat → Nat × Nat × Nat} {st : Nat → Int32} {nt : Nat} {tp : Nat → Nat} {fp : Int32} {im : Option zIm} {I J K : Nat → Nat → Int32} {V : Nat → zP}
theorem zEl (hg : zfm zLe zFd J K) : K 80 3 = J 80 3 ∧ ∀ k, k < 80 → K k = J k := ⟨hg.2 3 (by decide), zfm_lo hg (fun x hx => by
    unfold zLe at hx
    simp only [List.mem_cons, List.not_mem_nil, or_false] at hx
    omega)⟩
theorem zfm_e {L F : List Nat} (h : zfm L F I J) (hL : (L.all zLe.contains) = true) (hF : (F.all zFd.contains) = true) : zfm zLe zFd I J := zfm_mono h (fun x hx => List.contains_iff_mem.mp (List.all_eq_true.mp hL x hx)) (fun x hx => List.contains_iff_mem.mp (List.all_eq_true.mp hF x hx))
theorem m_back3 (hN : 5000 ≤ N) (hR : sR R q) (h7 : nu ≤ 7) (hM : zMi S nu T na A ns sn st nt tp fp im J) (hr : zMRow nu T (J 103) 0) (hf : zfm zLe zFd J K) : ∃ L, f_X12_unpack N R 80 103 (nI 0) K = some ((), L) ∧ zMi S nu T na A ns sn st nt tp fp im L ∧ zfm zLe zFd J L := by
  have hV := hM.2.1
  have e84 : K 84 = J 84 := hf.1 84 (by omega) (by decide)
  have e88 : K 88 = J 88 := hf.1 88 (by omega) (by decide)
  have e103 : K 103 = J 103 := hf.1 103 (by omega) (by decide)
  obtain ⟨L, l1, l2, l3, l4, l5⟩ := m_unpack (o := 0) (T := T) hN hR h7 (I := K) (by rw [e84]; exact hV.1) kd_103 (by omega) (by omega) (by omega) (by rw [e103]; exact hr) (fun p hp => by rw [e88]; exact (hV.2 p hp).2.2.2.2.2)
  have hg : zfm zLe zFd J L := zfm_trans hf (zfm_e l5 (by decide) (by decide))
  exact ⟨L, l1, zMi_now hM hg (fun x hx => by
    unfold zLe at hx
    unfold zMsc
    simp only [List.mem_cons, List.not_mem_nil, or_false] at hx ⊢
    omega) (fun x hx => by
    unfold zFd at hx
    unfold zMsf
    simp only [List.mem_cons, List.not_mem_nil, or_false] at hx ⊢
    omega) l2 l3 l4, hg⟩
/-- weeks in the model's second dream, and back -/
theorem m_dr2 (hN : 5000 ≤ N) (hR : sR R q) (hso : z_sok S) (h7 : nu ≤ 7) {wk pn p m : Nat} (hm : m ≤ 60) (hS : zMS S I) (hV : zMV nu V I) (hw : I 80 31 = nI wk) (hp : I 80 32 = nI pn) (ho : ∀ a, a < nu → z_pok S (V a)) (hpn : p < nu) : ∃ X Y Z, f_X12_pack N R 80 104 (nI 0) I = some ((), X) ∧ f_X12_goOn N R 80 (nI m) X = some ((), Y) ∧ f_X12_isDone N R 80 (nI p) Y = some ((if z_wks S m (V p) 3 < z_bn S (z_wks S m (V p) 2) then 0 else 1), Y) ∧ f_X12_unpack N R 80 104 (nI 0) Y = some ((), Z) ∧ zMV nu V Z ∧ Z 80 31 = nI wk ∧ Z 80 32 = nI pn ∧ zfm zLe zFd I Z := by
  obtain ⟨X, x1, x2, x3, x4⟩ := m_pack (row := 104) (o := 0) hN hR hV h7 hw hp kd_104 (by omega) (by omega) (by omega)
  have hV2 := zMV_fr hV x4 (by decide)
  have hS2 := zMS_fr hS x4 (by decide)
  obtain ⟨Y, y1, y2, y3, y4⟩ := m_goOn hN hR hso h7 hm hS2 hV2 ho
  have hS3 := zMS_fr hS2 y4 (by decide)
  have y5 := m_isDone (N := N) hR hso hS3 y2 h7 hpn (z_pok_wks m _ (ho p hpn))
  have e88 : Y 88 = X 88 := y4.1 88 (by omega) (by decide)
  have e104 : Y 104 = X 104 := y4.1 104 (by omega) (by decide)
  obtain ⟨Z, z1, z2, z3, z4, z5⟩ := m_unpack (I := Y) (row := 104) (o := 0) (T := (wk, pn, V)) hN hR h7 y2.1 kd_104 (by omega) (by omega) (by omega) (by rw [e104]; exact x2) (fun a ha => by rw [e88]; exact (hV2.2 a ha).2.2.2.2.2)
  exact ⟨X, Y, Z, x1, y1, y5, z1, z2, z3, z4, zfm_trans (zfm_trans (zfm_e x4 (by decide) (by decide)) (zfm_e y4 (by decide) (by decide))) (zfm_e z5 (by decide) (by decide))⟩
theorem zW2_S (hR : sR R q) (hJ : zfr [57, 58, q + 6, q + 16] I J) (h : zCS S q I) : zCS S q J := zCS_fr h (fun c h1 h2 => hJ c (by have := sR_q hR; simp; omega))
theorem c_dr2 (hN : 5000 ≤ N) (hR : sR R q) (hso : z_sok S) (hS : zCS S q I) {pl : zP} (hp : zPl pl (I 57)) (ho : z_pok S pl) {m : Nat} (hm : m ≤ 60) : ∃ X Y, f_X4_become N R 58 57 I = some ((), X) ∧ f_X7_passWeeks N R q 58 (nI m) X = some ((), Y) ∧ f_X7_isDone N R q 58 Y = some ((if z_wks S m pl 3 < z_bn S (z_wks S m pl 2) then 0 else 1), Y) ∧ zPl pl (Y 57) ∧ zfr [57, 58, q + 6, q + 16] I Y := by
  have hq9 := sR_q hR
  obtain ⟨X, x1, x2, x3⟩ := c_become (N := N) (R := R) kd_57 kd_58 (by omega) hp
  have hS2 : zCS S q X := zCS_fr hS (fun c h1 h2 => x3 c (by simp; omega))
  obtain ⟨Y, y1, y2, y3⟩ := c_pass hN hR.q hso hS2 kd_58 x2 ho hm
  have hf : zfr [57, 58, q + 6, q + 16] I Y := zfr_trans (zfr_mono x3 (by simp)) (zfr_mono y3 (by simp))
  have y4 := c_isDone (N := N) hR.q hso (zW2_S hR hf hS) kd_58 y2 (z_pok_wks m _ ho)
  refine ⟨X, Y, x1, y1, y4, ?_, hf⟩
  rw [y3 57 (by simp; omega), x3 57 (by simp)]
  exact hp
end ZD
theorem zo_toBeDone_ok {N : Nat} (hN : 5000 ≤ N) : zo_toBeDone N zInv := by
  intro I R a1 a2 hI
  obtain ⟨q, S, nu, pr, T, na, A, ns, sn, st, nt, tp, fp, im, hR, hO, hC, hM⟩ := hI
  have hR : sR R q := hR
  have hC : zCi q S nu T na A ns sn st nt tp fp im I := hC
  have hM : zMi S nu T na A ns sn st nt tp fp im I := hM
  obtain ⟨hso, h7, ⟨hT1, hT2, hT3, hT4⟩, hAk, hNk, hTp, hIm⟩ := id hO
  have h6 := hso.1
  have hpo : ∀ p, p < nu → z_pok S (T.2.2 p) := fun p hp => (hT4 p hp).1
  have haw : ∀ p, p < nu → T.2.2 p 4 < 2 ^ 30 := fun p hp => (hpo p hp).2.2.2.2.1
  obtain ⟨c1, c2, c3, c4, c5, c6, c7, c8, c9, c10⟩ := id hC
  have cS1 := c1.1
  have cV1 := c2.1
  have hq := hR.q
  have ht := q_t hR
  have hM0 := zcd_M hM 0
  obtain ⟨d1, d2, d3, d4, d5, d6, d7, d8, d9, d10⟩ := id hM0
  rcases zrx a1 nu with ⟨p, hp, rfl⟩ | hx
  · have hq9 := sR_q hR
    have e1 := c_pupil_in (N := N) hR c2 h7 hp
    have e2 := m_isPupil (N := N) hR h7 d2 (nI p)
    rw [nI_toInt (by omega), if_pos (by omega)] at e2
    have kp := q_t9 hR (show p < 7 by omega)
    have pl := c2.2 p hp
    rw [show q + 7 + 2 + p = q + 9 + p by omega] at pl
    rcases zrg a2 0 30 with ⟨m, -, hm, rfl⟩ | hx
    · have e3 := c_betw_in (N := N) (R := R) (I := I) (m := 30) (by omega) (Nat.zero_le m) hm
      obtain ⟨W, hW⟩ : ∃ W : Nat → Nat → zP, ∀ i, W i = z_tv S nu T.2.1 p T.2.2 i := ⟨_, fun _ => rfl⟩
      have hW0 : W 0 = T.2.2 := hW 0
      have hWs : ∀ i, W (i + 1) = z_tg S nu T.2.1 p (W i) := fun i => by rw [hW, hW]; rfl
      have e5 := c_openTo hN ht c2 h7 haw c4 hT3 kp pl (haw p hp)
      obtain ⟨J0, b1, b2, b3⟩ := c_become (N := N) (R := R) kp kd_57 (by omega) pl
      have b3 : zfr [57, 58, q + 6, q + 16] I J0 := zfr_mono b3 (by simp)
      have mono : ∀ i, i ≤ 30 → z_fr nu (W i) T.2.1 (W i p) < 2 ^ (30 - i) → z_fr nu (W i) T.2.1 (W i p) ≠ 0 → i + 1 ≤ 30 ∧ z_fr nu (W (i + 1)) T.2.1 (W (i + 1) p) < 2 ^ (30 - (i + 1)) := fun i hi hm h0 => by
        obtain ⟨t, f1, f2, f3, e3, e4, e5, e6, e7⟩ := z_tg_fr (S := S) hp hm h0
        rw [hWs]
        refine ⟨by omega, Nat.lt_of_lt_of_le e7 (Nat.pow_le_pow_right (by omega) (by omega))⟩
      obtain ⟨dn, hdn⟩ : ∃ dn : Nat → Prop, ∀ i, dn i = ¬ z_wks S m (W i p) 3 < z_bn S (z_wks S m (W i p) 2) := ⟨_, fun _ => rfl⟩
      obtain ⟨ci, hci⟩ : ∃ ci : Nat → Bool, ∀ i, ci i = true ↔ (dn i ∨ z_fr nu (W i) T.2.1 (W i p) = 0) := ⟨fun i => decide (¬ z_wks S m (W i p) 3 < z_bn S (z_wks S m (W i p) 2) ∨ z_fr nu (W i) T.2.1 (W i p) = 0), fun i => by rw [hdn]; exact decide_eq_true_iff⟩
      obtain ⟨vl, hv0, hv1, hv2⟩ : ∃ vl : Option Nat → Int32, True ∧ (∀ i, dn i → vl (some i) = nI i) ∧ (∀ i, ¬ dn i → vl (some i) = -nI 1) := ⟨fun o => match o with | none => 0 | some i => if z_wks S m (W i p) 3 < z_bn S (z_wks S m (W i p) 2) then -nI 1 else nI i, trivial, fun i h => by rw [hdn] at h; exact if_neg h, fun i h => by rw [hdn] at h; exact if_pos (Decidable.of_not_not h)⟩
      have L := zfs_loop (fun n i (s : Int32 × (Nat → Nat → Int32)) => f_X11_toBeDone_37 N R n 0 (nI m) s.1 (nI i) s.2) ci (fun i s => i ≤ 30 ∧ s.1 = nI (z_fr nu (W i) T.2.1 (W i p)) ∧ z_fr nu (W i) T.2.1 (W i p) < 2 ^ (30 - i) ∧ (∀ a, a < nu → z_pok S (W i a)) ∧ zPl (W i p) (s.2 57) ∧ zfr [57, 58, q + 6, q + 16] I s.2) (fun o y => y.1 = .inl (vl o) ∧ zfr [57, 58, q + 6, q + 16] I y.2) 31
        (fun n s hs => absurd hs.1 (by omega))
        (fun n i s hi hs hc => by
          obtain ⟨a, s⟩ := s
          obtain ⟨s1, s2, s3, s4, s5, s6⟩ := hs
          have s2 : a = _ := s2
          subst s2
          have hc := (hci i).mp hc
          have s5 : zPl (W i p) (s 57) := s5
          have s6 : zfr [57, 58, q + 6, q + 16] I s := s6
          obtain ⟨X, Y, x1, y1, y2, y3, y4⟩ := c_dr2 hN hR hso (zW2_S hR s6 c1) s5 (s4 p hp) (m := m) (by omega)
          by_cases h1 : dn i
          · have h1' := h1
            rw [hdn] at h1'
            rw [if_neg h1'] at y2
            refine ⟨(.inl (nI i), Y), ?_, by rw [hv1 i h1], zfr_trans s6 y4⟩
            simp (disch := omega) only [f_X11_toBeDone_37, kd_0, hR.2.2.1, q_k0 hR, r0_8 hR, r0_9 hR, kd_57, kd_58, x1, y1, y2, zl_0, zl_1, zl_30, nI_ltI, nI_eq, gd_t, gd_pos, lt_eq, Option.bind_some, true_and, and_true, not_true, not_false_iff, false_or, or_false, if_true, if_false, if_pos, if_neg, zcd]
          · have h1' : z_wks S m (W i p) 3 < z_bn S (z_wks S m (W i p) 2) := Decidable.of_not_not (fun h => h1 (by rw [hdn]; exact h))
            rw [if_pos h1'] at y2
            have h2 : z_fr nu (W i) T.2.1 (W i p) = 0 := hc.resolve_left h1
            refine ⟨(.inl (-nI 1), Y), ?_, by rw [hv2 i h1], zfr_trans s6 y4⟩
            try dsimp only
            rw [h2]
            simp (disch := omega) only [f_X11_toBeDone_37, kd_0, hR.2.2.1, q_k0 hR, r0_8 hR, r0_9 hR, kd_57, kd_58, x1, y1, y2, zl_0, zl_1, zl_30, nI_ltI, nI_eq, gd_t, gd_pos, lt_eq, Option.bind_some, true_and, and_true, not_true, not_false_iff, false_or, or_false, if_true, if_false, if_pos, if_neg, zcd])
        (fun n i s hi hs hc => by
          obtain ⟨a, s⟩ := s
          obtain ⟨s1, s2, s3, s4, s5, s6⟩ := hs
          have s2 : a = _ := s2
          subst s2
          have hc1 : ¬ dn i := fun h => hc ((hci i).mpr (Or.inl h))
          have hc2 : ¬ z_fr nu (W i) T.2.1 (W i p) = 0 := fun h => hc ((hci i).mpr (Or.inr h))
          have s5 : zPl (W i p) (s 57) := s5
          have s6 : zfr [57, 58, q + 6, q + 16] I s := s6
          obtain ⟨X, Y, x1, y1, y2, y3, y4⟩ := c_dr2 hN hR hso (zW2_S hR s6 c1) s5 (s4 p hp) (m := m) (by omega)
          have h1' : z_wks S m (W i p) 3 < z_bn S (z_wks S m (W i p) 2) := Decidable.of_not_not (fun h => hc1 (by rw [hdn]; exact h))
          rw [if_pos h1'] at y2
          have x30 : z_fr nu (W i) T.2.1 (W i p) < 2 ^ 30 := zbt_lt _ 30
          have s8 := zfr_trans s6 y4
          obtain ⟨J, k1, k2, k3⟩ := c_gtl hN hR hso (zW2_S hR s8 c1) hp y3 (s4 p hp) s3 hc2
          rw [← hWs] at k1 k2
          obtain ⟨m1, m2⟩ := mono i s1 s3 hc2
          refine ⟨(nI (z_fr nu (W (i + 1)) T.2.1 (W (i + 1) p)), J), ?_, m1, rfl, m2, by rw [hWs]; exact z_tg_pok hp s4 s3 hc2, k2, zfr_trans s8 (zfr_mono k3 (by simp))⟩
          try dsimp only
          simp (disch := omega) only [f_X11_toBeDone_37, kd_0, hR.2.2.1, q_k0 hR, r0_8 hR, r0_9 hR, kd_57, kd_58, x1, y1, y2, k1, zl_0, zl_1, zl_30, nI_ltI, nI_eq, nI_add, gd_t, gd_pos, lt_eq, Option.bind_some, true_and, and_true, not_true, not_false_iff, false_or, or_false, if_true, if_false, if_pos, if_neg, zcd]) 31 0 (nI (z_fr nu T.2.2 T.2.1 (T.2.2 p)), J0) N (by omega) (by omega) ⟨by omega, by rw [hW0], by rw [hW0]; exact zbt_lt _ 30, by rw [hW0]; exact hpo, by rw [hW0]; exact b2, b3⟩
      obtain ⟨⟨v, J⟩, j1, j2, j4⟩ := L
      have j2 : v = _ := j2
      subst j2
      have hJ : zfr (zScr q) I J := zfr_mono j4 (fun x hx => by
        unfold zScr
        simp only [List.mem_cons, List.not_mem_nil, or_false] at hx ⊢
        omega)
      have hMJ := zMq hR hM hJ
      have f2 := m_isPupil (N := N) hR h7 hMJ.2.1 (nI p)
      rw [nI_toInt (by omega), if_pos (by omega)] at f2
      have f6 := m_isIn (N := N) (R := R) (I := zcd J 0) (nI m).toInt64 0 30
      rw [z64, zq_0, zq_30, nI_toInt (by omega), if_pos (by omega)] at f6
      obtain ⟨X, x1, x2, x3, x4, x5⟩ := m_pk0 hN hR h7 hMJ
      have L := zfs_loop (fun n i s => f_X12_toBeDone_54 N R n 80 (nI p) (nI m) (-nI 1) (nI 1) (nI i) s) ci (fun i s => i ≤ 30 ∧ z_fr nu (W i) T.2.1 (W i p) < 2 ^ (30 - i) ∧ (∀ a, a < nu → z_pok S (W i a)) ∧ zMV nu (W i) s ∧ s 80 31 = nI T.1 ∧ s 80 32 = nI T.2.1 ∧ zfm zLe zFd X s) (fun o y => y.1 = vl o ∧ zMi S nu T na A ns sn st nt tp fp im y.2 ∧ zfm zLe zFd X y.2) 31
        (fun n s hs => absurd hs.1 (by omega))
        (fun n i s hi hs hc => by
          obtain ⟨s1, s3, s4, s5, s8, s7, s6⟩ := hs
          have hc := (hci i).mp hc
          have hS2 := zMS_fr x2.1 s6 (by decide)
          obtain ⟨U, Y, Z, u1, y1, y2, z1, z2, z3, z4, z5⟩ := m_dr2 hN hR hso h7 (m := m) (by omega) hS2 s5 s8 s7 s4 hp
          have s9 := zfm_trans s6 z5
          have hS3 := zMS_fr x2.1 s9 (by decide)
          have e2 := m_lastFree hN hR z2 h7 (fun a ha => (s4 a ha).2.2.2.2.1) z4 hT3 hp
          by_cases h1 : dn i
          · have h1' := h1
            rw [hdn] at h1'
            rw [if_neg h1'] at y2
            by_cases h2 : z_fr nu (W i) T.2.1 (W i p) = 0
            · rw [z_fr_0 h2] at e2
              obtain ⟨L, l1, l2, l3⟩ := m_back3 hN hR h7 x2 x3 s9
              refine ⟨(nI i, L), ?_, by rw [hv1 i h1], l2, l3⟩
              simp (disch := omega) only [f_X12_toBeDone_54, f_X12_toBeDone_89, f_X12_toBeDone_115, kd_80, r80_37 hR, kd_103, r80_38 hR, kd_104, u1, y1, y2, z1, e2, l1, zl_0, zl_1, nI_ltI, nI_leI, nI_eq, nI_clamp, gd_t, gd_pos, lt_eq, Option.bind_some, true_and, and_true, not_true, not_false_iff, false_or, or_false, if_true, if_false, if_pos, if_neg, zcd]
            · obtain ⟨t, f1, f2, f3, -, -, e5, -, -⟩ := z_tg_fr (S := S) hp s3 h2
              rw [f3] at e2
              obtain ⟨K, k1, k2, k3⟩ := m_go hN hR hso hS3 z2 h7 hp (s4 p hp) (j := t + 1) (by omega) (by omega)
              obtain ⟨L, l1, l2, l3⟩ := m_back3 hN hR h7 x2 x3 (zfm_trans s9 (zfm_e k3 (by decide) (by decide)))
              refine ⟨(nI i, L), ?_, by rw [hv1 i h1], l2, l3⟩
              simp (disch := omega) only [f_X12_toBeDone_54, f_X12_toBeDone_89, f_X12_toBeDone_115, kd_80, r80_37 hR, kd_103, r80_38 hR, kd_104, u1, y1, y2, z1, e2, k1, l1, nn_m1, if_false, zl_0, zl_1, nI_ltI, nI_leI, nI_eq, nI_clamp, gd_t, gd_pos, lt_eq, Option.bind_some, true_and, and_true, not_true, not_false_iff, false_or, or_false, if_true, if_false, if_pos, if_neg, zcd]
          · have h1' : z_wks S m (W i p) 3 < z_bn S (z_wks S m (W i p) 2) := Decidable.of_not_not (fun h => h1 (by rw [hdn]; exact h))
            rw [if_pos h1'] at y2
            have h2 : z_fr nu (W i) T.2.1 (W i p) = 0 := hc.resolve_left h1
            rw [z_fr_0 h2] at e2
            obtain ⟨L, l1, l2, l3⟩ := m_back3 hN hR h7 x2 x3 s9
            refine ⟨(-nI 1, L), ?_, by rw [hv2 i h1], l2, l3⟩
            simp (disch := omega) only [f_X12_toBeDone_54, f_X12_toBeDone_89, f_X12_toBeDone_115, kd_80, r80_37 hR, kd_103, r80_38 hR, kd_104, u1, y1, y2, z1, e2, l1, zl_0, zl_1, nI_ltI, nI_leI, nI_eq, nI_clamp, gd_t, gd_pos, lt_eq, Option.bind_some, true_and, and_true, not_true, not_false_iff, false_or, or_false, if_true, if_false, if_pos, if_neg, zcd])
        (fun n i s hi hs hc => by
          obtain ⟨s1, s3, s4, s5, s8, s7, s6⟩ := hs
          have hc1 : ¬ dn i := fun h => hc ((hci i).mpr (Or.inl h))
          have hc2 : ¬ z_fr nu (W i) T.2.1 (W i p) = 0 := fun h => hc ((hci i).mpr (Or.inr h))
          have hS2 := zMS_fr x2.1 s6 (by decide)
          obtain ⟨U, Y, Z, u1, y1, y2, z1, z2, z3, z4, z5⟩ := m_dr2 hN hR hso h7 (m := m) (by omega) hS2 s5 s8 s7 s4 hp
          have h1' : z_wks S m (W i p) 3 < z_bn S (z_wks S m (W i p) 2) := Decidable.of_not_not (fun h => hc1 (by rw [hdn]; exact h))
          rw [if_pos h1'] at y2
          have s9 := zfm_trans s6 z5
          have hS3 := zMS_fr x2.1 s9 (by decide)
          have e2 := m_lastFree hN hR z2 h7 (fun a ha => (s4 a ha).2.2.2.2.1) z4 hT3 hp
          obtain ⟨t, f1, f2, f3, -, -, e5, -, -⟩ := z_tg_fr (S := S) hp s3 hc2
          rw [f3] at e2
          obtain ⟨K, k1, k2, k3⟩ := m_go hN hR hso hS3 z2 h7 hp (s4 p hp) (j := t + 1) (by omega) (by omega)
          rw [← e5, ← hWs] at k2
          obtain ⟨m1, m2⟩ := mono i s1 s3 hc2
          refine ⟨K, ?_, m1, m2, by rw [hWs]; exact z_tg_pok hp s4 s3 hc2, k2, by rw [k3.2 31 (by simp)]; exact z3, by rw [k3.2 32 (by simp)]; exact z4, zfm_trans s9 (zfm_e k3 (by decide) (by decide))⟩
          simp (disch := omega) only [f_X12_toBeDone_54, f_X12_toBeDone_89, f_X12_toBeDone_115, kd_80, r80_38 hR, kd_104, u1, y1, y2, z1, e2, k1, zl_0, zl_1, nI_ltI, nI_leI, nI_eq, nI_clamp, nI_add, gd_t, gd_pos, lt_eq, Option.bind_some, true_and, and_true, not_true, not_false_iff, false_or, or_false, if_true, if_false, if_pos, if_neg, zcd]) 31 0 X N (by omega) (by omega) ⟨by omega, by rw [hW0]; exact zbt_lt _ 30, by rw [hW0]; exact hpo, by rw [hW0]; exact x2.2.1, x2.2.2.1, x2.2.2.2.1, zfm_refl _ _ _⟩
      obtain ⟨⟨v, L1⟩, l1, l2, l3, l4⟩ := L
      have l2 : v = _ := l2
      subst l2
      obtain ⟨l5, l6⟩ := zEl l4
      have l5 : L1 80 3 = nI 0 := (l5.trans x4).trans (zcd_3 J 0)
      refine ⟨_, J, _, L1, Eq.trans ?_ j1, Eq.trans ?_ l1, ag_ok _ _ _ l5, zInv_q hR hO hC hJ l3 (fun k hk => ((l6 k hk).trans (x5 k hk)).trans (zcd_lo J 0 k hk))⟩
      · simp (disch := omega) only [f_X11_toBeDone, kd_0, hR.2.2.1, q_k0 hR, q_r5 hR, q_t0 hR, r0_8 hR, kd_57, e1, e3, e5, b1, tb_l, zl_0, zl_30, gd_t, gd_pos, lt_eq, Option.bind_some, true_and, and_true, not_true, not_false_iff, false_or, or_false, if_true, if_false, if_pos, if_neg, zcd]
      · simp (disch := omega) only [f_X12_toBeDone, kd_80, zl_0, zl_1, f2, f6, r80_37 hR, kd_103, x1, nI_eq, gd_t, gd_pos, lt_eq, Option.bind_some, true_and, and_true, not_true, not_false_iff, false_or, or_false, if_true, if_false, if_pos, if_neg, zcd]
    · have e3 := c_betw_out (N := N) (R := R) (I := I) (a := 0) (m := 30) (by omega) (by omega) hx
      have f6 := m_isIn (N := N) (R := R) (I := zcd I 0) a2.toInt64 0 30
      rw [z64, zq_0, zq_30, if_neg (by omega)] at f6
      refine ⟨_, I, 0, zcd I 2, ?_, ?_, ag_i2 _ (zcd_3 I 2), zInv_q hR hO hC (zfr_refl _ _) (zcd_M hM 2) (zcd_lo I 2)⟩
      · simp (disch := omega) only [f_X11_toBeDone, kd_0, zl_0, zl_30, e1, e3, tb_l, tb_r, gd_t, gd_pos, lt_eq, Option.bind_some, true_and, and_true, not_true, not_false_iff, false_or, or_false, if_true, if_false, if_pos, if_neg, zcd]
      · simp (disch := omega) only [f_X12_toBeDone, kd_80, zl_0, zl_1, zl_2, e2, f6, m_fail, gd_t, gd_pos, lt_eq, Option.bind_some, true_and, and_true, not_true, not_false_iff, false_or, or_false, if_true, if_false, if_pos, if_neg, zcd, up_s, up_n, up_uu, nI_eq]
  · have e1 := c_pupil_out (N := N) hR c2 h7 hx
    have e2 := m_isPupil (N := N) hR h7 d2 a1
    rw [if_neg (by omega)] at e2
    refine ⟨_, I, 0, zcd I 1, ?_, ?_, ag_n _ _ (zcd_3 I 1), zInv_q hR hO hC (zfr_refl _ _) (zcd_M hM 1) (zcd_lo I 1)⟩
    · simp (disch := omega) only [f_X11_toBeDone, kd_0, hR.2.2.1, q_k0 hR, q_r5 hR, q_t0 hR, e1, tb_r, tb_l, gd_t, gd_pos, lt_eq, Option.bind_some, true_and, and_true, not_true, not_false_iff, false_or, or_false, if_true, if_false, if_pos, if_neg, zcd]
    · simp (disch := omega) only [f_X12_toBeDone, kd_80, zl_0, zl_1, e2, m_fail, gd_t, gd_pos, lt_eq, Option.bind_some, true_and, and_true, not_true, not_false_iff, false_or, or_false, if_true, if_false, if_pos, if_neg, zcd, up_s, up_n, up_uu, nI_eq]
