/-! ===== PURE PART: calls: weeks, door, gloves, begin, pianos, undo ===== -/
section ZA
variable {N : Nat} {R : Nat → Nat → Nat} {q : Nat} {S : zS} {nu : Nat} {pr : Nat → Nat} {T T' : zT} {na : Nat} {A : Nat → zT} {ns : Nat} {sn : Nat → Nat × Nat × Nat} {st : Nat → Int32} {nt : Nat} {tp : Nat → Nat} {fp : Int32} {im : Option zIm} {I J K : Nat → Nat → Int32}
/-- the class has kept an act -/
theorem c_kept (hN : 5000 ≤ N) (hR : sR R q) (h7 : nu ≤ 7) (hC : zCi q S nu T na A ns sn st nt tp fp im I) : ∃ J, f_X0_keep N R 41 (q + 7) I = some ((), J) ∧ zCA nu (z_kn na) (z_kA na A T) 41 J ∧ zCS S q J ∧ zCV nu T.2.2 (q + 7) J ∧ J (q + 7) 2 = nI T.1 ∧ J (q + 7) 3 = nI T.2.1 ∧ ∀ c, c ≠ 41 → c ≠ 42 → J c = I c := by
  have hq := sR_q hR
  obtain ⟨c1, c2, c3, c4, c5, c6, c7, c8, c9, c10⟩ := hC
  obtain ⟨J, j1, j2, j3⟩ := c_keep hN hR.q.2.2 (aR_41 hR.1) c2 h7 c3 c4 c5
  have g : ∀ c, c ≠ 41 → c ≠ 42 → J c = I c := fun c h1 h2 => j3 c (by simp; omega)
  exact ⟨J, j1, j2, zCS_fr c1 (fun c h1 h2 => g c (by omega) (by omega)), zCV_fr c2 h7 (fun c hc => g c (by omega) (by omega)), by rw [g _ (by omega) (by omega)]; exact c3, by rw [g _ (by omega) (by omega)]; exact c4, g⟩
/-- the class behind an act -/
theorem zCi_act (hR : sR R q) (h7 : nu ≤ 7) (hC : zCi q S nu T na A ns sn st nt tp fp im I) (hA : zCA nu (z_kn na) (z_kA na A T) 41 J) (hV : zCV nu T'.2.2 (q + 7) K) (hw : K (q + 7) 2 = nI T'.1) (hp : K (q + 7) 3 = nI T'.2.1) (hj : ∀ c, c ≠ 41 → c ≠ 42 → J c = I c) (hk : ∀ c, c ≠ q + 6 → c ≠ q + 16 → c ≠ q + 7 → ¬ (q + 9 ≤ c ∧ c ≤ q + 15) → K c = J c) : zCi q S nu T' (z_kn na) (z_kA na A T) ns sn st nt tp fp im K := by
  have hq := sR_q hR
  have g : ∀ c, c ≠ 41 → c ≠ 42 → c ≠ q + 6 → c ≠ q + 16 → c ≠ q + 7 → ¬ (q + 9 ≤ c ∧ c ≤ q + 15) → K c = I c := fun c h1 h2 h3 h4 h5 h6 => (hk c h3 h4 h5 h6).trans (hj c h1 h2)
  refine zCi_mk hC (fun c hc => g c (by omega) (by omega) (by omega) (by omega) (by omega) (by omega)) (g 0 (by omega) (by omega) (by omega) (by omega) (by omega) (by omega)) hV hw hp (zCA_fr hA (hk 41 (by omega) (by omega) (by omega) (by omega)) (hk 42 (by omega) (by omega) (by omega) (by omega))) (zCN_fr hC.2.2.2.2.2.1 (fun c h1 h2 => g c (by omega) (by omega) (by omega) (by omega) (by omega) (by omega))) (fun j hj9 => ?_)
  rw [g 47 (by omega) (by omega) (by omega) (by omega) (by omega) (by omega)]
  exact hC.2.2.2.2.2.2.1 j hj9
theorem zMi_lo2 (hR : sR R q) (hM : zMi S nu T na A ns sn st nt tp fp im I) (hj : ∀ c, c ≠ 41 → c ≠ 42 → J c = I c) (hk : ∀ c, c ≠ q + 6 → c ≠ q + 16 → c ≠ q + 7 → ¬ (q + 9 ≤ c ∧ c ≤ q + 15) → K c = J c) : zMi S nu T na A ns sn st nt tp fp im K := by
  have hq := sR_q hR
  exact zMi_lo hM (fun k h8 => (hk k (by omega) (by omega) (by omega) (by omega)).trans (hj k (by omega) (by omega)))
/-- the model has kept an act -/
theorem m_kept (hN : 5000 ≤ N) (hR : sR R q) (h7 : nu ≤ 7) (hM : zMi S nu T na A ns sn st nt tp fp im I) : ∃ J, f_X12_keep N R 80 I = some ((), J) ∧ zMi S nu T (z_kn na) (z_kA na A T) ns sn st nt tp fp im J ∧ J 80 3 = I 80 3 ∧ ∀ k, k < 80 → J k = I k := by
  obtain ⟨d1, d2, d3, d4, d5, d6, d7, d8, d9, d10⟩ := id hM
  obtain ⟨J, j1, j2, j3⟩ := m_keep hN hR d2 h7 d3 d4 d5
  have g : ∀ c, c ≠ 80 → c ≠ 100 → J c = I c := fun c h1 h2 => j3.1 c h1 (by simp; omega)
  have gf : ∀ f, f ≠ 33 → J 80 f = I 80 f := fun f hf => j3.2 f (by simp; omega)
  refine ⟨J, j1, zMi_mk hM (fun c hc => g c (by omega) (by omega)) (fun f hf => gf f (by omega)) (zMV_fr d2 j3 (by decide)) (by rw [gf 31 (by omega)]; exact d3) (by rw [gf 32 (by omega)]; exact d4) j2 (zMN_eq d6 (gf 34 (by omega)) (g 107 (by omega) (by omega)) (g 108 (by omega) (by omega)) (g 109 (by omega) (by omega))) (fun j hj => by rw [g 93 (by omega) (by omega)]; exact d7 j hj), gf 3 (by omega), fun k hk => g k (by omega) (by omega)⟩
end ZA
theorem zTok_one {S : zS} {nu p : Nat} {pr : Nat → Nat} {T : zT} {pl : zP} (hT : zTok S nu pr T) (hp : p < nu) (h1 : z_pok S pl) (h2 : pl 5 = T.2.2 p 5) : zTok S nu pr (T.1, T.2.1, sm_up T.2.2 p pl) := by
  obtain ⟨a1, a2, a3, a4⟩ := hT
  refine ⟨a1, a2, a3, fun i hi => ?_⟩
  show z_pok S (sm_up T.2.2 p pl i) ∧ sm_up T.2.2 p pl i 5 = pr i
  by_cases e : i = p
  · rw [e, up_s]
    exact ⟨h1, h2.trans (a4 p hp).2⟩
  · rw [up_n _ _ e]
    exact a4 i hi
set_option maxHeartbeats 4000000 in
theorem zo_weeks_ok {N : Nat} (hN : 5000 ≤ N) : zo_weeks N zInv := by
  intro I R a1 hI
  obtain ⟨q, S, nu, pr, T, na, A, ns, sn, st, nt, tp, fp, im, hR, hO, hC, hM⟩ := hI
  have hR : sR R q := hR
  have hC : zCi q S nu T na A ns sn st nt tp fp im I := hC
  have hM : zMi S nu T na A ns sn st nt tp fp im I := hM
  obtain ⟨hso, h7, ⟨hT1, hT2, hT3, hT4⟩, hAk, hNk, hTp, hIm⟩ := id hO
  have h6 := hso.1
  have hpo : ∀ p, p < nu → z_pok S (T.2.2 p) := fun p hp => (hT4 p hp).1
  have haw : ∀ p, p < nu → T.2.2 p 4 < 2 ^ 30 := fun p hp => (hpo p hp).2.2.2.2.1
  obtain ⟨c1, c2, c3, c4, c5, c6, c7, c8, c9, c10⟩ := id hC
  have cS1 := c1.1
  have cV1 := c2.1
  have hq := hR.q
  have ht := q_t hR
  have hM0 := zcd_M hM 0
  obtain ⟨d1, d2, d3, d4, d5, d6, d7, d8, d9, d10⟩ := id hM0
  have ref : (a1.toInt < (1 : Nat) ∨ ((20 : Nat) : Int) < a1.toInt) ∨ (∃ k : Nat, 1 ≤ k ∧ k ≤ 20 ∧ a1 = nI k ∧ 999 < T.1 + k) → ∃ (r : Int32) (J K : Nat → Nat → Int32), f_X11_weeks N R 0 a1 I = some (r, J) ∧ f_X12_weeks N R 80 a1 J = some (r, K) ∧ zInv (K, R) := by
    intro hr
    obtain ⟨J, j1, j2, j3, j4⟩ := c_ref (N := N) hR hO hC hM (j := 1) (by omega)
    obtain ⟨K, m1, m2, m3, m4⟩ := m_ref (N := N) hR (zcd_M j3 0) (j := 1) (by omega)
    have e2 := m_isIn (N := N) (R := R) (I := zcd J 0) a1.toInt64 1 20
    rw [z64, zq_1, zq_20] at e2
    have w1 := (zcd_M j3 0).2.2.1
    refine ⟨-1, J, K, ?_, ?_, zInv_of hR hO j2 m2 (fun k hk => (m4 k hk).trans (zcd_lo J 0 k hk))⟩
    · rcases hr with (h | h) | ⟨k, h1, h2, rfl, h3⟩
      · simp (disch := omega) only [f_X11_weeks, kd_0, zl_1, zlt_l, j1, gd_t, gd_pos, lt_eq, Option.bind_some, true_and, and_true, not_true, not_false_iff, false_or, or_false, if_true, if_false, if_pos, if_neg, zcd]
      · simp (disch := omega) only [f_X11_weeks, kd_0, zl_1, zl_20, zlt_l, zlt_r, j1, gd_t, gd_pos, lt_eq, Option.bind_some, true_and, and_true, not_true, not_false_iff, false_or, or_false, if_true, if_false, if_pos, if_neg, zcd]
      · simp (disch := omega) only [f_X11_weeks, kd_0, hR.2.2.1, q_k0 hR, q_r5 hR, q_t0 hR, c3, zl_1, zl_20, zl_999, nI_ltI, nI_leI, pk_sub, j1, gd_t, gd_pos, lt_eq, Option.bind_some, true_and, and_true, not_true, not_false_iff, false_or, or_false, if_true, if_false, if_pos, if_neg, zcd]
    · rcases hr with h | ⟨k, h1, h2, rfl, h3⟩
      · rw [if_neg (by omega)] at e2
        simp (disch := omega) only [f_X12_weeks, kd_80, zl_0, zl_1, e2, m1, gd_t, gd_pos, lt_eq, Option.bind_some, true_and, and_true, not_true, not_false_iff, false_or, or_false, if_true, if_false, if_pos, if_neg, zcd]
      · rw [nI_toInt (by omega), if_pos (by omega)] at e2
        simp (disch := omega) only [f_X12_weeks, kd_80, zl_0, zl_1, zl_999, e2, w1, nI_eq, nI_add, nI_leI, m1, gd_t, gd_pos, lt_eq, Option.bind_some, true_and, and_true, not_true, not_false_iff, false_or, or_false, if_true, if_false, if_pos, if_neg, zcd]
  rcases zrg a1 1 20 with ⟨k, hk1, hk, rfl⟩ | hx
  · by_cases h9 : 999 < T.1 + k
    · exact ref (Or.inr ⟨k, hk1, hk, rfl, h9⟩)
    · obtain ⟨J1, j1, jA, jS, jV, jw, jp, jo⟩ := c_kept hN hR h7 hC
      obtain ⟨J, i1, iV, iw, ip, io⟩ := c_weeks51 hN hR hso jS jV h7 hpo jw (show k ≤ 60 by omega)
      have hCJ := zCi_act (T' := (T.1 + k, T.2.1, fun p => z_wks S k (T.2.2 p))) hR h7 hC jA iV iw (by rw [ip]; exact jp) jo io
      have hMJ := zcd_M (zMi_lo2 hR hM jo io) 0
      have e2 := m_isIn (N := N) (R := R) (I := zcd J 0) (nI k).toInt64 1 20
      rw [z64, zq_1, zq_20, nI_toInt (by omega), if_pos (by omega)] at e2
      obtain ⟨K1, p1, p2, p3, p4⟩ := m_kept hN hR h7 hMJ
      obtain ⟨K, s1, s2, s3, s4⟩ := m_goOn hN hR hso h7 (show k ≤ 60 by omega) p2.1 p2.2.1 hpo
      have w1 := hMJ.2.2.1
      have w2 : K 80 31 = nI (T.1 + k) := by rw [s3, p2.2.2.1, nI_add]
      have hMK := zMi_now (T' := (T.1 + k, T.2.1, fun p => z_wks S k (T.2.2 p))) p2 s4 (by simp [zMsc]) (by simp [zMsf]) s2 w2 (by rw [s4.2 32 (by simp)]; exact p2.2.2.2.1)
      have hO2 := zOk_act (T' := (T.1 + k, T.2.1, fun p => z_wks S k (T.2.2 p))) hO ⟨by show T.1 + k ≤ 999; omega, hT2, hT3, fun p hp => ⟨z_pok_wks k _ (hpo p hp), (z_wks_5 S k _).trans (hT4 p hp).2⟩⟩
      refine ⟨nI (T.1 + k), J, K, ?_, ?_, zInv_of hR hO2 hCJ hMK (fun j hj => (zfm_lo s4 (by simp) j hj).trans ((p4 j hj).trans (zcd_lo J 0 j hj)))⟩
      · simp (disch := omega) only [f_X11_weeks, kd_0, hR.2.2.1, q_k0 hR, q_r5 hR, q_t0 hR, r0_4 hR, kd_41, c3, zl_0, zl_1, zl_20, zl_999, nI_ltI, nI_leI, pk_sub, j1, i1, gd_t, gd_pos, lt_eq, Option.bind_some, true_and, and_true, not_true, not_false_iff, false_or, or_false, if_true, if_false, if_pos, if_neg, zcd]
      · simp (disch := omega) only [f_X12_weeks, kd_80, zl_0, zl_1, zl_999, e2, w1, w2, nI_eq, nI_add, nI_leI, p1, s1, gd_t, gd_pos, lt_eq, Option.bind_some, true_and, and_true, not_true, not_false_iff, false_or, or_false, if_true, if_false, if_pos, if_neg, zcd]
  · exact ref (Or.inl hx)
set_option maxHeartbeats 4000000 in
theorem zo_door_ok {N : Nat} (hN : 5000 ≤ N) : zo_door N zInv := by
  intro I R a1 a2 hI
  obtain ⟨q, S, nu, pr, T, na, A, ns, sn, st, nt, tp, fp, im, hR, hO, hC, hM⟩ := hI
  have hR : sR R q := hR
  have hC : zCi q S nu T na A ns sn st nt tp fp im I := hC
  have hM : zMi S nu T na A ns sn st nt tp fp im I := hM
  obtain ⟨hso, h7, ⟨hT1, hT2, hT3, hT4⟩, hAk, hNk, hTp, hIm⟩ := id hO
  have h6 := hso.1
  have hpo : ∀ p, p < nu → z_pok S (T.2.2 p) := fun p hp => (hT4 p hp).1
  have haw : ∀ p, p < nu → T.2.2 p 4 < 2 ^ 30 := fun p hp => (hpo p hp).2.2.2.2.1
  obtain ⟨c1, c2, c3, c4, c5, c6, c7, c8, c9, c10⟩ := id hC
  have cS1 := c1.1
  have cV1 := c2.1
  have hq := hR.q
  have ht := q_t hR
  have hM0 := zcd_M hM 0
  obtain ⟨d1, d2, d3, d4, d5, d6, d7, d8, d9, d10⟩ := id hM0
  rcases zrx a1 nu with ⟨p, hp, rfl⟩ | hx
  · have hz := hO
    have e1 := c_pupil_in (N := N) hR c2 h7 hp
    have e2 := m_isPupil (N := N) hR h7 d2 (nI p)
    rw [nI_toInt (by omega), if_pos (by omega)] at e2
    have kp := q_t9 hR (show p < 7 by omega)
    have pl := c2.2 p hp
    rw [show q + 7 + 2 + p = q + 9 + p by omega] at pl
    have ref : f_X10_couldGo N R (q + 7) (q + 9 + p) a2 I = some (0, I) → (∀ X : Nat → Nat → Int32, zMi S nu T na A ns sn st nt tp fp im X → f_X12_mayGo N R 80 (nI p) a2 X = some (0, X)) → ∃ (y : Int32 ⊕ String) (J : Nat → Nat → Int32) (r : Int32) (K : Nat → Nat → Int32), f_X11_door N R 0 (nI p) a2 I = some (y, J) ∧ f_X12_door N R 80 (nI p) a2 J = some (r, K) ∧ zo_ag 1 0 y r (K 80 3) ∧ zInv (K, R) := by
      intro g1 g2
      obtain ⟨J, j1, j2, j3, j4⟩ := c_ref (N := N) hR hO hC hM (j := 1) (by omega)
      obtain ⟨K, m1, m2, m3, m4⟩ := m_ref (N := N) hR (zcd_M j3 0) (j := 1) (by omega)
      have e3 := m_isPupil (N := N) hR h7 (zcd_M j3 0).2.1 (nI p)
      rw [nI_toInt (by omega), if_pos (by omega)] at e3
      have e4 := g2 _ (zcd_M j3 0)
      refine ⟨.inl (-1), J, -1, K, ?_, ?_, ag_ok _ _ _ (by rw [m3]; exact zcd_3 J 0), zInv_of hR hO j2 m2 (fun k hk => (m4 k hk).trans (zcd_lo J 0 k hk))⟩
      · simp (disch := omega) only [f_X11_door, kd_0, hR.2.2.1, q_k0 hR, q_r5 hR, q_t0 hR, e1, tb_l, g1, zl_0, zl_1, j1, gd_t, gd_pos, lt_eq, Option.bind_some, true_and, and_true, not_true, not_false_iff, false_or, or_false, if_true, if_false, if_pos, if_neg, zcd]
      · simp (disch := omega) only [f_X12_door, kd_80, zl_0, zl_1, e3, e4, m1, nI_eq, gd_t, gd_pos, lt_eq, Option.bind_some, true_and, and_true, not_true, not_false_iff, false_or, or_false, if_true, if_false, if_pos, if_neg, zcd]
    rcases zrg a2 1 30 with ⟨k, hk1, hk, rfl⟩ | hx
    · have g1 := c_could hN ht c2 h7 haw c4 hT3 kp pl (haw p hp) hk1 hk
      by_cases hm : z_may nu T.2.2 T.2.1 (T.2.2 p) k = true
      · rw [if_pos hm] at g1
        obtain ⟨J1, j1, jA, jS, jV, jw, jp, jo⟩ := c_kept hN hR h7 hC
        have jpl := jV.2 p hp
        rw [show q + 7 + 2 + p = q + 9 + p by omega] at jpl
        obtain ⟨J, i1, i2, i3⟩ := c_go hN hq hso jS kp jpl (hpo p hp) hk1 hk
        have io : ∀ c, c ≠ q + 6 → c ≠ q + 16 → c ≠ q + 7 → ¬ (q + 9 ≤ c ∧ c ≤ q + 15) → J c = J1 c := fun c h1 h2 h3 h4 => i3 c (by simp; omega)
        have io2 : ∀ c, c ≠ q + 9 + p → c ≠ q + 6 → c ≠ q + 16 → J c = J1 c := fun c h1 h2 h3 => i3 c (by simp; omega)
        have hCJ := zCi_act (T' := (T.1, T.2.1, sm_up T.2.2 p (z_go S (T.2.2 p) k))) hR h7 hC jA (zCV_one h7 hp jV i2 (fun c h1 h2 => io2 c h1 (by omega) (by omega))) (by rw [io2 _ (by omega) (by omega) (by omega)]; exact jw) (by rw [io2 _ (by omega) (by omega) (by omega)]; exact jp) jo io
        have hMJ := zcd_M (zMi_lo2 hR hM jo io) 0
        have e3 := m_isPupil (N := N) hR h7 hMJ.2.1 (nI p)
        rw [nI_toInt (by omega), if_pos (by omega)] at e3
        have e4 := m_mayGo hN hR hMJ.2.1 h7 haw hMJ.2.2.2.1 hT3 hp hk1 hk
        rw [if_pos hm] at e4
        obtain ⟨K1, p1, p2, p3, p4⟩ := m_kept hN hR h7 hMJ
        obtain ⟨K, s1, s2, s3⟩ := m_go hN hR hso p2.1 p2.2.1 h7 hp (hpo p hp) hk1 hk
        have hMK := zMi_now (T' := (T.1, T.2.1, sm_up T.2.2 p (z_go S (T.2.2 p) k))) p2 s3 (by simp [zMsc]) (by simp) s2 (by rw [s3.2 31 (by simp)]; exact p2.2.2.1) (by rw [s3.2 32 (by simp)]; exact p2.2.2.2.1)
        have hO2 := zOk_act (T' := (T.1, T.2.1, sm_up T.2.2 p (z_go S (T.2.2 p) k))) hO (zTok_one hO.2.2.1 hp (z_pok_go (hpo p hp) hk hk1) (z_go_5 S _ k))
        have g5 := i2 0 (by omega)
        have g6 := (s2.2 p hp).1
        rw [up_s] at g6
        refine ⟨.inl (nI (z_go S (T.2.2 p) k 0)), J, nI (z_go S (T.2.2 p) k 0), K, ?_, ?_, ag_ok _ _ _ (by rw [s3.2 3 (by simp), p3]; exact zcd_3 J 0), zInv_of hR hO2 hCJ hMK (fun j hj => (zfm_lo s3 (by simp) j hj).trans ((p4 j hj).trans (zcd_lo J 0 j hj)))⟩
        · simp (disch := omega) only [f_X11_door, kd_0, hR.2.2.1, q_k0 hR, q_r5 hR, q_t0 hR, r0_4 hR, kd_41, kp, e1, tb_l, g1, g5, zl_0, zl_1, nI_eq, j1, i1, gd_t, gd_pos, lt_eq, Option.bind_some, true_and, and_true, not_true, not_false_iff, false_or, or_false, if_true, if_false, if_pos, if_neg, zcd]
        · simp (disch := omega) only [f_X12_door, kd_80, zl_0, zl_1, e3, e4, g6, r80_25 hR, kd_95, nI_eq, nI_ltI, nI_leI, nI_clamp, p1, s1, gd_t, gd_pos, lt_eq, Option.bind_some, true_and, and_true, not_true, not_false_iff, false_or, or_false, if_true, if_false, if_pos, if_neg, zcd]
      · rw [if_neg hm] at g1
        refine ref g1 (fun X hX => ?_)
        have e4 := m_mayGo hN hR hX.2.1 h7 haw hX.2.2.2.1 hT3 hp hk1 hk
        rw [if_neg hm] at e4
        exact e4
    · exact ref (c_could_out hx) (fun X hX => m_mayGo_out hx)
  · have e1 := c_pupil_out (N := N) hR c2 h7 hx
    have e2 := m_isPupil (N := N) hR h7 d2 a1
    rw [if_neg (by omega)] at e2
    refine ⟨_, I, 0, zcd I 1, ?_, ?_, ag_n _ _ (zcd_3 I 1), zInv_q hR hO hC (zfr_refl _ _) (zcd_M hM 1) (zcd_lo I 1)⟩
    · simp (disch := omega) only [f_X11_door, kd_0, hR.2.2.1, q_k0 hR, q_r5 hR, q_t0 hR, e1, tb_r, tb_l, gd_t, gd_pos, lt_eq, Option.bind_some, true_and, and_true, not_true, not_false_iff, false_or, or_false, if_true, if_false, if_pos, if_neg, zcd]
    · simp (disch := omega) only [f_X12_door, kd_80, zl_0, zl_1, e2, m_fail, gd_t, gd_pos, lt_eq, Option.bind_some, true_and, and_true, not_true, not_false_iff, false_or, or_false, if_true, if_false, if_pos, if_neg, zcd, up_s, up_n, up_uu, nI_eq]
