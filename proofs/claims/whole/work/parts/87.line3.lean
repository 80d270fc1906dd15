/-! ===== PURE PART: school: lines: pupils, pianos, learns ===== -/
def zSt (d : Nat) (tp : Nat → Nat) (n m : Nat) (cd : Nat → Nat) (h a : Nat) (I K : Nat → Nat → Int32) : Prop := (∃ P, zG d tp n P m cd h I K ∧ a ≤ P.2.1) ∨ zB d I K
def zSv (d : Nat) (tp : Nat → Nat) (n m : Nat) (cd : Nat → Nat) (h a l v : Nat) (I K : Nat → Nat → Int32) : Prop := (∃ P', zG d tp n P' m cd h I K ∧ a < P'.2.1 ∧ l ≤ v) ∨ zB d I K
def zSw (d : Nat) (tp : Nat → Nat) (n m : Nat) (cd : Nat → Nat) (h a v y np : Nat) (I K : Nat → Nat → Int32) : Prop := (∃ P', zG d tp n P' m cd h I K ∧ a < P'.2.1 ∧ v = y ∧ v < np) ∨ zB d I K
def zSx (K'' L : Nat → Nat → Int32) (N : Nat) (R : Nat → Nat → Nat) : Prop := (K'' 80 22 = nI 0 ∧ f_X12_stepOn N R 80 K'' = some ((), L)) ∨ (¬ K'' 80 22 = nI 0 ∧ L = K'')
section ZR
variable {N : Nat} {R Rm : Nat → Nat → Nat} {q qm d n m h a : Nat} {P : zK} {tp cd : Nat → Nat} {I J K L : Nat → Nat → Int32} {X : zX9}
theorem r_num2 (hN : 5000 ≤ N) (hR : sR R q) (hRm : sR Rm qm) (hd : d = 3 ∨ d = 22) (hn : n ≤ 700) (htp : ∀ i, i < n → tp i < 256) (hs : zSt d tp n m cd h a I K) {l t : Nat} (hl : l ≤ 1) (ht : t ≤ 9999) : ∃ v J L, f_X5_readNumber N R 1 (nI l) (nI t) I = some (nI v, J) ∧ f_X12_readNumber N Rm 80 (nI l) (nI t) K = some (nI v, L) ∧ v ≤ t ∧ zSv d tp n m cd h a l v J L ∧ zCy I J ∧ zfm [] zMxf K L := by
  rcases hs with ⟨P, hg, ha⟩ | hb
  · obtain ⟨x, J, L, a1, a2, a3, a4, a5⟩ := r_num (N := N) hN hR hRm hd hn htp hg hl ht
    rcases a3 with ⟨v, P', v1, v2, rfl, g1, g2, -⟩ | ⟨rfl, hb⟩
    · exact ⟨v, J, L, a1, a2, v2, Or.inl ⟨P', g1, by omega, v1⟩, a4, a5⟩
    · exact ⟨0, J, L, a1, a2, by omega, Or.inr hb, a4, a5⟩
  · exact ⟨0, I, K, c_num_f hb _ _, m_num_f hb _ _, by omega, Or.inr hb, zCy_refl I, zfm_refl _ _ _⟩
theorem r_pnum (hN : 5000 ≤ N) (hR : sR R q) (hRm : sR Rm qm) (hd : d = 3 ∨ d = 22) (hn : n ≤ 700) (htp : ∀ i, i < n → tp i < 256) (hs : zSt d tp n m cd h a I K) {np : Nat} (hnp : np ≤ 6) (h3 : I d 3 = nI np) (k4 : K 84 4 = nI np) : ∃ (I' : Nat → Nat → Int32) (v y : Nat) (J K' K'' L : Nat → Nat → Int32), (∀ T : (Nat → Nat → Int32) → Option (Unit × (Nat → Nat → Int32)), (if I 1 3 = nI 1 then (if nI 4 < I 1 5 - I 1 4 then T I else (if I 1 6 < I d 3 then T I else (f_X5_stop N R 1 (nI 3) I).bind fun p => T p.2)) else T I) = T I') ∧ f_X5_readNumber N R 1 (nI 0) (nI 6) I' = some (nI v, J) ∧ f_X12_numberNow N Rm 80 (nI 0) (nI 9999) K = some (nI y, K') ∧ (∀ S : (Nat → Nat → Int32) → Option (Unit × (Nat → Nat → Int32)), (if K' 80 22 = nI 0 then (if nI y < K' 84 4 then S K' else (f_X12_wrong N Rm 80 (nI 3) K').bind fun p => S p.2) else S K') = S K'') ∧ zSx K'' L N Rm ∧ zCy I J ∧ zfm [] zMxf K L ∧ zSw d tp n m cd h a v y np J L := by
  rcases hs with ⟨P, hg, ha⟩ | hb
  · have hT := hg.2.2.1
    obtain ⟨t1, t2, t3, t4, t5⟩ := id hT
    have i3 : I 1 3 = nI P.1 := hg.1.2.1
    have i4 : I 1 4 = nI P.2.1 := hg.1.2.2.1
    have i5 : I 1 5 = nI P.2.2 := hg.1.1.2.2.1
    have k18 : K 80 18 = nI (z_tkc tp P) := hg.2.1.2.1
    have k20 : K 80 20 = nI P.2.1 := hg.2.1.2.2.1
    have k21 : K 80 21 = nI P.2.2 := hg.2.1.2.2.2.1
    have k22 : K 80 22 = nI 0 := hg.2.1.1.2.2.2
    have tk4 := z_tkc_le (tp := tp) (P := P)
    have n10 : ∀ e : Nat, 1 ≤ e → e ≤ 5 → ¬ nI e = nI 0 := fun e h1 h2 => by
      rw [nI_eq (by omega) (by omega)]
      omega
    by_cases hk : P.1 = 1
    · have hk2 : z_tkc tp P = 2 := z_tkc_n.mpr hk
      rw [hk] at i3
      rw [hk2] at k18
      by_cases h4 : P.2.2 - P.2.1 ≤ 4
      · have i6 := hg.1.2.2.2.1 hk h4
        have k19 := hg.2.1.2.2.2.2 hk h4
        have hv := z_nv_4 (tp := tp) (a := P.2.1) (j := P.2.2 - P.2.1) h4 (fun i h1 h2 => t5 hk i h1 (by omega))
        have nw : f_X12_numberNow N Rm 80 (nI 0) (nI 9999) K = some (nI (z_nv tp P.2.1 (P.2.2 - P.2.1)), K) := by
          simp (disch := omega) only [f_X12_numberNow, f_X12_numberNow_59, kd_80, k18, k19, k20, k21, k22, pk_sub, zl_0, zl_2, zl_4, nI_eq, nI_ltI, nI_leI, gd_t, gd_pos, Option.bind_some, if_true, if_pos, if_neg]
        by_cases hlt : z_nv tp P.2.1 (P.2.2 - P.2.1) < np
        · obtain ⟨J, L, a1, a2, a3, a4, a5, a6⟩ := r_adv (N := N) hN hR hRm hd hn htp hg
          refine ⟨I, z_nv tp P.2.1 (P.2.2 - P.2.1), z_nv tp P.2.1 (P.2.2 - P.2.1), J, K, K, L, fun T => ?_, ?_, nw, fun S => ?_, Or.inl ⟨k22, a2⟩, a5, a6, Or.inl ⟨_, a3, by omega, rfl, hlt⟩⟩
          · rw [if_pos i3, i4, i5, pk_sub t2, if_neg (by rw [nI_ltI (by omega) (by omega)]; omega), i6, h3, if_pos (by rw [nI_ltI (by omega) (by omega)]; omega)]
          · simp (disch := omega) only [f_X5_readNumber, kd_1, i3, i4, i5, i6, a1, pk_sub, zl_1, zl_4, nI_eq, nI_ltI, nI_leI, gd_t, gd_pos, Option.bind_some, if_true, if_pos, if_neg]
          · rw [if_pos k22, k4, if_pos (by rw [nI_ltI (by omega) (by omega)]; omega)]
        · obtain ⟨J1, L1, s1, s2, s3, s4, s5, s6⟩ := r_stop (N := N) (R := R) (Rm := Rm) hn hd hg (e := 3) (by omega) (by omega)
          refine ⟨J1, 0, z_nv tp P.2.1 (P.2.2 - P.2.1), J1, K, L1, L1, fun T => ?_, c_num_f s3 _ _, nw, fun S => ?_, Or.inr ⟨by rw [s6]; exact n10 3 (by omega) (by omega), rfl⟩, s4, s5, Or.inr s3⟩
          · rw [if_pos i3, i4, i5, pk_sub t2, if_neg (by rw [nI_ltI (by omega) (by omega)]; omega), i6, h3, if_neg (by rw [nI_ltI (by omega) (by omega)]; omega), s1]
            rfl
          · rw [if_pos k22, k4, if_neg (by rw [nI_ltI (by omega) (by omega)]; omega), s2]
            rfl
      · obtain ⟨J1, L1, s1, s2, s3, s4, s5, s6⟩ := r_stop (N := N) (R := R) (Rm := Rm) hn hd hg (e := 2) (by omega) (by omega)
        refine ⟨I, 0, 0, J1, L1, L1, L1, fun T => ?_, ?_, ?_, fun S => ?_, Or.inr ⟨by rw [s6]; exact n10 2 (by omega) (by omega), rfl⟩, s4, s5, Or.inr s3⟩
        · rw [if_pos i3, i4, i5, pk_sub t2, if_pos (by rw [nI_ltI (by omega) (by omega)]; omega)]
        · simp (disch := omega) only [f_X5_readNumber, kd_1, i3, i4, i5, s1, pk_sub, zl_0, zl_1, zl_2, zl_4, nI_eq, nI_ltI, nI_leI, gd_t, gd_pos, Option.bind_some, if_true, if_pos]
        · simp (disch := omega) only [f_X12_numberNow, f_X12_numberNow_59, kd_80, k18, k20, k21, k22, s2, s6, pk_sub, zl_0, zl_2, zl_4, nI_eq, nI_ltI, nI_leI, gd_t, gd_pos, Option.bind_some, if_true, if_pos, if_neg]
        · rw [if_neg (by rw [s6]; exact n10 2 (by omega) (by omega))]
    · have hk2 : ¬ z_tkc tp P = 2 := fun h => hk (z_tkc_n.mp h)
      obtain ⟨J1, L1, s1, s2, s3, s4, s5, s6⟩ := r_stop (N := N) (R := R) (Rm := Rm) hn hd hg (e := 1) (by omega) (by omega)
      refine ⟨I, 0, 0, J1, L1, L1, L1, fun T => ?_, ?_, ?_, fun S => ?_, Or.inr ⟨by rw [s6]; exact n10 1 (by omega) (by omega), rfl⟩, s4, s5, Or.inr s3⟩
      · rw [if_neg (by rw [i3, nI_eq (by omega) (by omega)]; exact hk)]
      · simp (disch := omega) only [f_X5_readNumber, kd_1, i3, s1, zl_0, zl_1, nI_eq, gd_t, gd_pos, Option.bind_some, if_neg]
      · simp (disch := omega) only [f_X12_numberNow, f_X12_numberNow_59, kd_80, k18, k22, s2, s6, zl_0, zl_1, zl_2, nI_eq, gd_t, gd_pos, Option.bind_some, if_true, if_neg]
      · rw [if_neg (by rw [s6]; exact n10 1 (by omega) (by omega))]
  · have b3 := zB_3 hb
    obtain ⟨e, e1, e2, e3⟩ := zB_22 hb
    have nz : ¬ K 80 22 = nI 0 := by
      rw [e3, nI_eq (by omega) (by omega)]
      omega
    refine ⟨I, 0, 0, I, K, K, K, fun T => ?_, c_num_f hb _ _, m_now_f hb _ _, fun S => ?_, Or.inr ⟨nz, rfl⟩, zCy_refl I, zfm_refl _ _ _, Or.inr hb⟩
    · rw [if_neg (by rw [b3]; decide)]
    · rw [if_neg nz]
def z_plo (v1 v2 v k : Nat) : zP := fun j => match j with
  | 0 => v1
  | 1 => v2
  | 2 => v
  | 3 => 0
  | 4 => 0
  | _ => k
def x_pupil (X : zX9) (pl : zP) : zX9 := (X.1, (x_nu X + 1, sm_up (x_V X) (x_nu X) pl), X.2.2)
theorem r_pupil (hN : 5000 ≤ N) (hR : sR R q) (hRm : sR Rm qm) (hD : zDq R q d) (hn : n ≤ 700) (htp : ∀ i, i < n → tp i < 256) (hg : zG d tp n P m cd h I K) (hX : zDC d X I) (hY : zDM X K) (hO : zDO X) (h2 : P.1 = 2) {k : Nat} (hk : k = if z_isw tp P 4 = true then 1 else 0) : ∃ J L, f_X5_readPupil N R 1 I = some ((), J) ∧ f_X12_sayPupil N Rm 80 (nI k) K = some ((), L) ∧ zfr (zDls d) I J ∧ zMg K L ∧ zOut d tp n P.2.1 m cd h J L (fun X' => x_pt X' = x_pt X ∧ x_lt X' = x_lt X) := by
  have hq := dq_q hR hD
  have hd := dq_d hR hD
  have k1 : k ≤ 1 := by
    rw [hk]
    split <;> omega
  obtain ⟨t1, t2, t3, t4, t5⟩ := id hg.2.2.1
  obtain ⟨u0, u1, u2, u3, u4⟩ := hq.2.2
  have k22 : K 80 22 = nI 0 := hg.2.1.1.2.2.2
  have i1 := hX.2.1.1
  have k5 := hY.1.2.1
  have n7 := hO.2.1.1
  by_cases h7 : x_nu X = 7
  · obtain ⟨J, L, s1, s2, s3, s4, s5, s6⟩ := r_stop (N := N) (R := R) (Rm := Rm) hn hd hg (e := 2) (by omega) (by omega)
    rw [h7] at i1 k5
    refine ⟨J, L, ?_, ?_, zCl_y s4, zMg_y s5, Or.inr s3⟩
    · simp (disch := omega) only [f_X5_readPupil, kd_1, hD.1, dk_0 hq, dr_5 hq, u0, i1, s1, zl_2, zl_7, nI_ltI, gd_t, gd_pos, Option.bind_some, if_neg]
    · simp (disch := omega) only [f_X12_sayPupil, f_X12_another, f_X12_another_17, kd_80, r80_4 hRm, kd_84, k5, s2, s6, zl_0, zl_1, zl_2, zl_4, zl_7, nI_add, nI_leI, nI_ltI, nI_eq, nI_clamp, gd_t, gd_pos, lt_eq, Option.bind_some, true_and, and_true, not_true, not_false_iff, false_or, or_false, if_true, if_false, if_pos, if_neg]
  · have h7 : x_nu X < 7 := by omega
    obtain ⟨nu, hnu⟩ : ∃ nu, nu = x_nu X := ⟨_, rfl⟩
    rw [← hnu] at i1 k5 h7
    obtain ⟨c, hc⟩ : ∃ c, c = d + 7 + 2 + nu := ⟨_, rfl⟩
    have u3 := u3 nu h7
    have u4 := u4 nu h7
    rw [← hc] at u3 u4
    have w4 := c_isWord (N := N) hN hR hn htp hg.2.2.1 hg.1 (w := 4) (by omega) (by omega)
    obtain ⟨I0, hI0⟩ : ∃ I0, I0 = sm_up I c (sm_up (I c) 5 (nI k)) := ⟨_, rfl⟩
    have g0 : ∀ e, e ≠ c → I0 e = I e := fun e h1 => by rw [hI0, up_n _ _ h1]
    have hg0 := zG_c hg (g0 1 (by omega)) (g0 2 (by omega)) (g0 (d + 4) (by omega)) (g0 (d + 5) (by omega))
    obtain ⟨I1, K1, a1, a2, a3, a4, a5, a6⟩ := r_adv (N := N) hN hR hRm hd hn htp hg0
    have ag : ∀ e, e ≠ 1 → I1 e = I0 e := a5.1
    have am : ∀ e, e ≠ 80 → K1 e = K e := fun e he => a6.1 e he (by simp)
    obtain ⟨M1, hM1⟩ : ∃ M1, M1 = sm_up K1 88 (sm_up (K1 88) (7 + nu) (nI k)) := ⟨_, rfl⟩
    have m1 : ∀ e, e ≠ 88 → M1 e = K1 e := fun e he => by rw [hM1, up_n _ _ he]
    have g1 := zG_m a3 (m1 80 (by omega)) (m1 94 (by omega)) (by rw [m1 84 (by omega)]) (m1 92 (by omega))
    obtain ⟨v1, I2, K2, b1, b2, b3, b4, b5, b6⟩ := r_num2 (N := N) (a := P.2.1) hN hR hRm hd hn htp (Or.inl ⟨_, g1, by omega⟩) (l := 0) (t := 99) (by omega) (by omega)
    have bg : ∀ e, e ≠ 1 → I2 e = I1 e := b5.1
    have bm : ∀ e, e ≠ 80 → K2 e = M1 e := fun e he => b6.1 e he (by simp)
    obtain ⟨I3, hI3⟩ : ∃ I3, I3 = sm_up I2 c (sm_up (I2 c) 0 (nI v1)) := ⟨_, rfl⟩
    have g3 : ∀ e, e ≠ c → I3 e = I2 e := fun e h1 => by rw [hI3, up_n _ _ h1]
    obtain ⟨M2, hM2⟩ : ∃ M2, M2 = sm_up K2 89 (sm_up (K2 89) (7 + nu) (nI v1)) := ⟨_, rfl⟩
    have m2 : ∀ e, e ≠ 89 → M2 e = K2 e := fun e he => by rw [hM2, up_n _ _ he]
    have s3 : zSt d tp n m cd h P.2.1 I3 M2 := by
      rcases b4 with ⟨P', x1, x2, -⟩ | hb
      · exact Or.inl ⟨P', zG_m (zG_c x1 (g3 1 (by omega)) (g3 2 (by omega)) (g3 (d + 4) (by omega)) (g3 (d + 5) (by omega))) (m2 80 (by omega)) (m2 94 (by omega)) (by rw [m2 84 (by omega)]) (m2 92 (by omega)), by omega⟩
      · exact Or.inr (zB_m (zB_c hb (g3 1 (by omega)) (g3 (d + 4) (by omega))) (m2 80 (by omega)))
    obtain ⟨v2, I4, K3, c1, c2, c3, c4, c5, c6⟩ := r_num2 (N := N) (a := P.2.1) hN hR hRm hd hn htp s3 (l := 0) (t := 9) (by omega) (by omega)
    have cg : ∀ e, e ≠ 1 → I4 e = I3 e := c5.1
    have cm : ∀ e, e ≠ 80 → K3 e = M2 e := fun e he => c6.1 e he (by simp)
    obtain ⟨I5, hI5⟩ : ∃ I5, I5 = sm_up I4 c (sm_up (I4 c) 1 (nI v2)) := ⟨_, rfl⟩
    have g5 : ∀ e, e ≠ c → I5 e = I4 e := fun e h1 => by rw [hI5, up_n _ _ h1]
    obtain ⟨M3, hM3⟩ : ∃ M3, M3 = sm_up K3 90 (sm_up (K3 90) (7 + nu) (nI v2)) := ⟨_, rfl⟩
    have m3 : ∀ e, e ≠ 90 → M3 e = K3 e := fun e he => by rw [hM3, up_n _ _ he]
    have s5 : zSt d tp n m cd h P.2.1 I5 M3 := by
      rcases c4 with ⟨P', x1, x2, -⟩ | hb
      · exact Or.inl ⟨P', zG_m (zG_c x1 (g5 1 (by omega)) (g5 2 (by omega)) (g5 (d + 4) (by omega)) (g5 (d + 5) (by omega))) (m3 80 (by omega)) (m3 94 (by omega)) (by rw [m3 84 (by omega)]) (m3 92 (by omega)), by omega⟩
      · exact Or.inr (zB_m (zB_c hb (g5 1 (by omega)) (g5 (d + 4) (by omega))) (m3 80 (by omega)))
    have gI5 : ∀ e, e ≠ 1 → e ≠ c → I5 e = I e := fun e h1 h2 => by rw [g5 e h2, cg e h1, g3 e h2, bg e h1, ag e h1, g0 e h2]
    have gM3 : ∀ e, e ≠ 80 → e ≠ 88 → e ≠ 89 → e ≠ 90 → M3 e = K e := fun e h1 h2 h3 h4 => by rw [m3 e h4, cm e h1, m2 e h3, bm e h1, m1 e h2, am e h1]
    obtain ⟨I', v, y, J, K', K'', L, e1, e2, e3, e4, e5, e6, e7, e8⟩ := r_pnum (N := N) (a := P.2.1) hN hR hRm hd hn htp s5 hO.1.1 (by rw [gI5 d (by omega) (by omega)]; exact hX.1.1) (by rw [gM3 84 (by omega) (by omega) (by omega) (by omega)]; exact hY.1.1)
    have eg : ∀ e, e ≠ 1 → J e = I5 e := e6.1
    have emm : ∀ e, e ≠ 80 → L e = M3 e := fun e he => e7.1 e he (by simp)
    have gJ : ∀ e, e ≠ 1 → e ≠ c → J e = I e := fun e h1 h2 => (eg e h1).trans (gI5 e h1 h2)
    have gL : ∀ e, e ≠ 80 → e ≠ 88 → e ≠ 89 → e ≠ 90 → L e = K e := fun e h1 h2 h3 h4 => (emm e h1).trans (gM3 e h1 h2 h3 h4)
    obtain ⟨J9, hJ9⟩ : ∃ J9, J9 = sm_up (sm_up J c (sm_up (sm_up (sm_up (J c) 2 (nI v)) 3 (nI 0)) 4 (nI 0))) (d + 7) (sm_up (J (d + 7)) 1 (nI (nu + 1))) := ⟨_, rfl⟩
    obtain ⟨L9, hL9⟩ : ∃ L9, L9 = sm_up (sm_up L 91 (sm_up (L 91) (7 + nu) (nI y))) 84 (sm_up (L 84) 5 (nI (nu + 1))) := ⟨_, rfl⟩
    have j9 : ∀ e, e ≠ c → e ≠ d + 7 → J9 e = J e := fun e h1 h2 => by rw [hJ9, up_n _ _ h2, up_n _ _ h1]
    have l9 : ∀ e, e ≠ 84 → e ≠ 91 → L9 e = L e := fun e h1 h2 => by rw [hL9, up_n _ _ h1, up_n _ _ h2]
    have jn : J (d + 7) 1 = nI nu := by rw [gJ _ (by omega) (by omega)]; exact i1
    have ln : L 84 5 = nI nu := by rw [gL 84 (by omega) (by omega) (by omega) (by omega)]; exact k5
    have cf : f_X5_readPupil N R 1 I = some ((), J9) := by
      have t120 : f_X5_readPupil_120 N R 1 c I' = some ((), J9) := by
        rw [hJ9]
        have hcd : ¬ d + 7 = c := by omega
        simp (disch := omega) only [f_X5_readPupil_120, kd_1, hD.1, dk_0 hq, dr_5 hq, u0, u4, e2, jn, zl_0, zl_1, zl_6, nI_add, up_s, up_n, up_uu, gd_t, gd_pos, lt_eq, Option.bind_some]
      have t51 : f_X5_readPupil_51 N R 1 c c (nI k) I = some ((), J9) := by
        refine Eq.trans ?_ ((e1 (fun I => f_X5_readPupil_120 N R 1 c I)).trans t120)
        simp (disch := omega) only [f_X5_readPupil_51, kd_1, hD.1, dk_0 hq, u4, ← hI0, a1, zl_0, zl_1, zl_3, zl_4, zl_9, zl_99, b1, ← hI3, c1, ← hI5, gd_t, gd_pos, lt_eq, Option.bind_some]
      refine Eq.trans ?_ t51
      by_cases hw : z_isw tp P 4 = true
      · rw [if_pos hw] at w4 hk
        rw [hk]
        simp (disch := omega) only [f_X5_readPupil, kd_1, hD.1, dk_0 hq, dr_5 hq, u0, u1, u2, u3, i1, w4, zl_0, zl_1, zl_7, nI_ltI, nI_leI, nI_eq, nI_clamp, gd_t, gd_pos, lt_eq, Option.bind_some, true_and, and_true, not_true, not_false_iff, false_or, or_false, if_true, if_false, if_pos, if_neg]
      · rw [if_neg hw] at w4 hk
        rw [hk]
        simp (disch := omega) only [f_X5_readPupil, kd_1, hD.1, dk_0 hq, dr_5 hq, u0, u1, u2, u3, i1, w4, zl_0, zl_1, zl_7, nI_ltI, nI_leI, nI_eq, nI_clamp, gd_t, gd_pos, lt_eq, Option.bind_some, true_and, and_true, not_true, not_false_iff, false_or, or_false, if_true, if_false, if_pos, if_neg]
    have kn1 : K1 84 5 = nI nu := by rw [am 84 (by omega)]; exact k5
    have mf : f_X12_sayPupil N Rm 80 (nI k) K = some ((), L9) := by
      have t85 : f_X12_sayPupil_85 N Rm 80 (nI (7 + nu)) (nI y) K'' = some ((), L9) := by
        rw [hL9]
        rcases e5 with ⟨x1, x2⟩ | ⟨x1, x2⟩
        · simp (disch := omega) only [f_X12_sayPupil_85, kd_80, r80_4 hRm, kd_84, r80_11 hRm, kd_91, x1, x2, ln, zl_0, zl_1, zl_5, nI_add, nI_leI, nI_ltI, nI_clamp, up_s, up_n, gd_t, gd_pos, lt_eq, Option.bind_some, true_and, and_true, not_true, not_false_iff, false_or, or_false, if_true, if_false, if_pos, if_neg]
        · rw [← x2]
          have x1 : ¬ L 80 22 = nI 0 := by rw [x2]; exact x1
          simp (disch := omega) only [f_X12_sayPupil_85, kd_80, r80_4 hRm, kd_84, r80_11 hRm, kd_91, x1, ln, zl_0, zl_1, zl_5, nI_add, nI_leI, nI_ltI, nI_clamp, up_s, up_n, gd_t, gd_pos, lt_eq, Option.bind_some, true_and, and_true, not_true, not_false_iff, false_or, or_false, if_true, if_false, if_pos, if_neg]
      refine Eq.trans ?_ ((e4 (fun K => f_X12_sayPupil_85 N Rm 80 (nI (7 + nu)) (nI y) K)).trans t85)
      simp (disch := omega) only [f_X12_sayPupil, f_X12_another, f_X12_another_17, kd_80, r80_4 hRm, kd_84, r80_8 hRm, kd_88, r80_9 hRm, kd_89, r80_10 hRm, kd_90, k5, kn1, k22, a2, zl_0, zl_1, zl_3, zl_4, zl_5, zl_7, zl_9, zl_99, zl_9999, nI_add, nI_leI, nI_ltI, nI_eq, nI_clamp, ← hM1, b2, ← hM2, c2, ← hM3, e3, gd_t, gd_pos, lt_eq, Option.bind_some, true_and, and_true, not_true, not_false_iff, false_or, or_false, if_true, if_false, if_pos, if_neg]
    have fI : zfr (zDls d) I J9 := fun e he => by
      have h40 : e ≠ 1 := fun h => he (by rw [h]; unfold zDls; simp)
      have hcc : e ≠ c := fun h => he (by
        rw [h, hc]
        unfold zDls
        simp only [List.mem_cons, List.not_mem_nil, or_false]
        omega)
      have h7' : e ≠ d + 7 := fun h => he (by rw [h]; unfold zDls; simp)
      rw [j9 e hcc h7', gJ e h40 hcc]
    have fK : zMg K L9 := by
      have x1 := zMg_up (zMg_y a6) (c := 88) (j := 7 + nu) (v := nI k) (by omega)
      rw [← hM1] at x1
      have x2 := zMg_up (zMg_trans x1 (zMg_y b6)) (c := 89) (j := 7 + nu) (v := nI v1) (by omega)
      rw [← hM2] at x2
      have x3 := zMg_up (zMg_trans x2 (zMg_y c6)) (c := 90) (j := 7 + nu) (v := nI v2) (by omega)
      rw [← hM3] at x3
      have x4 := zMg_up (zMg_trans x3 (zMg_y e7)) (c := 91) (j := 7 + nu) (v := nI y) (by omega)
      have x5 := zMg_up x4 (c := 84) (j := 5) (v := nI (nu + 1)) (by omega)
      rw [show sm_up L 91 (sm_up (L 91) (7 + nu) (nI y)) 84 = L 84 from up_n _ _ (by omega), ← hL9] at x5
      exact x5
    refine ⟨J9, L9, cf, mf, fI, fK, ?_⟩
    rcases e8 with ⟨P', x1, x2, rfl, x3⟩ | hb
    · refine Or.inl ⟨P', x_pupil X (z_plo v1 v2 v k), zG_m (zG_c x1 (j9 1 (by omega) (by omega)) (j9 2 (by omega) (by omega)) (j9 (d + 4) (by omega) (by omega)) (j9 (d + 5) (by omega) (by omega))) (l9 80 (by omega) (by omega)) (l9 94 (by omega) (by omega)) (by rw [hL9, up_s, up_n _ _ (by omega)]) (l9 92 (by omega) (by omega)), ?_, ?_, ?_, ⟨rfl, rfl⟩, x2⟩
      · obtain ⟨⟨o0, o1⟩, o2, o3, o4, o5, o6⟩ := hX
        have gq : ∀ e, e ≠ 1 → e ≠ c → e ≠ d + 7 → J9 e = I e := fun e h1 h2 h3 => (j9 e h2 h3).trans (gJ e h1 h2)
        have j407 : J 1 10 = I 1 10 := by rw [e6.2.1, g5 1 (by omega), c5.2.1, g3 1 (by omega), b5.2.1, a5.2.1, g0 1 (by omega)]
        refine ⟨?_, ⟨by rw [hJ9, up_s, up_s]; show nI (nu + 1) = nI (x_nu X + 1); rw [hnu], fun p hp => ?_⟩, ?_, ?_, ?_, ?_⟩
        · rw [gq d (by omega) (by omega) (by omega), gq (d + 1) (by omega) (by omega) (by omega), gq (d + 2) (by omega) (by omega) (by omega), gq (d + 3) (by omega) (by omega) (by omega)]
          exact ⟨o0, o1⟩
        · show zPl (sm_up (x_V X) (x_nu X) (z_plo v1 v2 v k) p) (J9 (d + 7 + 2 + p))
          have hp : p < x_nu X + 1 := hp
          by_cases e : p = x_nu X
          · rw [e, up_s, ← hnu, ← hc, hJ9, up_n _ _ (by omega), up_s, eg c (by omega), hI5, up_s, cg c (by omega), hI3, up_s, bg c (by omega), ag c (by omega), hI0, up_s]
            intro j hj
            have hcj : j = 0 ∨ j = 1 ∨ j = 2 ∨ j = 3 ∨ j = 4 ∨ j = 5 := by omega
            rcases hcj with rfl | rfl | rfl | rfl | rfl | rfl
            all_goals
              simp (disch := omega) only [up_s, up_n]
              rfl
          · rw [up_n _ _ e, gq _ (by omega) (by omega) (by omega)]
            exact o2.2 p (by omega)
        · rw [hJ9, up_s, up_n _ _ (by omega), gJ _ (by omega) (by omega)]
          exact o3
        · rw [hJ9, up_s, up_n _ _ (by omega), gJ _ (by omega) (by omega)]
          exact o4
        · rw [gq _ (by omega) (by omega) (by omega)]
          exact o5
        · rw [j9 1 (by omega) (by omega), j407]
          exact o6
      · obtain ⟨⟨o1, o2, o3⟩, o4, o5⟩ := hY
        have gq : ∀ e, e ≠ 80 → e ≠ 84 → e ≠ 88 → e ≠ 89 → e ≠ 90 → e ≠ 91 → L9 e = K e := fun e h1 h2 h3 h4 h5 h6 => (l9 e h2 h6).trans (gL e h1 h3 h4 h5)
        have q84 : L 84 = K 84 := gL 84 (by omega) (by omega) (by omega) (by omega)
        have q88 : L9 88 = sm_up (K 88) (7 + nu) (nI k) := by rw [l9 88 (by omega) (by omega), emm 88 (by omega), m3 88 (by omega), cm 88 (by omega), m2 88 (by omega), bm 88 (by omega), hM1, up_s, am 88 (by omega)]
        have q89 : L9 89 = sm_up (K 89) (7 + nu) (nI v1) := by rw [l9 89 (by omega) (by omega), emm 89 (by omega), m3 89 (by omega), cm 89 (by omega), hM2, up_s, bm 89 (by omega), m1 89 (by omega), am 89 (by omega)]
        have q90 : L9 90 = sm_up (K 90) (7 + nu) (nI v2) := by rw [l9 90 (by omega) (by omega), emm 90 (by omega), hM3, up_s, cm 90 (by omega), m2 90 (by omega), bm 90 (by omega), m1 90 (by omega), am 90 (by omega)]
        have q91 : L9 91 = sm_up (K 91) (7 + nu) (nI v) := by rw [hL9, up_n _ _ (by omega), up_s, gL 91 (by omega) (by omega) (by omega) (by omega)]
        refine ⟨⟨?_, ?_, ?_⟩, fun w hw => ?_, fun p hp => ?_⟩
        · rw [hL9, up_s, up_n _ _ (by omega), q84]
          exact o1
        · rw [hL9, up_s, up_s]
          show nI (nu + 1) = nI (x_nu X + 1)
          rw [hnu]
        · rw [hL9, up_s, up_n _ _ (by omega), q84]
          exact o3
        · rw [gq 85 (by omega) (by omega) (by omega) (by omega) (by omega) (by omega), gq 86 (by omega) (by omega) (by omega) (by omega) (by omega) (by omega), gq 87 (by omega) (by omega) (by omega) (by omega) (by omega) (by omega)]
          exact o4 w hw
        · show L9 88 (7 + p) = nI (sm_up (x_V X) (x_nu X) (z_plo v1 v2 v k) p 5) ∧ L9 89 (7 + p) = nI (sm_up (x_V X) (x_nu X) (z_plo v1 v2 v k) p 0) ∧ L9 90 (7 + p) = nI (sm_up (x_V X) (x_nu X) (z_plo v1 v2 v k) p 1) ∧ L9 91 (7 + p) = nI (sm_up (x_V X) (x_nu X) (z_plo v1 v2 v k) p 2)
          have hp : p < x_nu X + 1 := hp
          rw [q88, q89, q90, q91]
          by_cases e : p = x_nu X
          · rw [e, up_s, ← hnu, up_s, up_s, up_s, up_s]
            exact ⟨rfl, rfl, rfl, rfl⟩
          · rw [up_n _ _ e, up_n _ _ (by omega), up_n _ _ (by omega), up_n _ _ (by omega), up_n _ _ (by omega)]
            exact o5 p (by omega)
      · obtain ⟨o1, ⟨o2, o3⟩, o4⟩ := hO
        refine ⟨o1, ⟨by show x_nu X + 1 ≤ 7; omega, fun p hp => ?_⟩, o4⟩
        show sm_up (x_V X) (x_nu X) (z_plo v1 v2 v k) p 0 ≤ 99 ∧ sm_up (x_V X) (x_nu X) (z_plo v1 v2 v k) p 1 ≤ 9 ∧ sm_up (x_V X) (x_nu X) (z_plo v1 v2 v k) p 2 < x_np X ∧ sm_up (x_V X) (x_nu X) (z_plo v1 v2 v k) p 3 = 0 ∧ sm_up (x_V X) (x_nu X) (z_plo v1 v2 v k) p 4 = 0 ∧ sm_up (x_V X) (x_nu X) (z_plo v1 v2 v k) p 5 ≤ 1
        have hp : p < x_nu X + 1 := hp
        by_cases e : p = x_nu X
        · rw [e, up_s]
          exact ⟨b3, c3, x3, rfl, rfl, k1⟩
        · rw [up_n _ _ e]
          exact o3 p (by omega)
    · exact Or.inr (zB_m (zB_c hb (j9 1 (by omega) (by omega)) (j9 (d + 4) (by omega) (by omega))) (l9 80 (by omega) (by omega)))
end ZR
