/-! ===== PURE PART: school: lines ===== -/
def z_dis (w w' : Nat) : Bool := !decide (1 ≤ w ∧ 1 ≤ w' ∧ w ≠ w' ∧ sm_len.getD w 0 = sm_len.getD w' 0) || (zfs (fun i => decide (z_chr w i ≠ z_chr w' i)) (sm_len.getD w 0) 0).isSome
theorem z_dis_t : ∀ w, w < 7 → ∀ w', w' < 7 → z_dis w w' = true := by decide +kernel
theorem z_wdis {w w' : Nat} (h1 : w < 7) (h2 : w' < 7) (h3 : 1 ≤ w) (h4 : 1 ≤ w') (h5 : w ≠ w') (h6 : sm_len.getD w 0 = sm_len.getD w' 0) : zfs (fun i => decide (z_chr w i ≠ z_chr w' i)) (sm_len.getD w 0) 0 ≠ none := fun h => by
  have := z_dis_t w h1 w' h2
  unfold z_dis at this
  rw [decide_eq_true ⟨h3, h4, h5, h6⟩, h] at this
  cases this
theorem z_isw_ne {tp : Nat → Nat} {P : zK} {w w' : Nat} (h1 : w < 7) (h2 : w' < 7) (h3 : 1 ≤ w) (h4 : 1 ≤ w') (hne : w ≠ w') (h : z_isw tp P w = true) : ¬ z_isw tp P w' = true := fun h' => by
  obtain ⟨-, a1, a2⟩ := z_isw_e h
  obtain ⟨-, b1, b2⟩ := z_isw_e h'
  refine z_wdis h1 h2 h3 h4 hne (a1.symm.trans b1) (zfs_nil _ 0 (fun i _ hi hc => of_decide_eq_true hc ?_))
  have c1 : tp (P.2.1 + i) = z_chr w i := Decidable.of_not_not (fun hx => zfs_none _ 0 a2 i (by omega) (by omega) (decide_eq_true hx))
  have c2 : tp (P.2.1 + i) = z_chr w' i := Decidable.of_not_not (fun hx => zfs_none _ 0 b2 i (by omega) (by omega) (decide_eq_true hx))
  exact c1.symm.trans c2
def zLn (d : Nat) (tp : Nat → Nat) (n : Nat) (P : zK) (m : Nat) (cd : Nat → Nat) (X : zX9) (I K : Nat → Nat → Int32) : Prop := zG d tp n P m cd (x_lt X) I K ∧ m ≤ P.2.1 ∧ (x_lt X = 0 → m = 0) ∧ zDC d X I ∧ zDM X K ∧ zDO X
/-- behind a line, or its inner part -/
def zLo (d : Nat) (tp : Nat → Nat) (n a : Nat) (x : Int32) (J L : Nat → Nat → Int32) : Prop := (∃ P' m' cd' X', zLn d tp n P' m' cd' X' J L ∧ x = nI (x_pt X' + 2 * x_lt X') ∧ a < P'.2.1) ∨ zB d J L
def x_pian (X : zX9) (v : Nat) : zX9 := (X.1, X.2.1, v, 1, X.2.2.2.2)
def x_lern (X : zX9) : zX9 := (X.1, X.2.1, X.2.2.1, X.2.2.2.1, 1)
section ZR
variable {N : Nat} {R Rm : Nat → Nat → Nat} {q qm d n m a : Nat} {P : zK} {tp cd : Nat → Nat} {I J K L : Nat → Nat → Int32} {X : zX9}
theorem r_tail (hN : 5000 ≤ N) (hR : sR R q) (hRm : sR Rm qm) (hD : zDq R q d) (hn : n ≤ 700) (htp : ∀ i, i < n → tp i < 256) {x : Int32} (h : zLo d tp n a x J L) : ∃ J2 L2, f_X5_skipSign N R 1 (nI 59) J = some ((), J2) ∧ f_X12_mark N Rm 80 (nI 59) L = some ((), L2) ∧ zfr (zDls d) J J2 ∧ zMg L L2 ∧ zLo d tp n a x J2 L2 := by
  have hd := dq_d hR hD
  rcases h with ⟨P', m', cd', X', ⟨g1, g2, g3, g4, g5, g6⟩, hx, ha⟩ | hb
  · obtain ⟨J2, L2, a1, a2, a3, a4, a5⟩ := r_skip (N := N) hN hR hRm hd hn htp g1 (c := 59) (by omega) (by decide)
    refine ⟨J2, L2, a1, a2, zCl_y a4, zMg_y a5, ?_⟩
    rcases a3 with ⟨P2, b1, b2⟩ | hb
    · exact Or.inl ⟨P2, m', cd', X', ⟨b1, by omega, g3, zDC_y hd g4 g6.2.1.1 a4, zDM_y g5 a5, g6⟩, hx, by omega⟩
    · exact Or.inr hb
  · exact ⟨J, L, c_skip_f hb _, m_mark_f hb _, zfr_refl _ _, zMg_refl L, Or.inr hb⟩
theorem zG_10 {h : Nat} (hg : zG d tp n P m cd h I K) (hd : d = 3 ∨ d = 22) (v : Int32) : zG d tp n P m cd h (sm_up I 1 (sm_up (I 1) 10 v)) K := by
  obtain ⟨⟨⟨h1, ht, h5, h8⟩, h3, h4, h6, h7⟩, g2, g3, g4, ⟨g5, g6⟩, g7, g9⟩ := hg
  refine ⟨⟨⟨?_, ?_, ?_, ?_⟩, ?_, ?_, ?_, ?_⟩, g2, g3, ⟨g4.1, by rw [up_s, up_n _ _ (by omega)]; exact g4.2⟩, ⟨?_, ?_⟩, g7, g9⟩
  · rw [up_s, up_n _ _ (by omega)]
    exact h1
  · intro i hi
    rw [up_n _ _ (by omega)]
    exact ht i hi
  · rw [up_s, up_n _ _ (by omega)]
    exact h5
  · rw [up_s, up_n _ _ (by omega)]
    exact h8
  · rw [up_s, up_n _ _ (by omega)]
    exact h3
  · rw [up_s, up_n _ _ (by omega)]
    exact h4
  · intro x y
    rw [up_s, up_n _ _ (by omega)]
    exact h6 x y
  · intro x
    rw [up_s, up_n _ _ (by omega)]
    exact h7 x
  · rw [up_n _ _ (by omega)]
    exact g5
  · intro i hi
    rw [up_n _ _ (by omega)]
    exact g6 i hi
/-- pianos -/
theorem r_pianos (hN : 5000 ≤ N) (hR : sR R q) (hRm : sR Rm qm) (hD : zDq R q d) (hn : n ≤ 700) (htp : ∀ i, i < n → tp i < 256) (hl : zLn d tp n P m cd X I K) (h2 : P.1 = 2) : ∃ J L x, f_X5_readPianos N R 1 I = some ((), J) ∧ f_X12_readLine_47 N Rm 80 (nI (x_pt X + 2 * x_lt X)) (-nI 1) (-nI 1) (nI 1) K = (f_X12_mark N Rm 80 (nI 59) L).bind (fun p => some (x, p.2)) ∧ zfr (zDls d) I J ∧ zMg K L ∧ zLo d tp n P.2.1 x J L := by
  obtain ⟨hg, hm, hm0, hX, hY, hO⟩ := hl
  have hq := dq_q hR hD
  have hd := dq_d hR hD
  obtain ⟨t1, t2, t3, t4, t5⟩ := id hg.2.2.1
  have k22 : K 80 22 = nI 0 := hg.2.1.1.2.2.2
  have i10 := hX.2.2.2.2.2
  have p1 := hO.2.2.2.2.1
  have l1 := hO.2.2.2.2.2
  by_cases hp : x_pt X = 1
  · obtain ⟨J, L1, s1, s2, s3, s4, s5, s6⟩ := r_stop (N := N) (R := R) (Rm := Rm) hn hd hg (e := 5) (by omega) (by omega)
    have nf := m_num_f (N := N) (R := Rm) s3 (nI 1) (nI 4)
    obtain ⟨L, hL⟩ : ∃ L, L = sm_up L1 84 (sm_up (L1 84) 6 (nI 0)) := ⟨_, rfl⟩
    rw [hp] at i10
    have ha : nI 1 &&& nI (x_pt X + 2 * x_lt X) = nI 1 := by
      rw [hp]
      have hc : x_lt X = 0 ∨ x_lt X = 1 := by omega
      rcases hc with h | h <;> rw [h] <;> decide
    refine ⟨J, L, nI (x_pt X + 2 * x_lt X) ||| nI 1, ?_, ?_, zCl_y s4, by rw [hL]; exact zMg_up (zMg_y s5) (by omega), Or.inr (zB_m s3 (by rw [hL, up_n _ _ (by omega)]))⟩
    · simp (disch := omega) only [f_X5_readPianos, kd_1, i10, s1, zl_0, zl_5, nI_eq, gd_t, gd_pos, Option.bind_some, if_neg]
    · rw [hL]
      simp (disch := omega) only [f_X12_readLine_47, f_X12_readLine_61, f_X12_readLine_77, kd_80, r80_4 hRm, kd_84, ha, s2, s6, nf, zl_0, zl_1, zl_4, zl_5, zl_6, zl_59, nI_eq, nI_leI, nI_ltI, nI_clamp, gd_t, gd_pos, lt_eq, Option.bind_some, true_and, and_true, not_true, not_false_iff, false_or, or_false, if_true, if_false, if_pos, if_neg]
  · have hp : x_pt X = 0 := by omega
    rw [hp] at i10
    have hg0 := zG_10 hg hd (nI 1)
    obtain ⟨I1, K1, a1, a2, a3, a4, a5, a6⟩ := r_adv (N := N) hN hR hRm hd hn htp hg0
    obtain ⟨v, I2, K2, b1, b2, b3, b4, b5, b6⟩ := r_num2 (N := N) (a := P.2.1) hN hR hRm hd hn htp (Or.inl ⟨_, a3, by omega⟩) (l := 1) (t := 4) (by omega) (by omega)
    obtain ⟨J, hJ⟩ : ∃ J, J = sm_up I2 (d + 7) (sm_up (I2 (d + 7)) 3 (nI v)) := ⟨_, rfl⟩
    obtain ⟨L, hL⟩ : ∃ L, L = sm_up K2 84 (sm_up (K2 84) 6 (nI v)) := ⟨_, rfl⟩
    have gj : ∀ e, e ≠ d + 7 → J e = I2 e := fun e he => by rw [hJ, up_n _ _ he]
    have gl : ∀ e, e ≠ 84 → L e = K2 e := fun e he => by rw [hL, up_n _ _ he]
    have ha : nI 1 &&& nI (x_pt X + 2 * x_lt X) = nI 0 := by
      rw [hp]
      have hc : x_lt X = 0 ∨ x_lt X = 1 := by omega
      rcases hc with h | h <;> rw [h] <;> decide
    have ho : nI (x_pt X + 2 * x_lt X) ||| nI 1 = nI (1 + 2 * x_lt X) := by
      rw [hp]
      have hc : x_lt X = 0 ∨ x_lt X = 1 := by omega
      rcases hc with h | h <;> rw [h] <;> decide
    have gi : ∀ e, e ≠ 1 → I2 e = I e := fun e he => by rw [b5.1 e he, a5.1 e he, up_n _ _ he]
    refine ⟨J, L, nI (1 + 2 * x_lt X), ?_, ?_, fun e he => ?_, by rw [hL]; exact zMg_up (zMg_trans (zMg_y a6) (zMg_y b6)) (by omega), ?_⟩
    · rw [hJ]
      simp (disch := omega) only [f_X5_readPianos, kd_1, hD.1, dk_0 hq, dr_5 hq, dt_0 hq, i10, zl_0, zl_1, zl_4, a1, b1, gd_t, gd_pos, lt_eq, Option.bind_some, if_true]
    · rw [hL]
      simp (disch := omega) only [f_X12_readLine_47, f_X12_readLine_61, f_X12_readLine_77, kd_80, r80_4 hRm, kd_84, ha, k22, a2, b2, ho, zl_0, zl_1, zl_4, zl_6, zl_59, nI_eq, nI_leI, nI_ltI, nI_clamp, gd_t, gd_pos, lt_eq, Option.bind_some, true_and, and_true, not_true, not_false_iff, false_or, or_false, if_true, if_false, if_pos, if_neg]
    · have h1 : e ≠ d + 7 := fun h => he (by rw [h]; unfold zDls; simp)
      have h2 : e ≠ 1 := fun h => he (by rw [h]; unfold zDls; simp)
      rw [gj e h1, gi e h2]
    · rcases b4 with ⟨P', g1, g2, g3⟩ | hb
      · refine Or.inl ⟨P', m, cd, x_pian X v, ⟨zG_m (zG_c g1 (gj 1 (by omega)) (gj 2 (by omega)) (gj (d + 4) (by omega)) (gj (d + 5) (by omega))) (gl 80 (by omega)) (gl 94 (by omega)) (by rw [hL, up_s, up_n _ _ (by omega)]) (gl 92 (by omega)), by omega, hm0, ?_, ?_, ?_⟩, rfl, g2⟩
        · obtain ⟨⟨o0, o1⟩, o2, o3, o4, o5, o6⟩ := hX
          have gq : ∀ e, e ≠ 1 → e ≠ d + 7 → J e = I e := fun e h1 h2 => (gj e h2).trans (gi e h1)
          refine ⟨?_, ⟨by rw [hJ, up_s, up_n _ _ (by omega), gi _ (by omega)]; exact o2.1, fun p hp => by
            have hp7 : p < x_nu X := hp
            have n7 := hO.2.1.1
            rw [gq _ (by omega) (by omega)]
            exact o2.2 p hp⟩, ?_, ?_, ?_, ?_⟩
          · rw [gq d (by omega) (by omega), gq (d + 1) (by omega) (by omega), gq (d + 2) (by omega) (by omega), gq (d + 3) (by omega) (by omega)]
            exact ⟨o0, o1⟩
          · rw [hJ, up_s, up_n _ _ (by omega), gi _ (by omega)]
            exact o3
          · rw [hJ, up_s, up_s]
            rfl
          · rw [gq _ (by omega) (by omega)]
            exact o5
          · rw [gj 1 (by omega), b5.2.1, a5.2.1, up_s, up_s]
            rfl
        · obtain ⟨⟨o1, o2, o3⟩, o4, o5⟩ := zDM_y (zDM_y hY a6) b6
          refine ⟨⟨by rw [hL, up_s, up_n _ _ (by omega)]; exact o1, by rw [hL, up_s, up_n _ _ (by omega)]; exact o2, by rw [hL, up_s, up_s]; rfl⟩, ?_, ?_⟩
          · rw [gl 85 (by omega), gl 86 (by omega), gl 87 (by omega)]
            exact o4
          · rw [gl 88 (by omega), gl 89 (by omega), gl 90 (by omega), gl 91 (by omega)]
            exact o5
        · obtain ⟨o1, o2, o3, o4, o5, o6⟩ := hO
          exact ⟨o1, o2, g3, b3, by show 1 ≤ 1; omega, o6⟩
      · exact Or.inr (zB_m (zB_c hb (gj 1 (by omega)) (gj (d + 4) (by omega))) (gl 80 (by omega)))
/-- learns -/
theorem r_learns (hN : 5000 ≤ N) (hR : sR R q) (hRm : sR Rm qm) (hD : zDq R q d) (hn : n ≤ 700) (htp : ∀ i, i < n → tp i < 256) (hl : zLn d tp n P m cd X I K) (h2 : P.1 = 2) : ∃ J L x, f_X5_readLearns N R 1 I = some ((), J) ∧ f_X12_readLine_47 N Rm 80 (nI (x_pt X + 2 * x_lt X)) (-nI 1) (-nI 1) (nI 2) K = (f_X12_mark N Rm 80 (nI 59) L).bind (fun p => some (x, p.2)) ∧ zfr (zDls d) I J ∧ zMg K L ∧ zLo d tp n P.2.1 x J L := by
  obtain ⟨hg, hm, hm0, hX, hY, hO⟩ := hl
  have hq := dq_q hR hD
  have hd := dq_d hR hD
  obtain ⟨t1, t2, t3, t4, t5⟩ := id hg.2.2.1
  have k22 : K 80 22 = nI 0 := hg.2.1.1.2.2.2
  have i2 := hX.2.2.2.2.1
  have p1 := hO.2.2.2.2.1
  have l1 := hO.2.2.2.2.2
  have LL := r_learn (N := N) hN hR hRm hD hn htp
  by_cases hp : x_lt X = 1
  · obtain ⟨J, L, s1, s2, s3, s4, s5, s6⟩ := r_stop (N := N) (R := R) (Rm := Rm) hn hd hg (e := 5) (by omega) (by omega)
    obtain ⟨-, nf⟩ := LL.2 J L s3
    have nf : g_X12_readExpression N Rm 80 (nI 0) L = some ((), L) := nf
    rw [hp] at i2
    have ha : nI 2 &&& nI (x_pt X + 2 * x_lt X) = nI 2 := by
      rw [hp]
      have hc : x_pt X = 0 ∨ x_pt X = 1 := by omega
      rcases hc with h | h <;> rw [h] <;> decide
    refine ⟨J, L, nI (x_pt X + 2 * x_lt X) ||| nI 2, ?_, ?_, zCl_y s4, zMg_y s5, Or.inr s3⟩
    · simp (disch := omega) only [f_X5_readLearns, kd_1, hD.1, dk_0 hq, dr_4 hq, dk_4 hq, i2, s1, zl_0, zl_5, nI_eq, gd_t, gd_pos, Option.bind_some, if_neg]
    · simp (disch := omega) only [f_X12_readLine_47, f_X12_readLine_61, f_X12_readLine_77, kd_80, ha, s2, s6, nf, zl_0, zl_1, zl_5, zl_59, nI_eq, nI_leI, gd_t, gd_pos, Option.bind_some, if_neg]
  · have hp : x_lt X = 0 := by omega
    have hm0 := hm0 hp
    rw [hp] at i2 hg
    obtain ⟨I0, hI0⟩ : ∃ I0, I0 = sm_up I (d + 4) (sm_up (I (d + 4)) 2 (nI 1)) := ⟨_, rfl⟩
    have g0 : ∀ e, e ≠ d + 4 → I0 e = I e := fun e h1 => by rw [hI0, up_n _ _ h1]
    have hg0 : zG d tp n P m cd 0 I0 K := by
      obtain ⟨x1, x2, x3, x4, ⟨x5, x6⟩, x7, x9⟩ := hg
      refine ⟨?_, x2, x3, ⟨x4.1, by rw [g0 1 (by omega)]; exact x4.2⟩, ⟨by rw [hI0, up_s, up_n _ _ (by omega)]; exact x5, fun i hi => by rw [g0 _ (by omega)]; exact x6 i hi⟩, x7, x9⟩
      unfold zCT zCT0 at x1 ⊢
      rw [g0 1 (by omega), g0 2 (by omega)]
      exact x1
    obtain ⟨I1, K1, a1, a2, a3, a4, a5, a6⟩ := r_adv (N := N) hN hR hRm hd hn htp hg0
    obtain ⟨J, L, b1, b2, b3, b4, b5⟩ := LL.1 I1 K1 _ m cd 0 a3 (by omega)
    have b1 : g_X5_readLevel N R 1 (nI 0) (nI 0) I1 = some ((), J) := b1
    have b2 : g_X12_readExpression N Rm 80 (nI 0) K1 = some ((), L) := b2
    have ha : nI 2 &&& nI (x_pt X + 2 * x_lt X) = nI 0 := by
      rw [hp]
      have hc : x_pt X = 0 ∨ x_pt X = 1 := by omega
      rcases hc with h | h <;> rw [h] <;> decide
    have ho : nI (x_pt X + 2 * x_lt X) ||| nI 2 = nI (x_pt X + 2 * 1) := by
      rw [hp]
      have hc : x_pt X = 0 ∨ x_pt X = 1 := by omega
      rcases hc with h | h <;> rw [h] <;> decide
    refine ⟨J, L, nI (x_pt X + 2 * 1), ?_, ?_, ?_, zMg_trans (zMg_y a6) (zMg_x b4), ?_⟩
    · simp (disch := omega) only [f_X5_readLearns, kd_1, hD.1, dk_0 hq, dr_4 hq, dk_4 hq, i2, zl_0, zl_1, ← hI0, a1, b1, gd_t, gd_pos, lt_eq, Option.bind_some, if_true]
    · simp (disch := omega) only [f_X12_readLine_47, f_X12_readLine_61, f_X12_readLine_77, kd_80, ha, k22, a2, b2, ho, zl_0, zl_1, zl_59, nI_eq, nI_leI, gd_t, gd_pos, Option.bind_some, if_true, if_neg]
    · have : zfr (zDls d) I I0 := by
        rw [hI0]
        exact zfr_up (zfr_refl _ _) (by unfold zDls; simp) _
      exact zfr_trans this (zfr_trans (zCl_y a5) (zCl_x b3))
    · rcases b5 with ⟨P', m', cd', g1, g2, g3⟩ | hb
      · refine Or.inl ⟨P', m', cd', x_lern X, ⟨g1, by omega, fun h => absurd h (by show ¬ 1 = 0; omega), ?_, ?_, ?_⟩, rfl, by omega⟩
        · obtain ⟨⟨o0, o1⟩, o2, o3, o4, o5, o6⟩ := hX
          have gq : ∀ e, e ≠ 1 → e ≠ d + 4 → e ≠ d + 5 → J e = I e := fun e h1 h2 h3 => by
            rw [b3.1 e (by simp; omega), a5.1 e h1, g0 e h2]
          refine ⟨?_, zCV_fr o2 hO.2.1.1 (fun c hc => gq c (by omega) (by omega) (by omega)), ?_, ?_, ?_, ?_⟩
          · rw [gq d (by omega) (by omega) (by omega), gq (d + 1) (by omega) (by omega) (by omega), gq (d + 2) (by omega) (by omega) (by omega), gq (d + 3) (by omega) (by omega) (by omega)]
            exact ⟨o0, o1⟩
          · rw [gq _ (by omega) (by omega) (by omega)]
            exact o3
          · rw [gq _ (by omega) (by omega) (by omega)]
            exact o4
          · rw [b3.2.1, a5.1 _ (by omega), hI0, up_s, up_s]
            rfl
          · rw [b3.2.2.1, a5.2.1, g0 1 (by omega)]
            exact o6
        · obtain ⟨⟨o1, o2, o3⟩, o4, o5⟩ := zDM_y hY a6
          have gq : ∀ e, e ≠ 80 → e ≠ 84 → e ≠ 92 → L e = K1 e := fun e h1 h2 h3 => b4.1.1 e h1 (by simp; omega)
          refine ⟨⟨by rw [b4.2.1 4 (by omega)]; exact o1, by rw [b4.2.1 5 (by omega)]; exact o2, by rw [b4.2.1 6 (by omega)]; exact o3⟩, ?_, ?_⟩
          · rw [gq 85 (by omega) (by omega) (by omega), gq 86 (by omega) (by omega) (by omega), gq 87 (by omega) (by omega) (by omega)]
            exact o4
          · rw [gq 88 (by omega) (by omega) (by omega), gq 89 (by omega) (by omega) (by omega), gq 90 (by omega) (by omega) (by omega), gq 91 (by omega) (by omega) (by omega)]
            exact o5
        · obtain ⟨o1, o2, o3, o4, o5, o6⟩ := hO
          exact ⟨o1, o2, o3, o4, o5, by show 1 ≤ 1; omega⟩
      · exact Or.inr hb
theorem zOut_lo (hl : zLn d tp n P m cd X I K) (h : zOut d tp n P.2.1 m cd (x_lt X) J L (fun X' => x_pt X' = x_pt X ∧ x_lt X' = x_lt X)) : zLo d tp n P.2.1 (nI (x_pt X + 2 * x_lt X)) J L := by
  obtain ⟨hg, hm, hm0, hX, hY, hO⟩ := hl
  rcases h with ⟨P', X', g1, g2, g3, g4, ⟨g5, g6⟩, g7⟩ | hb
  · exact Or.inl ⟨P', m, cd, X', ⟨by rw [g6]; exact g1, by omega, by rw [g6]; exact hm0, g2, g3, g4⟩, by rw [g5, g6], g7⟩
  · exact Or.inr hb
theorem m_47p (x y : Int32) {k : Nat} (hk : k ≤ 1) {L2 : Nat → Nat → Int32} (za : nI 0 &&& x = nI 0) (a2 : f_X12_sayPiece N R 80 (nI k) K = some ((), L)) (b2 : f_X12_mark N R 80 (nI 59) L = some ((), L2)) : f_X12_readLine_47 N R 80 x (nI k) y (nI 0) K = some (x ||| nI 0, L2) := by
  simp (disch := omega) only [f_X12_readLine_47, f_X12_readLine_61, kd_80, za, a2, b2, zl_0, zl_1, zl_59, nn_m1, nI_leI, gd_t, gd_pos, Option.bind_some, if_true, if_false, if_pos]
theorem m_47q (x : Int32) {k : Nat} (hk : k ≤ 1) {L2 : Nat → Nat → Int32} (za : nI 0 &&& x = nI 0) (a2 : f_X12_sayPupil N R 80 (nI k) K = some ((), L)) (b2 : f_X12_mark N R 80 (nI 59) L = some ((), L2)) : f_X12_readLine_47 N R 80 x (-nI 1) (nI k) (nI 0) K = some (x ||| nI 0, L2) := by
  simp (disch := omega) only [f_X12_readLine_47, f_X12_readLine_61, kd_80, za, a2, b2, zl_0, zl_1, zl_59, nn_m1, nI_leI, gd_t, gd_pos, Option.bind_some, if_true, if_false, if_pos]
theorem m_47w (x : Int32) {L2 : Nat → Nat → Int32} (za : nI 0 &&& x = nI 0) (a2 : f_X12_wrong N R 80 (nI 1) K = some ((), L)) (b2 : f_X12_mark N R 80 (nI 59) L = some ((), L2)) : f_X12_readLine_47 N R 80 x (-nI 1) (-nI 1) (nI 0) K = some (x ||| nI 0, L2) := by
  simp (disch := omega) only [f_X12_readLine_47, f_X12_readLine_61, kd_80, za, a2, b2, zl_0, zl_1, zl_59, nI_leI, gd_t, gd_pos, Option.bind_some, if_true, if_pos]
/-- a line -/
theorem r_line (hN : 5000 ≤ N) (hR : sR R q) (hRm : sR Rm qm) (hD : zDq R q d) (hn : n ≤ 700) (htp : ∀ i, i < n → tp i < 256) (hl : zLn d tp n P m cd X I K) : ∃ J L x, f_X5_readLine N R 1 I = some ((), J) ∧ f_X12_readLine N Rm 80 (nI (x_pt X + 2 * x_lt X)) K = some (x, L) ∧ zfr (zDls d) I J ∧ zMg K L ∧ zLo d tp n P.2.1 x J L := by
  have hg := hl.1
  have hT := hg.2.2.1
  have hd := dq_d hR hD
  have hpl : x_pt X + 2 * x_lt X < 2 ^ 30 := by
    have h1 := hl.2.2.2.2.2.2.2.2.2.1
    have h2 := hl.2.2.2.2.2.2.2.2.2.2
    omega
  have w1 := c_isWord (N := N) hN hR hn htp hT hg.1 (w := 1) (by omega) (by omega)
  have w2 := c_isWord (N := N) hN hR hn htp hT hg.1 (w := 2) (by omega) (by omega)
  have w3 := c_isWord (N := N) hN hR hn htp hT hg.1 (w := 3) (by omega) (by omega)
  have w4 := c_isWord (N := N) hN hR hn htp hT hg.1 (w := 4) (by omega) (by omega)
  have w5 := c_isWord (N := N) hN hR hn htp hT hg.1 (w := 5) (by omega) (by omega)
  have w6 := c_isWord (N := N) hN hR hn htp hT hg.1 (w := 6) (by omega) (by omega)
  have v5 := m_is (N := N) hN hRm hn htp hT hg.2.1 (w := 5) (by omega) (by omega)
  have v6 := m_is (N := N) hN hRm hn htp hT hg.2.1 (w := 6) (by omega) (by omega)
  have vw := m_which (N := N) hN hRm hn htp hT hg.2.1 (a := 81) (l := 2) (w0 := 1) kd_81 (by omega) (by omega) (by omega) (fun k hk => by
    have hc : k = 0 ∨ k = 1 := by omega
    rcases hc with rfl | rfl
    · exact r81_0 hRm
    · exact r81_1 hRm)
  have vp := m_which (N := N) hN hRm hn htp hT hg.2.1 (a := 82) (l := 2) (w0 := 3) kd_82 (by omega) (by omega) (by omega) (fun k hk => by
    have hc : k = 0 ∨ k = 1 := by omega
    rcases hc with rfl | rfl
    · exact r82_0 hRm
    · exact r82_1 hRm)
  rw [zn1_zno] at vw vp
  have ow : zfs (fun k => z_isw tp P (1 + k)) 2 0 = if z_isw tp P 1 = true then some 0 else if z_isw tp P 2 = true then some 1 else none := rfl
  have op : zfs (fun k => z_isw tp P (3 + k)) 2 0 = if z_isw tp P 3 = true then some 0 else if z_isw tp P 4 = true then some 1 else none := rfl
  rw [ow] at vw
  rw [op] at vp
  have za : ∀ x : Int32, nI 0 &&& x = nI 0 := fun x => by
    apply Int32.toBitVec_inj.1
    show BitVec.ofNat 32 0 &&& x.toBitVec = BitVec.ofNat 32 0
    exact BitVec.zero_and
  have zo : nI (x_pt X + 2 * x_lt X) ||| nI 0 = nI (x_pt X + 2 * x_lt X) := by
    rw [zb_or, Nat.or_zero]
  by_cases h1 : z_isw tp P 1 = true
  · have n2 := z_isw_ne (w := 1) (w' := 2) (by omega) (by omega) (by omega) (by omega) (by omega) h1
    have n3 := z_isw_ne (w := 1) (w' := 3) (by omega) (by omega) (by omega) (by omega) (by omega) h1
    have n4 := z_isw_ne (w := 1) (w' := 4) (by omega) (by omega) (by omega) (by omega) (by omega) h1
    have n5 := z_isw_ne (w := 1) (w' := 5) (by omega) (by omega) (by omega) (by omega) (by omega) h1
    have n6 := z_isw_ne (w := 1) (w' := 6) (by omega) (by omega) (by omega) (by omega) (by omega) h1
    rw [if_pos h1] at w1 vw
    rw [if_neg n3, if_neg n4] at vp
    rw [if_neg n5] at v5
    rw [if_neg n6] at v6
    obtain ⟨J, L, a1, a2, a3, a4, a5⟩ := r_piece (N := N) hN hR hRm hD hn htp hg hl.2.2.2.1 hl.2.2.2.2.1 hl.2.2.2.2.2 (z_isw_e h1).1 (k := 0) (by rw [if_neg n2])
    obtain ⟨J2, L2, b1, b2, b3, b4, b5⟩ := r_tail (N := N) hN hR hRm hD hn htp (zOut_lo hl a5)
    refine ⟨J2, L2, nI (x_pt X + 2 * x_lt X), ?_, ?_, zfr_trans a3 b3, zMg_trans a4 b4, b5⟩
    · simp (disch := omega) only [f_X5_readLine, f_X5_readLine_18, kd_1, w1, a1, b1, zl_0, zl_59, nI_eq, gd_t, gd_pos, Option.bind_some, if_neg]
    · have e9 := m_47p (nI (x_pt X + 2 * x_lt X)) (-nI 1) (k := 0) (by omega) (za _) a2 b2
      rw [zo] at e9
      refine Eq.trans ?_ e9
      simp (disch := omega) only [f_X12_readLine, kd_80, r80_0 hRm, r80_1 hRm, vw, vp, v5, v6, zno, zl_0, gd_t, gd_pos, Option.bind_some, if_true]
  · rw [if_neg h1] at w1 vw
    by_cases h2 : z_isw tp P 2 = true
    · have n3 := z_isw_ne (w := 2) (w' := 3) (by omega) (by omega) (by omega) (by omega) (by omega) h2
      have n4 := z_isw_ne (w := 2) (w' := 4) (by omega) (by omega) (by omega) (by omega) (by omega) h2
      have n5 := z_isw_ne (w := 2) (w' := 5) (by omega) (by omega) (by omega) (by omega) (by omega) h2
      have n6 := z_isw_ne (w := 2) (w' := 6) (by omega) (by omega) (by omega) (by omega) (by omega) h2
      rw [if_pos h2] at w2 vw
      rw [if_neg n3, if_neg n4] at vp
      rw [if_neg n5] at v5
      rw [if_neg n6] at v6
      obtain ⟨J, L, a1, a2, a3, a4, a5⟩ := r_piece (N := N) hN hR hRm hD hn htp hg hl.2.2.2.1 hl.2.2.2.2.1 hl.2.2.2.2.2 (z_isw_e h2).1 (k := 1) (by rw [if_pos h2])
      obtain ⟨J2, L2, b1, b2, b3, b4, b5⟩ := r_tail (N := N) hN hR hRm hD hn htp (zOut_lo hl a5)
      refine ⟨J2, L2, nI (x_pt X + 2 * x_lt X), ?_, ?_, zfr_trans a3 b3, zMg_trans a4 b4, b5⟩
      · simp (disch := omega) only [f_X5_readLine, f_X5_readLine_18, kd_1, w1, w2, a1, b1, zl_0, zl_59, nI_eq, gd_t, gd_pos, Option.bind_some, if_true, if_neg]
      · have e9 := m_47p (nI (x_pt X + 2 * x_lt X)) (-nI 1) (k := 1) (by omega) (za _) a2 b2
        rw [zo] at e9
        refine Eq.trans ?_ e9
        simp (disch := omega) only [f_X12_readLine, kd_80, r80_0 hRm, r80_1 hRm, vw, vp, v5, v6, zno, zl_0, gd_t, gd_pos, Option.bind_some, if_true]
    · rw [if_neg h2] at w2 vw
      by_cases h3 : z_isw tp P 3 = true
      · have n4 := z_isw_ne (w := 3) (w' := 4) (by omega) (by omega) (by omega) (by omega) (by omega) h3
        have n5 := z_isw_ne (w := 3) (w' := 5) (by omega) (by omega) (by omega) (by omega) (by omega) h3
        have n6 := z_isw_ne (w := 3) (w' := 6) (by omega) (by omega) (by omega) (by omega) (by omega) h3
        rw [if_pos h3] at w3 vp
        rw [if_neg n5] at v5
        rw [if_neg n6] at v6
        obtain ⟨J, L, a1, a2, a3, a4, a5⟩ := r_pupil (N := N) hN hR hRm hD hn htp hg hl.2.2.2.1 hl.2.2.2.2.1 hl.2.2.2.2.2 (z_isw_e h3).1 (k := 0) (by rw [if_neg n4])
        obtain ⟨J2, L2, b1, b2, b3, b4, b5⟩ := r_tail (N := N) hN hR hRm hD hn htp (zOut_lo hl a5)
        refine ⟨J2, L2, nI (x_pt X + 2 * x_lt X), ?_, ?_, zfr_trans a3 b3, zMg_trans a4 b4, b5⟩
        · simp (disch := omega) only [f_X5_readLine, f_X5_readLine_43, kd_1, w1, w2, w3, a1, b1, zl_0, zl_59, nI_eq, gd_t, gd_pos, Option.bind_some, if_true, if_neg]
        · have e9 := m_47q (nI (x_pt X + 2 * x_lt X)) (k := 0) (by omega) (za _) a2 b2
          rw [zo] at e9
          refine Eq.trans ?_ e9
          simp (disch := omega) only [f_X12_readLine, kd_80, r80_0 hRm, r80_1 hRm, vw, vp, v5, v6, zno, zl_0, gd_t, gd_pos, Option.bind_some, if_true]
      · rw [if_neg h3] at w3 vp
        by_cases h4 : z_isw tp P 4 = true
        · have n5 := z_isw_ne (w := 4) (w' := 5) (by omega) (by omega) (by omega) (by omega) (by omega) h4
          have n6 := z_isw_ne (w := 4) (w' := 6) (by omega) (by omega) (by omega) (by omega) (by omega) h4
          rw [if_pos h4] at w4 vp
          rw [if_neg n5] at v5
          rw [if_neg n6] at v6
          obtain ⟨J, L, a1, a2, a3, a4, a5⟩ := r_pupil (N := N) hN hR hRm hD hn htp hg hl.2.2.2.1 hl.2.2.2.2.1 hl.2.2.2.2.2 (z_isw_e h4).1 (k := 1) (by rw [if_pos h4])
          obtain ⟨J2, L2, b1, b2, b3, b4, b5⟩ := r_tail (N := N) hN hR hRm hD hn htp (zOut_lo hl a5)
          refine ⟨J2, L2, nI (x_pt X + 2 * x_lt X), ?_, ?_, zfr_trans a3 b3, zMg_trans a4 b4, b5⟩
          · simp (disch := omega) only [f_X5_readLine, f_X5_readLine_43, kd_1, w1, w2, w3, w4, a1, b1, zl_0, zl_59, nI_eq, gd_t, gd_pos, Option.bind_some, if_true, if_neg]
          · have e9 := m_47q (nI (x_pt X + 2 * x_lt X)) (k := 1) (by omega) (za _) a2 b2
            rw [zo] at e9
            refine Eq.trans ?_ e9
            simp (disch := omega) only [f_X12_readLine, kd_80, r80_0 hRm, r80_1 hRm, vw, vp, v5, v6, zno, zl_0, gd_t, gd_pos, Option.bind_some, if_true]
        · rw [if_neg h4] at w4 vp
          by_cases h5 : z_isw tp P 5 = true
          · rw [if_pos h5] at w5 v5
            obtain ⟨J, L, x, a1, a2, a3, a4, a5⟩ := r_pianos (N := N) hN hR hRm hD hn htp hl (z_isw_e h5).1
            obtain ⟨J2, L2, b1, b2, b3, b4, b5⟩ := r_tail (N := N) hN hR hRm hD hn htp a5
            rw [b2] at a2
            refine ⟨J2, L2, x, ?_, ?_, zfr_trans a3 b3, zMg_trans a4 b4, b5⟩
            · simp (disch := omega) only [f_X5_readLine, kd_1, w1, w2, w3, w4, w5, a1, b1, zl_0, zl_59, nI_eq, gd_t, gd_pos, Option.bind_some, if_true, if_neg]
            · refine Eq.trans ?_ a2
              simp (disch := omega) only [f_X12_readLine, kd_80, r80_0 hRm, r80_1 hRm, vw, vp, v5, zno, zl_0, zl_1, nI_eq, gd_t, gd_pos, Option.bind_some, if_neg]
          · rw [if_neg h5] at w5 v5
            by_cases h6 : z_isw tp P 6 = true
            · rw [if_pos h6] at w6 v6
              obtain ⟨J, L, x, a1, a2, a3, a4, a5⟩ := r_learns (N := N) hN hR hRm hD hn htp hl (z_isw_e h6).1
              obtain ⟨J2, L2, b1, b2, b3, b4, b5⟩ := r_tail (N := N) hN hR hRm hD hn htp a5
              rw [b2] at a2
              refine ⟨J2, L2, x, ?_, ?_, zfr_trans a3 b3, zMg_trans a4 b4, b5⟩
              · simp (disch := omega) only [f_X5_readLine, kd_1, w1, w2, w3, w4, w5, w6, a1, b1, zl_0, zl_59, nI_eq, gd_t, gd_pos, Option.bind_some, if_true, if_neg]
              · refine Eq.trans ?_ a2
                simp (disch := omega) only [f_X12_readLine, kd_80, r80_0 hRm, r80_1 hRm, vw, vp, v5, v6, zno, zl_0, zl_1, zl_2, nI_eq, gd_t, gd_pos, Option.bind_some, if_true, if_neg]
            · rw [if_neg h6] at w6 v6
              obtain ⟨J, L, s1, s2, s3, s4, s5, s6⟩ := r_stop (N := N) (R := R) (Rm := Rm) hn hd hg (e := 1) (by omega) (by omega)
              have sk := c_skip_f (N := N) (R := R) s3 (nI 59)
              have mk := m_mark_f (N := N) (R := Rm) s3 (nI 59)
              refine ⟨J, L, nI (x_pt X + 2 * x_lt X), ?_, ?_, zCl_y s4, zMg_y s5, Or.inr s3⟩
              · simp (disch := omega) only [f_X5_readLine, kd_1, w1, w2, w3, w4, w5, w6, s1, sk, zl_0, zl_1, zl_59, gd_t, gd_pos, Option.bind_some, if_true]
              · have e9 := m_47w (nI (x_pt X + 2 * x_lt X)) (za _) s2 mk
                rw [zo] at e9
                refine Eq.trans ?_ e9
                simp (disch := omega) only [f_X12_readLine, kd_80, r80_0 hRm, r80_1 hRm, vw, vp, v5, v6, zno, zl_0, gd_t, gd_pos, Option.bind_some, if_true]
end ZR
