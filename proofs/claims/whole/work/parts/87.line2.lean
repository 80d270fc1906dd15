/-! ===== PURE PART: school: lines: pieces ===== -/
theorem zMg_up {K L : Nat → Nat → Int32} (h : zMg K L) {c j : Nat} {v : Int32} (hc : (c = 84 ∧ 4 ≤ j) ∨ (c = 85 ∧ 6 ≤ j) ∨ (c = 86 ∧ 6 ≤ j) ∨ (c = 87 ∧ 48 ≤ j) ∨ (c = 88 ∧ 7 ≤ j) ∨ c = 89 ∨ c = 90 ∨ c = 91) : zMg K (sm_up L c (sm_up (L c) j v)) := by
  have key : ∀ e i : Nat, ¬ (e = c ∧ i = j) → sm_up L c (sm_up (L c) j v) e i = L e i := fun e i hn => by
    by_cases h1 : e = c
    · subst h1
      rw [up_s, up_n _ _ (fun h2 => hn ⟨rfl, h2⟩)]
    · rw [up_n _ _ h1]
  refine ⟨zfm_up h.1 (by simp; omega) (by omega) _, fun i hi => ?_, fun i hi => ?_, fun i hi => ?_, fun i hi => ?_, fun i hi => ?_, fun i hi => ?_⟩
  · rw [key 84 i (by omega)]
    exact h.2.1 i hi
  · rw [key 85 i (by omega)]
    exact h.2.2.1 i hi
  · rw [key 86 i (by omega)]
    exact h.2.2.2.1 i hi
  · rw [key 87 i (by omega)]
    exact h.2.2.2.2.1 i hi
  · rw [key 88 i (by omega)]
    exact h.2.2.2.2.2.1 i hi
  · rw [key 92 i (by omega)]
    exact h.2.2.2.2.2.2 i hi
section ZR
variable {N : Nat} {R Rm : Nat → Nat → Nat} {q qm d n m h : Nat} {P : zK} {tp cd : Nat → Nat} {I J K L : Nat → Nat → Int32} {X : zX9}
theorem zMg_pend {K L : Nat → Nat → Int32} (h : zMg K L) (np : Nat) (a b c : Int32) : zMg K (sm_up (sm_up (sm_up L 85 (sm_up (L 85) (6 + np) a)) 86 (sm_up (L 86) (6 + np) b)) 84 (sm_up (L 84) 4 c)) := by
  have h1 := zMg_up h (c := 85) (j := 6 + np) (v := a) (by omega)
  have h2 := zMg_up h1 (c := 86) (j := 6 + np) (v := b) (by omega)
  have h3 := zMg_up h2 (c := 84) (j := 4) (v := c) (by omega)
  rw [show sm_up L 85 (sm_up (L 85) (6 + np) a) 86 = L 86 from up_n _ _ (by omega)] at h3
  rw [show sm_up (sm_up L 85 (sm_up (L 85) (6 + np) a)) 86 (sm_up (L 86) (6 + np) b) 84 = L 84 by rw [up_n _ _ (by omega), up_n _ _ (by omega)]] at h3
  exact h3
/-- a piece's end, behind a fault -/
theorem r_pbad (hR : sR R q) (hRm : sR Rm qm) (hD : zDq R q d) (hq : qR R d) (hd : d = 3 ∨ d = 22) {np : Nat} (hnp : np < 6) {k t i : Nat} (hk : k ≤ 1) (ht : t ≤ 8) (hi : i ≤ 9) (hb : zB d I K) (h3 : I d 3 = nI np) (h4 : K 84 4 = nI np) (n1 n2 : Nat) (a : Int32) : ∃ J L, f_X5_readPiece_64 N R (n1 + 1) 1 a (nI i) I = some ((), J) ∧ f_X12_sayPiece_36 N Rm (n2 + 1) 80 (nI k) (nI (6 + np)) (nI t) K = some ((), L) ∧ zfr (zDls d) I J ∧ zMg K L ∧ zB d J L := by
  have b3 := zB_3 hb
  obtain ⟨e, e1, e2, e3⟩ := zB_22 hb
  have c1 := c_pend (N := N) hD hq hi (Or.inr (by rw [b3]; decide)) h3 n1 a
  have m1 := m_pend (N := N) hRm hnp hk ht h4
  refine ⟨(sm_up I d (sm_up (I d) 3 (nI (np + 1)))), (sm_up (sm_up (sm_up K 85 (sm_up (K 85) (6 + np) (nI k))) 86 (sm_up (K 86) (6 + np) (nI t))) 84 (sm_up (K 84) 4 (nI (np + 1)))), c1, ?_, zfr_up (zfr_refl _ _) (by unfold zDls; simp) _, zMg_pend (zMg_refl K) np _ _ _, zB_m (zB_c hb (up_n _ _ (by omega)) (up_n _ _ (by omega))) (by rw [up_n _ _ (by omega), up_n _ _ (by omega), up_n _ _ (by omega)])⟩
  refine Eq.trans ?_ m1
  simp (disch := omega) only [f_X12_sayPiece_36, kd_80, e3, zl_0, nI_eq, gd_t, gd_pos, if_neg]
theorem r_bars (hN : 5000 ≤ N) (hR : sR R q) (hRm : sR Rm qm) (hD : zDq R q d) (hn : n ≤ 700) (htp : ∀ i, i < n → tp i < 256) (hO : zDO X) (h6 : x_np X < 6) {k : Nat} (hk : k ≤ 1) : ∀ (r t : Nat) (P : zK) (hv : Nat → Nat) (I K : Nat → Nat → Int32) (n1 n2 : Nat), t + r = 8 → 1 ≤ t → r + 1 < n1 → r + 2 < n2 → zG d tp n P m cd h I K → zDC d X I → zDM X K → zPc d (x_np X) t k hv I K → ∃ J L, f_X5_readPiece_64 N R n1 1 (nI (x_np X)) (nI t) I = some ((), J) ∧ f_X12_sayPiece_36 N Rm n2 80 (nI k) (nI (6 + x_np X)) (nI t) K = some ((), L) ∧ zfr (zDls d) I J ∧ zMg K L ∧ ((∃ P' t' hv', zG d tp n P' m cd h J L ∧ zDC d (x_piece X t' k hv') J ∧ zDM (x_piece X t' k hv') L ∧ zDO (x_piece X t' k hv') ∧ P.2.1 ≤ P'.2.1) ∨ zB d J L) := by
  have hq := dq_q hR hD
  have hd := dq_d hR hD
  intro r
  induction r with
  | zero =>
    intro t P hv I K n1 n2 h1 h2 h3 h4 hg hX hY hp
    obtain ⟨n1, rfl⟩ : ∃ k, n1 = k + 1 + 1 := ⟨n1 - 2, by omega⟩
    obtain ⟨n2, rfl⟩ : ∃ k, n2 = k + 1 + 1 := ⟨n2 - 2, by omega⟩
    obtain rfl : t = 8 := by omega
    have t1 := hg.2.2.1.1
    have i3 : I 1 3 = nI P.1 := hg.1.2.1
    have k18 : K 80 18 = nI (z_tkc tp P) := hg.2.1.2.1
    have k22 : K 80 22 = nI 0 := hg.2.1.1.2.2.2
    have tk4 := z_tkc_le (tp := tp) (P := P)
    by_cases hk1 : P.1 = 1
    · have hk2 : z_tkc tp P = 2 := z_tkc_n.mpr hk1
      rw [hk1] at i3
      rw [hk2] at k18
      obtain ⟨J1, L1, s1, s2, s3, s4, s5, s6⟩ := r_stop (N := N) (R := R) (Rm := Rm) hn hd hg (e := 2) (by omega) (by omega)
      obtain ⟨J, L, c1, c2, c3, c4, c5⟩ := r_pbad (N := N) (np := x_np X) (k := k) (t := 8) (i := 9) hR hRm hD hq hd h6 hk (by omega) (by omega) s3 (by rw [s4.1 d (by omega)]; exact hX.1.1) (by rw [s5.1 84 (by omega) (by simp)]; exact hY.1.1) n1 n2 (nI (x_np X))
      have p1 := hp.1
      have nf := m_num_f (N := N) (R := Rm) s3 (nI 1) (nI 99)
      refine ⟨J, L, Eq.trans ?_ c1, Eq.trans ?_ c2, zfr_trans (zCl_y s4) c3, zMg_trans (zMg_y s5) c4, Or.inr c5⟩
      · rw [f_X5_readPiece_64]
        simp (disch := omega) only [f_X5_readBar, kd_1, hD.1, dk_0 hq, dr_0 hq, dk_1 hq, i3, p1, s1, zl_0, zl_1, zl_2, zl_8, nI_leI, nI_ltI, nI_add, nI_clamp, gd_t, gd_pos, lt_eq, Option.bind_some, true_and, and_true, not_true, not_false_iff, false_or, or_false, if_true, if_false, if_pos, if_neg]
      · rw [f_X12_sayPiece_36]
        simp (disch := omega) only [f_X12_sayPiece_62, kd_80, k18, k22, s2, nf, s6, zl_0, zl_1, zl_2, zl_8, zl_99, nI_eq, gd_t, gd_pos, Option.bind_some, if_true, if_neg]
    · have hk2 : ¬ z_tkc tp P = 2 := fun h => hk1 (z_tkc_n.mp h)
      have c1 := c_pend (N := N) hD hq (i := 8) (by omega) (Or.inr (by rw [i3, nI_eq (by omega) (by omega)]; exact hk1)) hX.1.1 (n1 + 1) (nI (x_np X))
      have m1 := m_pend (N := N) hRm h6 hk (t := 8) (by omega) hY.1.1
      obtain ⟨g1, g2, g3, g4⟩ := r_pfin hR hRm hD hg hX hY hO h6 hp (by omega) (by omega) hk rfl rfl
      refine ⟨(sm_up I d (sm_up (I d) 3 (nI (x_np X + 1)))), (sm_up (sm_up (sm_up K 85 (sm_up (K 85) (6 + x_np X) (nI k))) 86 (sm_up (K 86) (6 + x_np X) (nI 8))) 84 (sm_up (K 84) 4 (nI (x_np X + 1)))), c1, Eq.trans ?_ m1, zfr_up (zfr_refl _ _) (by unfold zDls; simp) _, zMg_pend (zMg_refl K) _ _ _ _, Or.inl ⟨P, 8, hv, g1, g2, g3, g4, Nat.le_refl _⟩⟩
      rw [f_X12_sayPiece_36]
      simp (disch := omega) only [kd_80, k18, k22, zl_0, zl_2, nI_eq, gd_t, gd_pos, if_true, if_neg]
  | succ r ih =>
    intro t P hv I K n1 n2 h1 h2 h3 h4 hg hX hY hp
    obtain ⟨n1, rfl⟩ : ∃ k, n1 = k + 1 + 1 := ⟨n1 - 2, by omega⟩
    obtain ⟨n2, rfl⟩ : ∃ k, n2 = k + 1 + 1 := ⟨n2 - 2, by omega⟩
    have t1 := hg.2.2.1.1
    have i3 : I 1 3 = nI P.1 := hg.1.2.1
    have k18 : K 80 18 = nI (z_tkc tp P) := hg.2.1.2.1
    have k22 : K 80 22 = nI 0 := hg.2.1.1.2.2.2
    have tk4 := z_tkc_le (tp := tp) (P := P)
    by_cases hk1 : P.1 = 1
    · have hk2 : z_tkc tp P = 2 := z_tkc_n.mpr hk1
      rw [hk1] at i3
      rw [hk2] at k18
      obtain ⟨x, J1, L1, a1, a2, a3, a3', a4, a5⟩ := r_bar (N := N) hN hR hRm hD hn htp hg hX hY hO h6 hp (by omega)
      have ec : f_X5_readPiece_64 N R (n1 + 1 + 1) 1 (nI (x_np X)) (nI t) I = f_X5_readPiece_64 N R (n1 + 1) 1 (nI (x_np X)) (nI (t + 1)) J1 := by
        rw [f_X5_readPiece_64]
        simp (disch := omega) only [kd_1, i3, a1, zl_1, zl_8, nI_ltI, nI_add, gd_t, gd_pos, Option.bind_some, if_neg, if_true]
      rcases a5 with ⟨v, P', rfl, g1, g2, g3, g4⟩ | hb
      · obtain ⟨L2, hL2⟩ : ∃ L2, L2 = sm_up L1 87 (sm_up (L1 87) (8 * (6 + x_np X) + t) (nI v)) := ⟨_, rfl⟩
        rw [← hL2] at g4
        have gl : ∀ c, c ≠ 87 → L2 c = L1 c := fun c hc => by rw [hL2, up_n _ _ hc]
        have g1' : zG d tp n P' m cd h J1 L2 := zG_m g1 (gl 80 (by omega)) (gl 94 (by omega)) (by rw [gl 84 (by omega)]) (gl 92 (by omega))
        have hY2 : zDM X L2 := by
          obtain ⟨b1, b2, b3⟩ := zDM_y hY a4
          refine ⟨by rw [gl 84 (by omega)]; exact b1, fun w hw => ?_, fun p hp => ?_⟩
          · obtain ⟨c1, c2, c3⟩ := b2 w hw
            have w8 := (hO.1.2 w hw).2.1
            refine ⟨by rw [gl 85 (by omega)]; exact c1, by rw [gl 86 (by omega)]; exact c2, fun i hi => ?_⟩
            rw [hL2, up_s, up_n _ _ (by omega)]
            exact c3 i hi
          · rw [gl 88 (by omega), gl 89 (by omega), gl 90 (by omega), gl 91 (by omega)]
            exact b3 p hp
        have L22 : L1 80 22 = nI 0 := g1.2.1.1.2.2.2
        obtain ⟨J, L, c1, c2, c3, c4, c5⟩ := ih (t + 1) P' _ J1 L2 (n1 + 1) (n2 + 1) (by omega) (by omega) (by omega) (by omega) g1' g3 hY2 g4
        refine ⟨J, L, ec.trans c1, Eq.trans ?_ c2, zfr_trans a3 c3, zMg_trans (by rw [hL2]; exact zMg_up (zMg_y a4) (by omega)) c4, ?_⟩
        · have em : f_X12_sayPiece_62 N Rm (fun z0 z1 z2 z3 J => f_X12_sayPiece_36 N Rm (n2 + 1) z0 z1 z2 z3 J) 80 (nI k) (nI (6 + x_np X)) (nI t) K = f_X12_sayPiece_36 N Rm (n2 + 1) 80 (nI k) (nI (6 + x_np X)) (nI (t + 1)) L2 := by
            rw [hL2]
            simp (disch := omega) only [f_X12_sayPiece_62, kd_80, r80_7 hRm, kd_87, a2, L22, zl_0, zl_1, zl_8, zl_99, pk_mul, nI_add, nI_leI, nI_ltI, nI_clamp, gd_t, gd_pos, lt_eq, Option.bind_some, true_and, and_true, not_true, not_false_iff, false_or, or_false, if_true, if_false, if_pos, if_neg]
          refine Eq.trans ?_ em
          rw [f_X12_sayPiece_36]
          simp (disch := omega) only [kd_80, k18, k22, zl_0, zl_2, zl_8, nI_eq, gd_t, gd_pos, if_true, if_neg]
        · rcases c5 with ⟨P2, t', hv', d1, d2, d3, d4, d5⟩ | hb
          · exact Or.inl ⟨P2, t', hv', d1, d2, d3, d4, by omega⟩
          · exact Or.inr hb
      · obtain ⟨e, e1, e2, e3⟩ := zB_22 hb
        obtain ⟨J, L, c1, c2, c3, c4, c5⟩ := r_pbad (N := N) (np := x_np X) (k := k) (t := t) (i := t + 1) hR hRm hD hq hd h6 hk (by omega) (by omega) hb (by rw [a3']; exact hX.1.1) (by rw [a4.1 84 (by omega) (by simp)]; exact hY.1.1) n1 n2 (nI (x_np X))
        refine ⟨J, L, ec.trans c1, Eq.trans ?_ c2, zfr_trans a3 c3, zMg_trans (zMg_y a4) c4, Or.inr c5⟩
        have em : f_X12_sayPiece_62 N Rm (fun z0 z1 z2 z3 J => f_X12_sayPiece_36 N Rm (n2 + 1) z0 z1 z2 z3 J) 80 (nI k) (nI (6 + x_np X)) (nI t) K = f_X12_sayPiece_36 N Rm (n2 + 1) 80 (nI k) (nI (6 + x_np X)) (nI t) L1 := by
          simp (disch := omega) only [f_X12_sayPiece_62, kd_80, a2, e3, zl_0, zl_1, zl_99, nI_eq, gd_t, gd_pos, Option.bind_some, if_neg]
        refine Eq.trans ?_ em
        rw [f_X12_sayPiece_36]
        simp (disch := omega) only [kd_80, k18, k22, zl_0, zl_2, zl_8, nI_eq, gd_t, gd_pos, if_true, if_neg]
    · have hk2 : ¬ z_tkc tp P = 2 := fun h => hk1 (z_tkc_n.mp h)
      have c1 := c_pend (N := N) hD hq (i := t) (by omega) (Or.inr (by rw [i3, nI_eq (by omega) (by omega)]; exact hk1)) hX.1.1 (n1 + 1) (nI (x_np X))
      have m1 := m_pend (N := N) hRm h6 hk (t := t) (by omega) hY.1.1
      obtain ⟨g1, g2, g3, g4⟩ := r_pfin hR hRm hD hg hX hY hO h6 hp (by omega) (by omega) hk rfl rfl
      refine ⟨(sm_up I d (sm_up (I d) 3 (nI (x_np X + 1)))), (sm_up (sm_up (sm_up K 85 (sm_up (K 85) (6 + x_np X) (nI k))) 86 (sm_up (K 86) (6 + x_np X) (nI t))) 84 (sm_up (K 84) 4 (nI (x_np X + 1)))), c1, Eq.trans ?_ m1, zfr_up (zfr_refl _ _) (by unfold zDls; simp) _, zMg_pend (zMg_refl K) _ _ _ _, Or.inl ⟨P, t, hv, g1, g2, g3, g4, Nat.le_refl _⟩⟩
      rw [f_X12_sayPiece_36]
      simp (disch := omega) only [kd_80, k18, k22, zl_0, zl_2, nI_eq, gd_t, gd_pos, if_true, if_neg]
/-- the outcome of a line's inner part -/
def zOut (d : Nat) (tp : Nat → Nat) (n a m : Nat) (cd : Nat → Nat) (h : Nat) (J L : Nat → Nat → Int32) (F : zX9 → Prop) : Prop := (∃ P' X', zG d tp n P' m cd h J L ∧ zDC d X' J ∧ zDM X' L ∧ zDO X' ∧ F X' ∧ a < P'.2.1) ∨ zB d J L
theorem r_piece (hN : 5000 ≤ N) (hR : sR R q) (hRm : sR Rm qm) (hD : zDq R q d) (hn : n ≤ 700) (htp : ∀ i, i < n → tp i < 256) (hg : zG d tp n P m cd h I K) (hX : zDC d X I) (hY : zDM X K) (hO : zDO X) (h2 : P.1 = 2) {k : Nat} (hk : k = if z_isw tp P 2 = true then 1 else 0) : ∃ J L, f_X5_readPiece N R 1 I = some ((), J) ∧ f_X12_sayPiece N Rm 80 (nI k) K = some ((), L) ∧ zfr (zDls d) I J ∧ zMg K L ∧ zOut d tp n P.2.1 m cd h J L (fun X' => x_pt X' = x_pt X ∧ x_lt X' = x_lt X) := by
  have hq := dq_q hR hD
  have hd := dq_d hR hD
  have k1 : k ≤ 1 := by
    rw [hk]
    split <;> omega
  obtain ⟨t1, t2, t3, t4, t5⟩ := id hg.2.2.1
  have k22 : K 80 22 = nI 0 := hg.2.1.1.2.2.2
  have i3 := hX.1.1
  have k4 := hY.1.1
  have n6 := hO.1.1
  by_cases h6 : x_np X = 6
  · obtain ⟨J, L, s1, s2, s3, s4, s5, s6⟩ := r_stop (N := N) (R := R) (Rm := Rm) hn hd hg (e := 2) (by omega) (by omega)
    rw [h6] at i3 k4
    refine ⟨J, L, ?_, ?_, zCl_y s4, zMg_y s5, Or.inr s3⟩
    · simp (disch := omega) only [f_X5_readPiece, kd_1, hD.1, dk_0 hq, i3, s1, zl_2, zl_6, nI_ltI, gd_t, gd_pos, Option.bind_some, if_neg]
    · simp (disch := omega) only [f_X12_sayPiece, f_X12_another, f_X12_another_17, kd_80, r80_4 hRm, kd_84, k4, s2, s6, zl_0, zl_2, zl_4, zl_6, nI_add, nI_leI, nI_ltI, nI_eq, nI_clamp, gd_t, gd_pos, lt_eq, Option.bind_some, true_and, and_true, not_true, not_false_iff, false_or, or_false, if_true, if_false, if_pos, if_neg]
  · have h6 : x_np X < 6 := by omega
    have w2 := c_isWord (N := N) hN hR hn htp hg.2.2.1 hg.1 (w := 2) (by omega) (by omega)
    obtain ⟨I0, hI0⟩ : ∃ I0, I0 = sm_up (sm_up I (d + 2) (sm_up (I (d + 2)) (x_np X) (nI k))) (d + 1) (sm_up (I (d + 1)) (x_np X) (nI 0)) := ⟨_, rfl⟩
    have g0 : ∀ c, c ≠ d + 1 → c ≠ d + 2 → I0 c = I c := fun c h1 h2 => by rw [hI0, up_n _ _ h1, up_n _ _ h2]
    have hg0 := zG_c hg (g0 1 (by omega) (by omega)) (g0 2 (by omega) (by omega)) (g0 (d + 4) (by omega) (by omega)) (g0 (d + 5) (by omega) (by omega))
    have hX0 : zDC d X I0 := by
      obtain ⟨⟨b0, b1⟩, b2, b3, b4, b5, b6⟩ := hX
      refine ⟨⟨by rw [g0 d (by omega) (by omega)]; exact b0, fun w hw => ?_⟩, zCV_fr b2 hO.2.1.1 (fun c hc => g0 c (by omega) (by omega)), by rw [g0 _ (by omega) (by omega)]; exact b3, by rw [g0 _ (by omega) (by omega)]; exact b4, by rw [g0 _ (by omega) (by omega)]; exact b5, by rw [g0 _ (by omega) (by omega)]; exact b6⟩
      obtain ⟨c1, c2, c3⟩ := b1 w hw
      refine ⟨by rw [hI0, up_s, up_n _ _ (by omega)]; exact c1, by rw [hI0, up_n _ _ (by omega), up_s, up_n _ _ (by omega)]; exact c2, fun i hi => ?_⟩
      rw [g0 _ (by omega) (by omega)]
      exact c3 i hi
    have f0 : zfr (zDls d) I I0 := by
      rw [hI0]
      exact zfr_up (zfr_up (zfr_refl _ _) (by unfold zDls; simp) _) (by unfold zDls; simp) _
    obtain ⟨I1, K1, a1, a2, a3, a4, a5, a6⟩ := r_adv (N := N) hN hR hRm hd hn htp hg0
    have hX1 := zDC_y hd hX0 hO.2.1.1 a5
    have hY1 := zDM_y hY a6
    have hp1 : zPc d (x_np X) 0 k (fun _ => 0) I1 K1 := ⟨by rw [a5.1 _ (by omega), hI0, up_s, up_s], by rw [a5.1 _ (by omega), hI0, up_n _ _ (by omega), up_s, up_s], fun i hi => absurd hi (Nat.not_lt_zero i)⟩
    have ec : ∀ J1 : Nat → Nat → Int32, f_X5_readBar N R 1 (nI (x_np X)) I1 = some ((), J1) → f_X5_readPiece N R 1 I = f_X5_readPiece_64 N R N 1 (nI (x_np X)) (nI 1) J1 := fun J1 hb => by
      have e42 : f_X5_readPiece_42 N R 1 (nI (x_np X)) (d + 2) (nI (x_np X)) (nI k) I = f_X5_readPiece_64 N R N 1 (nI (x_np X)) (nI 1) J1 := by
        have q1 : sm_up I (d + 2) (sm_up (I (d + 2)) (x_np X) (nI k)) (d + 1) = I (d + 1) := up_n _ _ (by omega)
        simp (disch := omega) only [f_X5_readPiece_42, kd_1, hD.1, dk_0 hq, dr_0 hq, dk_1 hq, dk_2 hq, zl_0, zl_1, nI_leI, nI_ltI, nI_clamp, q1, ← hI0, a1, hb, gd_t, gd_pos, lt_eq, Option.bind_some, true_and, and_true, not_true, not_false_iff, false_or, or_false, if_true, if_false, if_pos, if_neg]
      refine Eq.trans ?_ e42
      by_cases hw : z_isw tp P 2 = true
      · rw [if_pos hw] at w2 hk
        rw [hk]
        simp (disch := omega) only [f_X5_readPiece, kd_1, hD.1, dk_0 hq, dr_1 hq, i3, w2, zl_0, zl_1, zl_6, nI_ltI, nI_eq, gd_t, gd_pos, Option.bind_some, if_pos, if_neg]
      · rw [if_neg hw] at w2 hk
        rw [hk]
        simp (disch := omega) only [f_X5_readPiece, kd_1, hD.1, dk_0 hq, dr_1 hq, i3, w2, zl_0, zl_1, zl_6, nI_ltI, gd_t, gd_pos, Option.bind_some, if_pos, if_true]
    have k14 := hY1.1.1
    have k118 : K1 80 18 = nI (z_tkc tp (z_scan tp n P.2.2)) := a3.2.1.2.1
    have k122 : K1 80 22 = nI 0 := a3.2.1.1.2.2.2
    have tk4 := z_tkc_le (tp := tp) (P := z_scan tp n P.2.2)
    obtain ⟨N1, hN1⟩ : ∃ k, N = k + 1 + 1 := ⟨N - 2, by omega⟩
    by_cases hk1 : (z_scan tp n P.2.2).1 = 1
    · have hk2 : z_tkc tp (z_scan tp n P.2.2) = 2 := z_tkc_n.mpr hk1
      rw [hk2] at k118
      have em0 : f_X12_sayPiece N Rm 80 (nI k) K = f_X12_sayPiece_36 N Rm N 80 (nI k) (nI (6 + x_np X)) (nI 0) K1 := by
        simp (disch := omega) only [f_X12_sayPiece, f_X12_another, f_X12_another_17, kd_80, r80_4 hRm, kd_84, k4, k22, a2, k14, k118, zl_0, zl_1, zl_2, zl_4, zl_6, nI_add, nI_leI, nI_ltI, nI_eq, nI_clamp, gd_t, gd_pos, lt_eq, Option.bind_some, true_and, and_true, not_true, not_false_iff, false_or, or_false, if_true, if_false, if_pos, if_neg]
      obtain ⟨x, J1, L1, b1, b2, b3, b3', b4, b5⟩ := r_bar (N := N) hN hR hRm hD hn htp a3 hX1 hY1 hO h6 hp1 (by omega)
      rcases b5 with ⟨v, P', rfl, g1, g2, g3, g4⟩ | hb
      · obtain ⟨L2, hL2⟩ : ∃ L2, L2 = sm_up L1 87 (sm_up (L1 87) (8 * (6 + x_np X) + 0) (nI v)) := ⟨_, rfl⟩
        rw [← hL2] at g4
        have gl : ∀ c, c ≠ 87 → L2 c = L1 c := fun c hc => by rw [hL2, up_n _ _ hc]
        have g1' : zG d tp n P' m cd h J1 L2 := zG_m g1 (gl 80 (by omega)) (gl 94 (by omega)) (by rw [gl 84 (by omega)]) (gl 92 (by omega))
        have hY2 : zDM X L2 := by
          obtain ⟨c1, c2, c3⟩ := zDM_y hY1 b4
          refine ⟨by rw [gl 84 (by omega)]; exact c1, fun w hw => ?_, fun p hp => ?_⟩
          · obtain ⟨d1, d2, d3⟩ := c2 w hw
            have w8 := (hO.1.2 w hw).2.1
            refine ⟨by rw [gl 85 (by omega)]; exact d1, by rw [gl 86 (by omega)]; exact d2, fun i hi => ?_⟩
            rw [hL2, up_s, up_n _ _ (by omega)]
            exact d3 i hi
          · rw [gl 88 (by omega), gl 89 (by omega), gl 90 (by omega), gl 91 (by omega)]
            exact c3 p hp
        have L22 : L1 80 22 = nI 0 := g1.2.1.1.2.2.2
        obtain ⟨J, L, c1, c2, c3, c4, c5⟩ := r_bars (N := N) hN hR hRm hD hn htp hO h6 k1 7 1 P' _ J1 L2 N (N1 + 1) (by omega) (by omega) (by omega) (by omega) g1' g3 hY2 g4
        refine ⟨J, L, (ec J1 b1).trans c1, em0.trans (Eq.trans ?_ c2), zfr_trans f0 (zfr_trans (zCl_y a5) (zfr_trans b3 c3)), zMg_trans (zMg_y a6) (zMg_trans (by rw [hL2]; exact zMg_up (zMg_y b4) (by omega)) c4), ?_⟩
        · have em : f_X12_sayPiece_62 N Rm (fun z0 z1 z2 z3 J => f_X12_sayPiece_36 N Rm (N1 + 1) z0 z1 z2 z3 J) 80 (nI k) (nI (6 + x_np X)) (nI 0) K1 = f_X12_sayPiece_36 N Rm (N1 + 1) 80 (nI k) (nI (6 + x_np X)) (nI 1) L2 := by
            rw [hL2]
            simp (disch := omega) only [f_X12_sayPiece_62, kd_80, r80_7 hRm, kd_87, b2, L22, zl_0, zl_1, zl_8, zl_99, pk_mul, nI_add, nI_leI, nI_ltI, nI_clamp, gd_t, gd_pos, lt_eq, Option.bind_some, true_and, and_true, not_true, not_false_iff, false_or, or_false, if_true, if_false, if_pos, if_neg]
          refine Eq.trans ?_ em
          rw [show f_X12_sayPiece_36 N Rm N = f_X12_sayPiece_36 N Rm (N1 + 1 + 1) by rw [← hN1], f_X12_sayPiece_36]
          simp (disch := omega) only [kd_80, k118, k122, zl_0, zl_2, zl_8, nI_eq, gd_t, gd_pos, if_true, if_neg]
        · rcases c5 with ⟨P2, t', hv', d1, d2, d3, d4, d5⟩ | hb
          · exact Or.inl ⟨P2, _, d1, d2, d3, d4, ⟨rfl, rfl⟩, by omega⟩
          · exact Or.inr hb
      · obtain ⟨e, e1, e2, e3⟩ := zB_22 hb
        obtain ⟨J, L, c1, c2, c3, c4, c5⟩ := r_pbad (N := N) (np := x_np X) (k := k) (t := 0) (i := 1) hR hRm hD hq hd h6 k1 (by omega) (by omega) hb (by rw [b3']; exact hX1.1.1) (by rw [b4.1 84 (by omega) (by simp)]; exact hY1.1.1) (N1 + 1) N1 (nI (x_np X))
        rw [← hN1] at c1
        refine ⟨J, L, (ec J1 b1).trans c1, em0.trans (Eq.trans ?_ c2), zfr_trans f0 (zfr_trans (zCl_y a5) (zfr_trans b3 c3)), zMg_trans (zMg_y a6) (zMg_trans (zMg_y b4) c4), Or.inr c5⟩
        have em : f_X12_sayPiece_62 N Rm (fun z0 z1 z2 z3 J => f_X12_sayPiece_36 N Rm (N1 + 1) z0 z1 z2 z3 J) 80 (nI k) (nI (6 + x_np X)) (nI 0) K1 = f_X12_sayPiece_36 N Rm (N1 + 1) 80 (nI k) (nI (6 + x_np X)) (nI 0) L1 := by
          simp (disch := omega) only [f_X12_sayPiece_62, kd_80, b2, e3, zl_0, zl_1, zl_99, nI_eq, gd_t, gd_pos, Option.bind_some, if_neg]
        refine Eq.trans ?_ em
        rw [show f_X12_sayPiece_36 N Rm N = f_X12_sayPiece_36 N Rm (N1 + 1 + 1) by rw [← hN1], f_X12_sayPiece_36]
        simp (disch := omega) only [kd_80, k118, k122, zl_0, zl_2, zl_8, nI_eq, gd_t, gd_pos, if_true, if_neg]
    · have hk2 : ¬ z_tkc tp (z_scan tp n P.2.2) = 2 := fun h => hk1 (z_tkc_n.mp h)
      have u1 := a3.2.2.1.1
      have i13 : I1 1 3 = nI (z_scan tp n P.2.2).1 := a3.1.2.1
      obtain ⟨J', L', s1, s2, s3, s4, s5, s6⟩ := r_stop (N := N) (R := R) (Rm := Rm) hn hd a3 (e := 1) (by omega) (by omega)
      have rd : f_X5_readNumber N R 1 (nI 1) (nI 99) I1 = some (nI 0, J') := by
        simp (disch := omega) only [f_X5_readNumber, kd_1, i13, s1, zl_0, zl_1, nI_eq, gd_t, gd_pos, Option.bind_some, if_neg]
      have hbar := c_bar (N := N) hD hq hd rd s4 h6 (show 0 < 8 by omega) hp1.1
      obtain ⟨J1, hJ1⟩ : ∃ J1, J1 = sm_up (sm_up J' (d + 3) (sm_up (J' (d + 3)) (8 * x_np X + 0) (nI 0))) (d + 1) (sm_up (J' (d + 1)) (x_np X) (nI (0 + 1))) := ⟨_, rfl⟩
      rw [← hJ1] at hbar
      have gJ : ∀ c, c ≠ d + 1 → c ≠ d + 3 → J1 c = J' c := fun c h1 h2 => by rw [hJ1, up_n _ _ h1, up_n _ _ h2]
      have s3' : zB d J1 L' := zB_c s3 (gJ 1 (by omega) (by omega)) (gJ (d + 4) (by omega) (by omega))
      obtain ⟨J, L, c1, c2, c3, c4, c5⟩ := r_pbad (N := N) (np := x_np X) (k := k) (t := 0) (i := 1) hR hRm hD hq hd h6 k1 (by omega) (by omega) s3' (by rw [gJ d (by omega) (by omega), s4.1 d (by omega)]; exact hX1.1.1) (by rw [s5.1 84 (by omega) (by simp)]; exact hY1.1.1) (N1 + 1) (N1 + 1) (nI (x_np X))
      rw [← hN1] at c1 c2
      refine ⟨J, L, (ec J1 hbar).trans c1, Eq.trans ?_ c2, zfr_trans f0 (zfr_trans (zCl_y a5) (zfr_trans (zCl_y s4) (zfr_trans ?_ c3))), zMg_trans (zMg_y a6) (zMg_trans (zMg_y s5) c4), Or.inr c5⟩
      · simp (disch := omega) only [f_X12_sayPiece, f_X12_another, f_X12_another_17, kd_80, r80_4 hRm, kd_84, k4, k22, a2, k14, k118, s2, zl_0, zl_1, zl_2, zl_4, zl_6, nI_add, nI_leI, nI_ltI, nI_eq, nI_clamp, gd_t, gd_pos, lt_eq, Option.bind_some, true_and, and_true, not_true, not_false_iff, false_or, or_false, if_true, if_false, if_pos, if_neg]
      · rw [hJ1]
        exact zfr_up (zfr_up (zfr_refl _ _) (by unfold zDls; simp) _) (by unfold zDls; simp) _
end ZR
