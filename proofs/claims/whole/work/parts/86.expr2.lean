/-! ===== PURE PART: school: tests and nots ===== -/
theorem z_tr3 : z_tr 20003 = -24 := by decide
theorem z_tr4 : z_tr 20004 = -25 := by decide
theorem z_trn : z_tr 20002 = -28 := by decide
theorem z_opr3 {tp : Nat → Nat} {P : zK} {v : Nat} (h : z_opr tp 3 P = some v) : (v = 20003 ∧ z_sg tp P 60 = true) ∨ (v = 20004 ∧ ¬ z_sg tp P 60 = true ∧ z_sg tp P 61 = true) := by
  unfold z_opr at h
  rw [if_neg (by omega), if_neg (by omega), if_pos rfl] at h
  by_cases h1 : z_sg tp P 60 = true
  · rw [if_pos h1] at h
    cases h
    exact Or.inl ⟨rfl, h1⟩
  · rw [if_neg h1] at h
    by_cases h2 : z_sg tp P 61 = true
    · rw [if_pos h2] at h
      cases h
      exact Or.inr ⟨rfl, h1, h2⟩
    · rw [if_neg h2] at h
      cases h
theorem z_opr3n {tp : Nat → Nat} {P : zK} (h : z_opr tp 3 P = none) : ¬ z_sg tp P 60 = true ∧ ¬ z_sg tp P 61 = true := by
  unfold z_opr at h
  rw [if_neg (by omega), if_neg (by omega), if_pos rfl] at h
  by_cases h1 : z_sg tp P 60 = true
  · rw [if_pos h1] at h
    cases h
  · rw [if_neg h1] at h
    by_cases h2 : z_sg tp P 61 = true
    · rw [if_pos h2] at h
      cases h
    · exact ⟨h1, h2⟩
section ZR
variable {N : Nat} {R Rm : Nat → Nat → Nat} {q qm d n m h c D : Nat} {P : zK} {tp cd : Nat → Nat} {I K : Nat → Nat → Int32} {rp : Nat → Int32 → (Nat → Nat → Int32) → Option (Unit × (Nat → Nat → Int32))} {rl : Nat → Int32 → Int32 → (Nat → Nat → Int32) → Option (Unit × (Nat → Nat → Int32))} {rP rS rN rA rE rT : Nat → Int32 → (Nat → Nat → Int32) → Option (Unit × (Nat → Nat → Int32))}
theorem c_lvl3 (hN : 5000 ≤ N) (hDl : D < 6) {J : Nat → Nat → Int32} {w : Int32} (h1 : rl 1 (nI 4) (nI D) I = some ((), J)) (h2 : f_X5_operatorHere N R 1 (nI 3) J = some (w, J)) : f_X5_readLevel N R rp rl 1 (nI 3) (nI D) I = f_X5_readLevel_127 N R rp rl N 1 (nI 3) (nI D) (nI 1) w (nI 0) J := by
  obtain ⟨N1, hN1⟩ : ∃ k, N = k + 1 := ⟨N - 1, by omega⟩
  have e1 : f_X5_readLevel_78 N R rp rl N 1 (nI 3) (nI D) (nI 0) (nI 0) J = f_X5_readLevel_127 N R rp rl N 1 (nI 3) (nI D) (nI 1) w (nI 0) J := by
    rw [show f_X5_readLevel_78 N R rp rl N = f_X5_readLevel_78 N R rp rl (N1 + 1) by rw [← hN1]]
    simp (disch := omega) only [f_X5_readLevel_78, kd_1, h2, zl_0, zl_1, zl_3, nI_leI, gd_t, gd_pos, Option.bind_some, if_pos, if_true]
  refine Eq.trans ?_ e1
  simp (disch := omega) only [f_X5_readLevel, f_X5_readLevel_66, kd_1, zl_0, zl_1, zl_2, zl_6, nI_add, h1, nI_ltI, nI_eq, gd_t, gd_pos, Option.bind_some, if_pos, if_neg]
/-- a test: class, and the model's way to its nots -/
def zT3 (N : Nat) (R : Nat → Nat → Nat) (d : Nat) (tp : Nat → Nat) (n h D : Nat) (fc : (Nat → Nat → Int32) → Option (Unit × (Nat → Nat → Int32))) (rP rS rN rA rE rT : Nat → Int32 → (Nat → Nat → Int32) → Option (Unit × (Nat → Nat → Int32))) : Prop := (∀ I K P m cd c, zG d tp n P m cd h I K → m + c ≤ P.2.1 → f_X12_is N R 80 (1000 + 13) K = some (nI 0, K) → ∃ J L, fc I = some ((), J) ∧ (∀ k j : Nat, f_X12_readNot_2 N R rP rS rN rA rE rT (j + 1) 80 (nI D) (nI k) K = f_X12_readNot_95 N R rP rS rN rA rE rT N 80 (nI k) (nI 0) L) ∧ zCx d I J ∧ zMx K L ∧ ((∃ P' m' cd', zG d tp n P' m' cd' (h + 1) J L ∧ m' + c ≤ P'.2.1 ∧ P.2.1 ≤ P'.2.1) ∨ zB d J L)) ∧ ∀ I K, zB d I K → fc I = some ((), I) ∧ ∀ k j : Nat, f_X12_readNot_2 N R rP rS rN rA rE rT (j + 1) 80 (nI D) (nI k) K = f_X12_readNot_95 N R rP rS rN rA rE rT N 80 (nI k) (nI 0) K
theorem r_test (hN : 5000 ≤ N) (hR : sR R q) (hRm : sR Rm qm) (hD : zDq R q d) (hq : qR R d) (hd : d = 3 ∨ d = 22) (hn : n ≤ 700) (htp : ∀ i, i < n → tp i < 256) (hDl : D < 6) (hx0 : zTT d tp n h (h + 1) (fun I => rl 1 (nI 4) (nI D) I) (fun K => rS 80 (nI D) K)) (hx : zTT d tp n (h + 1) (h + 2) (fun I => rl 1 (nI 4) (nI D) I) (fun K => rS 80 (nI D) K)) : zT3 N Rm d tp n h D (fun I => f_X5_readLevel N R rp rl 1 (nI 3) (nI D) I) rP rS rN rA rE rT := by
  obtain ⟨N2, hN2⟩ : ∃ k, N = k + 2 := ⟨N - 2, by omega⟩
  have fc127 : f_X5_readLevel_127 N R rp rl N = f_X5_readLevel_127 N R rp rl (N2 + 1 + 1) := by rw [← hN2]
  refine ⟨fun I K P m cd c hg hs h13 => ?_, fun I K hb => ?_⟩
  · obtain ⟨I1, K1, a1, a2, a3, a4, a5⟩ := hx0.1 I K P m cd c hg hs
    have a1 : rl 1 (nI 4) (nI D) I = some ((), I1) := a1
    have a2 : rS 80 (nI D) K = some ((), K1) := a2
    rcases a5 with ⟨P', m', cd', g1, g2, g3⟩ | hb
    · have ho := c_oph (N := N) hN hR hn htp g1.2.2.1 g1.1 (L := 3) (by omega)
      have e60 := m_isMarked (N := N) hRm hn htp g1.2.2.1 g1.2.1 (c := 60) (by omega) (by decide)
      have e61 := m_isMarked (N := N) hRm hn htp g1.2.2.1 g1.2.1 (c := 61) (by omega) (by decide)
      rcases hop : z_opr tp 3 P' with _ | v
      · obtain ⟨n60, n61⟩ := z_opr3n hop
        rw [if_neg n60] at e60
        rw [if_neg n61] at e61
        rw [hop] at ho
        refine ⟨I1, K1, (c_lvl3 hN hDl a1 ho).trans ?_, fun k j => ?_, a3, a4, Or.inl ⟨P', m', cd', g1, g2, g3⟩⟩
        · rw [fc127]
          simp (disch := omega) only [f_X5_readLevel_127, zno, zl_1, nI_leI, if_neg, if_true]
        · simp (disch := omega) only [f_X12_readNot_2, kd_80, h13, a2, e60, e61, zl_0, zl_60, zl_61, gd_t, gd_pos, Option.bind_some, if_true]
      · obtain ⟨v1, v2, v3, v4⟩ := z_opr_s hop
        obtain ⟨J1, J2, J3, L1, L2, L3, b1, b2, b3, b4, b5, b6, f1, f2, fin⟩ := r_op (N := N) hN hR hRm hq hd hn htp hx g1 g2 v1 v2 v3 v4
        have b2 : rl 1 (nI 4) (nI D) J1 = some ((), J2) := b2
        have b5 : rS 80 (nI D) L1 = some ((), L2) := b5
        rw [hop] at ho
        have cl : f_X5_readLevel N R rp rl 1 (nI 3) (nI D) I = some ((), J3) := by
          refine (c_lvl3 hN hDl a1 ho).trans ?_
          rw [fc127]
          have hw : ∃ w, f_X5_operatorHere N R 1 (nI 3) J3 = some (w, J3) := by
            rcases fin with ⟨P2, m2, cd2, g4, g5, g6⟩ | hb
            · exact ⟨_, c_oph (N := N) hN hR hn htp g4.2.2.1 g4.1 (L := 3) (by omega)⟩
            · exact ⟨_, c_oph_f (N := N) (R := R) (zB_3 hb) (by omega)⟩
          obtain ⟨w, hw⟩ := hw
          have e1 : f_X5_readLevel_127 N R rp rl (N2 + 1) 1 (nI 3) (nI D) (nI 1) w (nI 1) J3 = some ((), J3) := by
            simp (disch := omega) only [f_X5_readLevel_127, nI_leI, if_pos]
          refine Eq.trans ?_ e1
          simp (disch := omega) only [f_X5_readLevel_127, zno, kd_1, hD.1, dk_0 hq, dr_4 hq, dk_4 hq, b1, b2, b3, hw, zl_1, nn_m1, nI_leI, nI_add, gd_t, gd_pos, Option.bind_some, if_neg, if_false]
        have ml : ∀ k j : Nat, f_X12_readNot_2 N Rm rP rS rN rA rE rT (j + 1) 80 (nI D) (nI k) K = f_X12_readNot_95 N Rm rP rS rN rA rE rT N 80 (nI k) (nI 0) L3 := fun k j => by
          rcases z_opr3 hop with ⟨rfl, s60⟩ | ⟨rfl, s60, s61⟩
          · rw [if_pos s60] at e60
            rw [z_tr3] at b6
            simp (disch := omega) only [f_X12_readNot_2, f_X12_readNot_62, f_X12_readNot_78, kd_80, h13, a2, e60, b4, b5, b6, zl_0, zl_60, zl_61, nI_eq, gd_t, gd_pos, Option.bind_some, if_true, if_neg]
          · rw [if_neg s60] at e60
            rw [if_pos s61] at e61
            rw [z_tr4] at b6
            simp (disch := omega) only [f_X12_readNot_2, f_X12_readNot_62, f_X12_readNot_78, kd_80, h13, a2, e60, e61, b4, b5, b6, zl_0, zl_60, zl_61, nI_eq, gd_t, gd_pos, Option.bind_some, if_true, if_neg]
        refine ⟨J3, L3, cl, ml, zCx_trans a3 f1, zMx_trans a4 f2, ?_⟩
        rcases fin with ⟨P2, m2, cd2, g4, g5, g6⟩ | hb
        · exact Or.inl ⟨P2, m2, cd2, g4, g5, by omega⟩
        · exact Or.inr hb
    · have ho := c_oph_f (N := N) (R := R) (zB_3 hb) (L := 3) (by omega)
      obtain ⟨e, e1, e2, e3⟩ := zB_22 hb
      have e60 := m_isMarked_f (N := N) (R := Rm) e3 e1 e2 (nI 60)
      have e61 := m_isMarked_f (N := N) (R := Rm) e3 e1 e2 (nI 61)
      refine ⟨I1, K1, (c_lvl3 hN hDl a1 ho).trans ?_, fun k j => ?_, a3, a4, Or.inr hb⟩
      · rw [fc127]
        exact c_127_f (zB_3 hb) (by omega) (by omega)
      · simp (disch := omega) only [f_X12_readNot_2, kd_80, h13, a2, e60, e61, zl_0, zl_60, zl_61, gd_t, gd_pos, Option.bind_some, if_true]
  · obtain ⟨a1, a2⟩ := hx0.2 I K hb
    have a1 : rl 1 (nI 4) (nI D) I = some ((), I) := a1
    have a2 : rS 80 (nI D) K = some ((), K) := a2
    have ho := c_oph_f (N := N) (R := R) (zB_3 hb) (L := 3) (by omega)
    obtain ⟨e, e1, e2, e3⟩ := zB_22 hb
    have e60 := m_isMarked_f (N := N) (R := Rm) e3 e1 e2 (nI 60)
    have e61 := m_isMarked_f (N := N) (R := Rm) e3 e1 e2 (nI 61)
    have h13 := m_is_f (N := N) (R := Rm) (w := 13) hN e3 e1 e2
    refine ⟨(c_lvl3 hN hDl a1 ho).trans ?_, fun k j => ?_⟩
    · rw [fc127]
      exact c_127_f (zB_3 hb) (by omega) (by omega)
    · simp (disch := omega) only [f_X12_readNot_2, kd_80, h13, a2, e60, e61, zl_0, zl_60, zl_61, gd_t, gd_pos, Option.bind_some, if_true]
/-- nots, counted -/
theorem r_nots (hN : 5000 ≤ N) (hR : sR R q) (hRm : sR Rm qm) (hd : d = 3 ∨ d = 22) (hn : n ≤ 700) (htp : ∀ i, i < n → tp i < 256) : ∀ (r k : Nat) (P : zK) (I K : Nat → Nat → Int32) (n1 n2 : Nat), k + r = 6 → r + 1 < n1 → r + 2 < n2 → zG d tp n P m cd h I K → m + c + k ≤ P.2.1 → ∃ k1 k2 J L j, f_X5_skipNots_2 N R n1 1 (nI k) I = some (nI k1, J) ∧ f_X12_readNot_2 N Rm rP rS rN rA rE rT n2 80 (nI D) (nI k) K = f_X12_readNot_2 N Rm rP rS rN rA rE rT (j + 1) 80 (nI D) (nI k2) L ∧ k1 ≤ 6 ∧ k2 ≤ 7 ∧ zCy I J ∧ zfm [] zMxf K L ∧ ((k1 = k2 ∧ ∃ P', zG d tp n P' m cd h J L ∧ m + c + k1 ≤ P'.2.1 ∧ P.2.1 ≤ P'.2.1 ∧ ¬ z_isw tp P' 13 = true) ∨ zB d J L) := by
  intro r
  induction r with
  | zero =>
    intro k P I K n1 n2 h1 h2 h3 hg hs
    obtain ⟨n1, rfl⟩ : ∃ k, n1 = k + 1 := ⟨n1 - 1, by omega⟩
    obtain ⟨n2, rfl⟩ : ∃ k, n2 = k + 1 + 1 := ⟨n2 - 2, by omega⟩
    have e1 := c_isWord (N := N) hN hR hn htp hg.2.2.1 hg.1 (w := 13) (by omega) (by omega)
    have e2 := m_is (N := N) hN hRm hn htp hg.2.2.1 hg.2.1 (w := 13) (by omega) (by omega)
    obtain rfl : k = 6 := by omega
    by_cases hw : z_isw tp P 13 = true
    · rw [if_pos hw] at e1 e2
      obtain ⟨J, L, s1, s2, s3, s4, s5, s6⟩ := r_stop (N := N) (R := R) (Rm := Rm) hn hd hg (e := 2) (by omega) (by omega)
      refine ⟨6, 7, J, L, n2, ?_, ?_, by omega, by omega, s4, s5, Or.inr s3⟩
      · simp (disch := omega) only [f_X5_skipNots_2, f_X5_skipNots_27, kd_1, e1, s1, zl_0, zl_2, zl_6, nI_leI, nI_eq, gd_t, gd_pos, Option.bind_some, if_pos, if_neg, if_true]
      · have e3 : f_X12_readNot_22 N Rm rP rS rN rA rE rT (fun z0 z1 z2 J => f_X12_readNot_2 N Rm rP rS rN rA rE rT (n2 + 1) z0 z1 z2 J) 80 (nI D) (nI 6) L = f_X12_readNot_2 N Rm rP rS rN rA rE rT (n2 + 1) 80 (nI D) (nI 7) L := by
          simp (disch := omega) only [f_X12_readNot_22, kd_80, s6, zl_0, zl_1, nI_add, nI_eq, gd_t, gd_pos, if_neg]
        refine Eq.trans ?_ e3
        rw [f_X12_readNot_2]
        simp (disch := omega) only [kd_80, e2, s2, zl_0, zl_2, zl_6, nI_eq, gd_t, gd_pos, Option.bind_some, if_neg, if_true]
    · rw [if_neg hw] at e1 e2
      refine ⟨6, 6, I, K, n2 + 1, ?_, rfl, by omega, by omega, zCy_refl I, zfm_refl _ _ _, Or.inl ⟨rfl, P, hg, hs, Nat.le_refl _, hw⟩⟩
      simp (disch := omega) only [f_X5_skipNots_2, f_X5_skipNots_27, kd_1, e1, zl_0, zl_6, nI_leI, gd_t, gd_pos, Option.bind_some, if_pos, if_true]
  | succ r ih =>
    intro k P I K n1 n2 h1 h2 h3 hg hs
    obtain ⟨n1, rfl⟩ : ∃ k, n1 = k + 1 := ⟨n1 - 1, by omega⟩
    obtain ⟨n2, rfl⟩ : ∃ k, n2 = k + 1 := ⟨n2 - 1, by omega⟩
    have e1 := c_isWord (N := N) hN hR hn htp hg.2.2.1 hg.1 (w := 13) (by omega) (by omega)
    have e2 := m_is (N := N) hN hRm hn htp hg.2.2.1 hg.2.1 (w := 13) (by omega) (by omega)
    obtain ⟨t1, t2, t3, t4, t5⟩ := id hg.2.2.1
    by_cases hw : z_isw tp P 13 = true
    · rw [if_pos hw] at e1 e2
      have hw2 := (z_isw_e hw).1
      obtain ⟨J, L, a1, a2, a3, a4, a5, a6⟩ := r_adv (N := N) hN hR hRm hd hn htp hg
      obtain ⟨k1, k2, J', L', j, b1, b2, b3, b4, b5, b6, b7⟩ := ih (k + 1) _ J L n1 n2 (by omega) (by omega) (by omega) a3 (by omega)
      have k22 : K 80 22 = nI 0 := hg.2.1.1.2.2.2
      refine ⟨k1, k2, J', L', j, Eq.trans ?_ b1, Eq.trans ?_ b2, b3, b4, zCy_trans a5 b5, zfm_trans a6 b6, ?_⟩
      · simp (disch := omega) only [f_X5_skipNots_2, kd_1, e1, a1, zl_0, zl_1, zl_6, nI_leI, nI_eq, nI_add, gd_t, gd_pos, Option.bind_some, if_neg]
      · have e3 : f_X12_readNot_22 N Rm rP rS rN rA rE rT (fun z0 z1 z2 J => f_X12_readNot_2 N Rm rP rS rN rA rE rT n2 z0 z1 z2 J) 80 (nI D) (nI k) K = f_X12_readNot_2 N Rm rP rS rN rA rE rT n2 80 (nI D) (nI (k + 1)) L := by
          simp (disch := omega) only [f_X12_readNot_22, kd_80, k22, a2, zl_0, zl_1, nI_add, gd_t, gd_pos, Option.bind_some, if_true]
        refine Eq.trans ?_ e3
        rw [f_X12_readNot_2]
        simp (disch := omega) only [kd_80, e2, zl_0, zl_6, nI_eq, gd_t, gd_pos, Option.bind_some, if_neg]
      · rcases b7 with ⟨g0, P', g1, g2, g3, g4⟩ | hb
        · exact Or.inl ⟨g0, P', g1, g2, by omega, g4⟩
        · exact Or.inr hb
    · rw [if_neg hw] at e1 e2
      refine ⟨k, k, I, K, n2, ?_, rfl, by omega, by omega, zCy_refl I, zfm_refl _ _ _, Or.inl ⟨rfl, P, hg, hs, Nat.le_refl _, hw⟩⟩
      simp (disch := omega) only [f_X5_skipNots_2, f_X5_skipNots_27, kd_1, e1, zl_0, zl_6, nI_leI, gd_t, gd_pos, Option.bind_some, if_neg, if_true]
/-- nots, laid -/
theorem r_nadd (hN : 5000 ≤ N) (hR : sR R q) (hRm : sR Rm qm) (hD : zDq R q d) (hq : qR R d) (hd : d = 3 ∨ d = 22) (hn : n ≤ 700) (htp : ∀ i, i < n → tp i < 256) {k : Nat} (hk : k ≤ 7) : ∀ (r j m : Nat) (cd : Nat → Nat) (I K : Nat → Nat → Int32) (n1 n2 : Nat), j + r = k → r < n1 → r < n2 → zG d tp n P m cd (h + 1) I K → m + c + r ≤ P.2.1 → ∃ J L, f_X5_readLevel_78 N R rp rl n1 1 (nI 2) (nI D) (nI k) (nI j) I = some ((), J) ∧ f_X12_readNot_95 N Rm rP rS rN rA rE rT n2 80 (nI k) (nI j) K = some ((), L) ∧ zCx d I J ∧ zMx K L ∧ ∃ m' cd', zG d tp n P m' cd' (h + 1) J L ∧ m' + c ≤ P.2.1 := by
  intro r
  induction r with
  | zero =>
    intro j m cd I K n1 n2 h1 h2 h3 hg hs
    obtain ⟨n1, rfl⟩ : ∃ k, n1 = k + 1 := ⟨n1 - 1, by omega⟩
    obtain ⟨n2, rfl⟩ : ∃ k, n2 = k + 1 := ⟨n2 - 1, by omega⟩
    obtain ⟨N1, hN1⟩ : ∃ k, N = k + 1 := ⟨N - 1, by omega⟩
    have ho := c_oph (N := N) hN hR hn htp hg.2.2.1 hg.1 (L := 2) (by omega)
    have e1 : f_X5_readLevel_127 N R rp rl N 1 (nI 2) (nI D) (nI 700) (zno (z_opr tp 2 P)) (nI 0) I = some ((), I) := by
      rw [show f_X5_readLevel_127 N R rp rl N = f_X5_readLevel_127 N R rp rl (N1 + 1) by rw [← hN1], show z_opr tp 2 P = none from rfl]
      simp (disch := omega) only [f_X5_readLevel_127, zno, zl_1, nI_leI, if_neg, if_true]
    refine ⟨I, K, Eq.trans ?_ e1, ?_, zCx_refl d I, zMx_refl K, m, cd, hg, hs⟩
    · simp (disch := omega) only [f_X5_readLevel_78, kd_1, ho, zl_0, zl_3, zl_700, nI_leI, nI_eq, gd_t, gd_pos, Option.bind_some, if_pos, if_neg]
    · simp (disch := omega) only [f_X12_readNot_95, nI_leI, if_pos]
  | succ r ih =>
    intro j m cd I K n1 n2 h1 h2 h3 hg hs
    obtain ⟨n1, rfl⟩ : ∃ k, n1 = k + 1 := ⟨n1 - 1, by omega⟩
    obtain ⟨n2, rfl⟩ : ∃ k, n2 = k + 1 := ⟨n2 - 1, by omega⟩
    obtain ⟨t1, t2, t3, t4, t5⟩ := id hg.2.2.1
    obtain ⟨J, L, a1, a2, a3, a4, a5⟩ := r_lay (N := N) hR hRm hq hd hg (by omega) (v := 20002) (z_ht_not (by omega))
    rw [z_trn] at a2
    obtain ⟨J', L', b1, b2, b3, b4, b5⟩ := ih (j + 1) (m + 1) _ J L n1 n2 (by omega) (by omega) (by omega) a3 (by omega)
    refine ⟨J', L', Eq.trans ?_ b1, Eq.trans ?_ b2, zCx_trans a4 b3, zMx_trans a5 b4, b5⟩
    · simp (disch := omega) only [f_X5_readLevel_78, kd_1, hD.1, dk_0 hq, dr_4 hq, dk_4 hq, a1, zl_1, zl_20002, nI_leI, nI_add, gd_t, gd_pos, Option.bind_some, if_neg]
    · simp (disch := omega) only [f_X12_readNot_95, kd_80, a2, zl_1, nI_leI, nI_add, gd_t, gd_pos, Option.bind_some, if_neg]
theorem c_78_f (hN : 5000 ≤ N) (hR : sR R q) (hD : zDq R q d) (hq : qR R d) (hd : d = 3 ∨ d = 22) {k : Nat} (hk : k ≤ 7) : ∀ (r j : Nat) (I : Nat → Nat → Int32) (n1 : Nat), j + r = k → r < n1 → zB d I K → ∃ J, f_X5_readLevel_78 N R rp rl n1 1 (nI 2) (nI D) (nI k) (nI j) I = some ((), J) ∧ zCx d I J ∧ zB d J K := by
  intro r
  induction r with
  | zero =>
    intro j I n1 h1 h2 hb
    obtain ⟨n1, rfl⟩ : ∃ k, n1 = k + 1 := ⟨n1 - 1, by omega⟩
    obtain ⟨N1, hN1⟩ : ∃ k, N = k + 1 := ⟨N - 1, by omega⟩
    have ho := c_oph_f (N := N) (R := R) (zB_3 hb) (L := 2) (by omega)
    have e1 : f_X5_readLevel_127 N R rp rl N 1 (nI 2) (nI D) (nI 700) (-nI 1) (nI 0) I = some ((), I) := by
      rw [show f_X5_readLevel_127 N R rp rl N = f_X5_readLevel_127 N R rp rl (N1 + 1) by rw [← hN1]]
      exact c_127_f (zB_3 hb) (by omega) (by omega)
    refine ⟨I, Eq.trans ?_ e1, zCx_refl d I, hb⟩
    simp (disch := omega) only [f_X5_readLevel_78, kd_1, ho, zl_0, zl_3, zl_700, nI_leI, nI_eq, gd_t, gd_pos, Option.bind_some, if_pos, if_neg]
  | succ r ih =>
    intro j I n1 h1 h2 hb
    obtain ⟨n1, rfl⟩ : ∃ k, n1 = k + 1 := ⟨n1 - 1, by omega⟩
    obtain ⟨J, a1, a2, a3⟩ := c_add_f (N := N) hq hd hb (nI 20002)
    obtain ⟨J', b1, b2, b3⟩ := ih (j + 1) J n1 (by omega) (by omega) a2
    refine ⟨J', Eq.trans ?_ b1, zCx_trans a3 b2, b3⟩
    simp (disch := omega) only [f_X5_readLevel_78, kd_1, hD.1, dk_0 hq, dr_4 hq, dk_4 hq, a1, zl_1, zl_20002, nI_leI, nI_add, gd_t, gd_pos, Option.bind_some, if_neg]
theorem m_95_f (hb : zB d I K) {k : Nat} (hk : k ≤ 7) : ∀ (r j n2 : Nat), j + r = k → r < n2 → f_X12_readNot_95 N R rP rS rN rA rE rT n2 80 (nI k) (nI j) K = some ((), K) := by
  intro r
  induction r with
  | zero =>
    intro j n2 h1 h2
    obtain ⟨n2, rfl⟩ : ∃ k, n2 = k + 1 := ⟨n2 - 1, by omega⟩
    simp (disch := omega) only [f_X12_readNot_95, nI_leI, if_pos]
  | succ r ih =>
    intro j n2 h1 h2
    obtain ⟨n2, rfl⟩ : ∃ k, n2 = k + 1 := ⟨n2 - 1, by omega⟩
    have e1 := m_lay_f (N := N) (R := R) hb (-28)
    refine Eq.trans ?_ (ih (j + 1) n2 (by omega) (by omega))
    simp (disch := omega) only [f_X12_readNot_95, kd_80, e1, zl_1, nI_leI, nI_add, gd_t, gd_pos, Option.bind_some, if_neg]
theorem r_lvl2 (hN : 5000 ≤ N) (hR : sR R q) (hRm : sR Rm qm) (hD : zDq R q d) (hq : qR R d) (hd : d = 3 ∨ d = 22) (hn : n ≤ 700) (htp : ∀ i, i < n → tp i < 256) (hDl : D < 6) (hx : zT3 N Rm d tp n h D (fun I => rl 1 (nI 3) (nI D) I) rP rS rN rA rE rT) : zTT d tp n h (h + 1) (fun I => f_X5_readLevel N R rp rl 1 (nI 2) (nI D) I) (fun K => f_X12_readNot N Rm rP rS rN rA rE rT 80 (nI D) K) := by
  have step : ∀ (I J J2 : Nat → Nat → Int32) (k : Nat), f_X5_skipNots_2 N R N 1 (nI 0) I = some (nI k, J) → rl 1 (nI 3) (nI D) J = some ((), J2) → f_X5_readLevel N R rp rl 1 (nI 2) (nI D) I = f_X5_readLevel_78 N R rp rl N 1 (nI 2) (nI D) (nI k) (nI 0) J2 := fun I J J2 k h1 h2 => by
    simp (disch := omega) only [f_X5_readLevel, f_X5_readLevel_66, f_X5_skipNots, kd_1, zl_0, zl_1, zl_2, zl_6, nI_add, h1, h2, nI_ltI, nI_eq, gd_t, gd_pos, Option.bind_some, if_pos, if_true]
  refine ⟨fun I K P m cd c hg hs => ?_, fun I K hb => ?_⟩
  · obtain ⟨k1, k2, J, L, j, a1, a2, a3, a4, a5, a6, a7⟩ := r_nots (N := N) (m := m) (cd := cd) (h := h) (c := c) (D := D) (rP := rP) (rS := rS) (rN := rN) (rA := rA) (rE := rE) (rT := rT) hN hR hRm hd hn htp 6 0 P I K N N (by omega) (by omega) (by omega) hg (by omega)
    have a2' : f_X12_readNot N Rm rP rS rN rA rE rT 80 (nI D) K = f_X12_readNot_2 N Rm rP rS rN rA rE rT (j + 1) 80 (nI D) (nI k2) L := by
      unfold f_X12_readNot
      rw [zl_0]
      exact a2
    have x1 := zCx_y hd a5
    have x2 := zMx_y a6
    rcases a7 with ⟨rfl, P', g1, g2, g3, g4⟩ | hb
    · have h13 := m_is (N := N) hN hRm hn htp g1.2.2.1 g1.2.1 (w := 13) (by omega) (by omega)
      rw [if_neg g4] at h13
      obtain ⟨J2, L2, b1, b2, b3, b4, b5⟩ := hx.1 J L P' m cd (c + k1) g1 (by omega) h13
      have b1 : rl 1 (nI 3) (nI D) J = some ((), J2) := b1
      rcases b5 with ⟨P2, m2, cd2, g5, g6, g7⟩ | hb
      · obtain ⟨J3, L3, d1, d2, d3, d4, m3, cd3, d5, d6⟩ := r_nadd (N := N) (rp := rp) (rl := rl) (D := D) (c := c) (rP := rP) (rS := rS) (rN := rN) (rA := rA) (rE := rE) (rT := rT) hN hR hRm hD hq hd hn htp (k := k1) (by omega) k1 0 m2 cd2 J2 L2 N N (by omega) (by omega) (by omega) g5 (by omega)
        exact ⟨J3, L3, (step I J J2 k1 a1 b1).trans d1, a2'.trans ((b2 k1 j).trans d2), zCx_trans x1 (zCx_trans b3 d3), zMx_trans x2 (zMx_trans b4 d4), Or.inl ⟨P2, m3, cd3, d5, d6, by omega⟩⟩
      · obtain ⟨J3, d1, d2, d3⟩ := c_78_f (N := N) (rp := rp) (rl := rl) (D := D) hN hR hD hq hd (k := k1) (by omega) k1 0 J2 N (by omega) (by omega) hb
        exact ⟨J3, L2, (step I J J2 k1 a1 b1).trans d1, a2'.trans ((b2 k1 j).trans (m_95_f hb (by omega) k1 0 N (by omega) (by omega))), zCx_trans x1 (zCx_trans b3 d2), zMx_trans x2 b4, Or.inr d3⟩
    · obtain ⟨b1, b2⟩ := hx.2 J L hb
      have b1 : rl 1 (nI 3) (nI D) J = some ((), J) := b1
      obtain ⟨J3, d1, d2, d3⟩ := c_78_f (N := N) (rp := rp) (rl := rl) (D := D) hN hR hD hq hd (k := k1) (by omega) k1 0 J N (by omega) (by omega) hb
      exact ⟨J3, L, (step I J J k1 a1 b1).trans d1, a2'.trans ((b2 k2 j).trans (m_95_f hb (by omega) k2 0 N (by omega) (by omega))), zCx_trans x1 d2, x2, Or.inr d3⟩
  · obtain ⟨b1, b2⟩ := hx.2 I K hb
    have b1 : rl 1 (nI 3) (nI D) I = some ((), I) := b1
    obtain ⟨N1, hN1⟩ : ∃ k, N = k + 1 := ⟨N - 1, by omega⟩
    have w13 := c_isWord_f (N := N) (R := R) (w := 13) (zB_3 hb)
    have e0 : f_X5_skipNots_2 N R N 1 (nI 0) I = some (nI 0, I) := by
      rw [show f_X5_skipNots_2 N R N = f_X5_skipNots_2 N R (N1 + 1) by rw [← hN1]]
      simp (disch := omega) only [f_X5_skipNots_2, f_X5_skipNots_27, kd_1, w13, zl_0, zl_6, nI_leI, gd_t, gd_pos, Option.bind_some, if_neg, if_true]
    have e1 : f_X5_readLevel_78 N R rp rl N 1 (nI 2) (nI D) (nI 0) (nI 0) I = some ((), I) := by
      have ho := c_oph_f (N := N) (R := R) (zB_3 hb) (L := 2) (by omega)
      have e2 : f_X5_readLevel_127 N R rp rl N 1 (nI 2) (nI D) (nI 700) (-nI 1) (nI 0) I = some ((), I) := by
        rw [show f_X5_readLevel_127 N R rp rl N = f_X5_readLevel_127 N R rp rl (N1 + 1) by rw [← hN1]]
        exact c_127_f (zB_3 hb) (by omega) (by omega)
      rw [show f_X5_readLevel_78 N R rp rl N = f_X5_readLevel_78 N R rp rl (N1 + 1) by rw [← hN1]]
      refine Eq.trans ?_ e2
      simp (disch := omega) only [f_X5_readLevel_78, kd_1, ho, zl_0, zl_3, zl_700, nI_leI, nI_eq, gd_t, gd_pos, Option.bind_some, if_pos, if_neg]
    refine ⟨(step I I I 0 e0 b1).trans e1, ?_⟩
    show f_X12_readNot N Rm rP rS rN rA rE rT 80 (nI D) K = _
    unfold f_X12_readNot
    rw [zl_0]
    have e3 := b2 0 N1
    rw [← hN1] at e3
    exact e3.trans (m_95_f hb (by omega) 0 0 N (by omega) (by omega))
end ZR
