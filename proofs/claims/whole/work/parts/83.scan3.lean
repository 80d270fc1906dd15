/-! ===== PURE PART: school: the model's scanner ===== -/
def z_mk (c : Nat) : Bool := decide (c = 59 ∨ c = 40 ∨ c = 41 ∨ c = 43 ∨ c = 45 ∨ c = 42 ∨ c = 47 ∨ c = 60 ∨ c = 61)
def z_tkc (tp : Nat → Nat) (P : zK) : Nat := if P.1 = 0 then 0 else if P.1 = 2 then 1 else if P.1 = 1 then 2 else if z_mk (tp P.2.1) = true then 3 else 4
def zMT0 (tp : Nat → Nat) (n b : Nat) (K : Nat → Nat → Int32) : Prop := K 80 17 = nI n ∧ (∀ i, i < n → K 94 i = nI (tp i)) ∧ K 80 16 = nI b ∧ K 80 22 = nI 0
def zMT (tp : Nat → Nat) (n : Nat) (P : zK) (K : Nat → Nat → Int32) : Prop := zMT0 tp n P.2.2 K ∧ K 80 18 = nI (z_tkc tp P) ∧ K 80 20 = nI P.2.1 ∧ K 80 21 = nI P.2.2 ∧ (P.1 = 1 → P.2.2 - P.2.1 ≤ 4 → K 80 19 = nI (z_nv tp P.2.1 (P.2.2 - P.2.1)))
def zMal : List Nat := [16, 18, 19, 20, 21]
theorem zn_m1 {c : Nat} (hc : c < 2 ^ 31) : (-nI 1 = nI c) = False := eq_false (fun h => by
  have h1 : (-nI 1).toInt = -1 := by decide
  rw [h, nI_toInt hc] at h1
  omega)
section ZM
variable {N : Nat} {R : Nat → Nat → Nat} {q n b a i : Nat} {tp : Nat → Nat} {I K : Nat → Nat → Int32}
theorem m_byte (hR : sR R q) (hn : n ≤ 700) (h17 : K 80 17 = nI n) (ht : ∀ i, i < n → K 94 i = nI (tp i)) (hi : i < n) : f_X12_byteAt N R 80 (nI i) K = some (nI (tp i), K) := by
  have hx := ht i hi
  simp (disch := omega) only [f_X12_byteAt, kd_80, r80_14 hR, kd_94, h17, hx, zl_0, nI_leI, nI_ltI, nI_clamp, gd_t, gd_pos, lt_eq, Option.bind_some, true_and, and_true, not_true, not_false_iff, false_or, or_false, if_true, if_false, if_pos, if_neg]
theorem m_byte_e (hn : n ≤ 700) (h17 : K 80 17 = nI n) (hi : i = n) : f_X12_byteAt N R 80 (nI i) K = some (-nI 1, K) := by
  simp (disch := omega) only [f_X12_byteAt, kd_80, h17, zl_1, nI_leI, gd_t, gd_pos, if_pos]
theorem m_letter {c : Nat} (hc : c < 256) : f_X12_isLetter N R (nI c) K = some ((if 97 ≤ c ∧ c ≤ 122 then nI 1 else nI 0), K) := by
  by_cases h : 97 ≤ c ∧ c ≤ 122
  · rw [if_pos h]
    simp (disch := omega) only [f_X12_isLetter, zl_0, zl_1, zl_97, zl_122, nI_ltI, if_neg]
  · rw [if_neg h]
    by_cases h2 : c < 97
    · simp (disch := omega) only [f_X12_isLetter, zl_0, zl_1, zl_97, zl_122, nI_ltI, if_pos]
    · simp (disch := omega) only [f_X12_isLetter, zl_0, zl_1, zl_97, zl_122, nI_ltI, if_pos, if_neg]
theorem m_letter_e : f_X12_isLetter N R (-nI 1) K = some (nI 0, K) := by
  have h : -nI 1 < (97 : Int32) := by decide
  unfold f_X12_isLetter
  rw [if_pos h]
  rfl
theorem m_digit {c : Nat} (hc : c < 256) : f_X12_isDigit N R (nI c) K = some ((if 48 ≤ c ∧ c ≤ 57 then nI 1 else nI 0), K) := by
  by_cases h : 48 ≤ c ∧ c ≤ 57
  · rw [if_pos h]
    simp (disch := omega) only [f_X12_isDigit, zl_0, zl_1, zl_48, zl_57, nI_ltI, if_neg]
  · rw [if_neg h]
    by_cases h2 : c < 48
    · simp (disch := omega) only [f_X12_isDigit, zl_0, zl_1, zl_48, zl_57, nI_ltI, if_pos]
    · simp (disch := omega) only [f_X12_isDigit, zl_0, zl_1, zl_48, zl_57, nI_ltI, if_pos, if_neg]
theorem m_digit_e : f_X12_isDigit N R (-nI 1) K = some (nI 0, K) := by
  have h : -nI 1 < (48 : Int32) := by decide
  unfold f_X12_isDigit
  rw [if_pos h]
  rfl
theorem m_isMark {c : Nat} (hc : c < 256) : f_X12_isMark N R (nI c) K = some ((if z_mk c = true then nI 1 else nI 0), K) := by
  unfold z_mk
  by_cases h1 : c = 59
  · subst h1
    rfl
  · by_cases h2 : c = 40
    · subst h2
      rfl
    · by_cases h3 : c = 41
      · subst h3
        rfl
      · by_cases h4 : c = 43
        · subst h4
          rfl
        · by_cases h5 : c = 45
          · subst h5
            rfl
          · by_cases h6 : c = 42
            · subst h6
              rfl
            · by_cases h7 : c = 47
              · subst h7
                rfl
              · by_cases h8 : c = 60
                · subst h8
                  rfl
                · by_cases h9 : c = 61
                  · subst h9
                    rfl
                  · rw [decide_eq_false (by omega), if_neg (by decide)]
                    simp (disch := omega) only [f_X12_isMark, zl_0, zl_59, zl_40, zl_41, zl_43, zl_45, zl_42, zl_47, zl_60, zl_61, nI_eq, if_neg]
/-- the end of a step -/
theorem m_stend {k e : Nat} (hk : I 80 17 = nI n) (ht : ∀ i, i < n → I 94 i = nI (tp i)) (h22 : I 80 22 = nI 0) (h20 : I 80 20 = nI a) (h16 : I 80 16 = nI e) {P : zK} (hP2 : P.2.1 = a) (hP3 : P.2.2 = e) (hPk : z_tkc tp P = k) (h19 : P.1 = 1 → e - a ≤ 4 → I 80 19 = nI (z_nv tp a (e - a))) : zMT tp n P (sm_up I 80 (sm_up (sm_up (I 80) 18 (nI k)) 21 (nI e))) ∧ zfm [] zMal I (sm_up I 80 (sm_up (sm_up (I 80) 18 (nI k)) 21 (nI e))) := by
  refine ⟨⟨⟨?_, ?_, ?_, ?_⟩, ?_, ?_, ?_, ?_⟩, ?_⟩
  · rw [up_s, up_n _ _ (by omega), up_n _ _ (by omega)]
    exact hk
  · intro i hi
    rw [up_n _ _ (by omega)]
    exact ht i hi
  · rw [up_s, up_n _ _ (by omega), up_n _ _ (by omega), hP3]
    exact h16
  · rw [up_s, up_n _ _ (by omega), up_n _ _ (by omega)]
    exact h22
  · rw [up_s, up_n _ _ (by omega), up_s, hPk]
  · rw [up_s, up_n _ _ (by omega), up_n _ _ (by omega), hP2]
    exact h20
  · rw [up_s, up_s, hP3]
  · intro h1 h2
    rw [hP2, hP3] at h2
    rw [up_s, up_n _ _ (by omega), up_n _ _ (by omega), hP2, hP3]
    exact h19 h1 h2
  · have h1 := zfm_f (zfm_f (zfm_refl [] zMal I) (i := 18) (by decide) (nI k)) (i := 21) (by decide) (nI e)
    rw [up_s, up_uu] at h1
    exact h1
theorem m_step76 (hN : 5000 ≤ N) (hR : sR R q) (hn : n ≤ 700) (htp : ∀ i, i < n → tp i < 256) (ha : a < n) (hl : z_lt tp a = true) (h17 : I 80 17 = nI n) (ht : ∀ i, i < n → I 94 i = nI (tp i)) (h16 : I 80 16 = nI a) (h20 : I 80 20 = nI a) (h22 : I 80 22 = nI 0) : ∃ J, f_X12_stepOn_76 N R N 80 I = some ((), J) ∧ zMT tp n (2, a, z_sp (z_lt tp) (n - a) a) J ∧ zfm [] zMal I J := by
  have L := zsp_loop (fun m _ s => f_X12_stepOn_76 N R m 80 s) (fun i s => some ((), sm_up s 80 (sm_up (sm_up (s 80) 18 (nI 1)) 21 (nI i)))) (z_lt tp) (fun i s => s 80 16 = nI i ∧ zfm [] [16] I s) n
    (fun m i s hi hs hc => by
      obtain ⟨g16, gf⟩ := hs
      have g17 : s 80 17 = nI n := (gf.2 17 (by decide)).trans h17
      have gt : ∀ i, i < n → s 94 i = nI (tp i) := fun i hi => by rw [gf.1 94 (by omega) (by simp)]; exact ht i hi
      by_cases hin : i = n
      · have e1 := m_byte_e (N := N) (R := R) (K := s) hn g17 hin
        simp (disch := omega) only [f_X12_stepOn_76, kd_80, g16, e1, m_letter_e, zl_0, zl_1, up_s, up_n, up_uu, gd_t, gd_pos, lt_eq, Option.bind_some, if_true]
      · have e1 := m_byte (N := N) (K := s) hR hn g17 gt (show i < n by omega)
        have e2 := m_letter (N := N) (R := R) (K := s) (htp i (by omega))
        rw [if_neg (fun h => by
          rcases hc with hc | hc
          · exact hin hc
          · exact hc (decide_eq_true h))] at e2
        simp (disch := omega) only [f_X12_stepOn_76, kd_80, g16, e1, e2, zl_0, zl_1, up_s, up_n, up_uu, gd_t, gd_pos, lt_eq, Option.bind_some, if_true])
    (fun m i s hi hc hs => by
      obtain ⟨g16, gf⟩ := hs
      have g17 : s 80 17 = nI n := (gf.2 17 (by decide)).trans h17
      have gt : ∀ i, i < n → s 94 i = nI (tp i) := fun i hi => by rw [gf.1 94 (by omega) (by simp)]; exact ht i hi
      have e1 := m_byte (N := N) (K := s) hR hn g17 gt hi
      have e2 := m_letter (N := N) (R := R) (K := s) (htp i hi)
      rw [if_pos (of_decide_eq_true hc)] at e2
      refine ⟨sm_up s 80 (sm_up (s 80) 16 (nI (i + 1))), ?_, by rw [up_s, up_s], zfm_f gf (by simp) _⟩
      simp (disch := omega) only [f_X12_stepOn_76, kd_80, g16, e1, e2, zl_0, zl_1, nI_eq, nI_add, gd_t, gd_pos, lt_eq, Option.bind_some, if_neg])
    (n - a) a I N (by omega) (by omega) ⟨h16, zfm_refl _ _ _⟩
  obtain ⟨s, l1, l2, l3⟩ := L
  obtain ⟨g1, g2⟩ := m_stend (k := 1) (P := (2, a, z_sp (z_lt tp) (n - a) a)) ((l3.2 17 (by decide)).trans h17) (fun i hi => by rw [l3.1 94 (by omega) (by simp)]; exact ht i hi) ((l3.2 22 (by decide)).trans h22) ((l3.2 20 (by decide)).trans h20) l2 rfl rfl rfl (fun h => absurd h (by show ¬ 2 = 1; omega))
  exact ⟨_, l1, g1, zfm_trans (zfm_mono l3 (by simp) (by decide)) g2⟩
theorem m_step123 (hN : 5000 ≤ N) (hR : sR R q) (hn : n ≤ 700) (htp : ∀ i, i < n → tp i < 256) (ha : a < n) (hl : z_dg tp a = true) (h17 : I 80 17 = nI n) (ht : ∀ i, i < n → I 94 i = nI (tp i)) (h16 : I 80 16 = nI a) (h20 : I 80 20 = nI a) (h22 : I 80 22 = nI 0) (h19 : I 80 19 = nI 0) : ∃ J, f_X12_stepOn_123 N R N 80 I = some ((), J) ∧ zMT tp n (1, a, z_sp (z_dg tp) (n - a) a) J ∧ zfm [] zMal I J := by
  have L := zsp_loop (fun m _ s => f_X12_stepOn_123 N R m 80 s) (fun i s => some ((), sm_up s 80 (sm_up (sm_up (s 80) 18 (nI 2)) 21 (nI i)))) (z_dg tp) (fun i s => s 80 16 = nI i ∧ (i - a ≤ 4 → s 80 19 = nI (z_nv tp a (i - a))) ∧ a ≤ i ∧ (∀ j, a ≤ j → j < i → z_dg tp j = true) ∧ zfm [] [16, 19] I s) n
    (fun m i s hi hs hc => by
      obtain ⟨g16, g19, ga, gd, gf⟩ := hs
      have g17 : s 80 17 = nI n := (gf.2 17 (by decide)).trans h17
      have gt : ∀ i, i < n → s 94 i = nI (tp i) := fun i hi => by rw [gf.1 94 (by omega) (by simp)]; exact ht i hi
      by_cases hin : i = n
      · have e1 := m_byte_e (N := N) (R := R) (K := s) hn g17 hin
        simp (disch := omega) only [f_X12_stepOn_123, kd_80, g16, e1, m_digit_e, zl_0, zl_1, zl_2, up_s, up_n, up_uu, gd_t, gd_pos, lt_eq, Option.bind_some, if_true]
      · have e1 := m_byte (N := N) (K := s) hR hn g17 gt (show i < n by omega)
        have e2 := m_digit (N := N) (R := R) (K := s) (htp i (by omega))
        rw [if_neg (fun h => by
          rcases hc with hc | hc
          · exact hin hc
          · exact hc (decide_eq_true h))] at e2
        simp (disch := omega) only [f_X12_stepOn_123, kd_80, g16, e1, e2, zl_0, zl_2, up_s, up_n, up_uu, gd_t, gd_pos, lt_eq, Option.bind_some, if_true])
    (fun m i s hi hc hs => by
      obtain ⟨g16, g19, ga, gd, gf⟩ := hs
      have g17 : s 80 17 = nI n := (gf.2 17 (by decide)).trans h17
      have gt : ∀ i, i < n → s 94 i = nI (tp i) := fun i hi => by rw [gf.1 94 (by omega) (by simp)]; exact ht i hi
      have e1 := m_byte (N := N) (K := s) hR hn g17 gt hi
      have e2 := m_digit (N := N) (R := R) (K := s) (htp i hi)
      have hcd := of_decide_eq_true hc
      rw [if_pos hcd] at e2
      obtain ⟨v, hv⟩ : ∃ v : Int32, v = sm_mn (nI 100000) (nI 10 * s 80 19 + nI (tp i) - nI 48) := ⟨_, rfl⟩
      refine ⟨sm_up s 80 (sm_up (sm_up (s 80) 19 v) 16 (nI (i + 1))), ?_, by rw [up_s, up_s], fun h9 => ?_, by omega, fun j h10 h11 => ?_, ?_⟩
      · simp (disch := omega) only [f_X12_stepOn_123, kd_80, g16, e1, e2, zl_0, zl_1, zl_10, zl_48, zl_100000, ← hv, nI_eq, nI_add, up_s, up_n, up_uu, gd_t, gd_pos, lt_eq, Option.bind_some, if_neg]
      · rw [up_s, up_n _ _ (by omega), up_s, hv, g19 (by omega)]
        have h3 := z_nv_4 (tp := tp) (a := a) (j := i - a) (by omega) (fun j h1 h2 => gd j h1 (by omega))
        have e : z_nv tp a (i + 1 - a) = z_nv tp a (i - a) * 10 + (tp i - 48) := by
          rw [show i + 1 - a = (i - a) + 1 by omega]
          show z_nv tp a (i - a) * 10 + (tp (a + (i - a)) - 48) = _
          rw [show a + (i - a) = i by omega]
        have h4 : z_nv tp a (i + 1 - a) < 10000 := z_nv_4 h9 (fun j h1 h2 => by
          by_cases e2 : j = i
          · rw [e2]
            exact hc
          · exact gd j h1 (by omega))
        rw [pk_mul, nI_add, pk_sub (by omega), mn_nI (by omega) (by omega)]
        congr 1
        omega
      · by_cases e : j = i
        · rw [e]
          exact hc
        · exact gd j h10 (by omega)
      · have h1 := zfm_f (zfm_f gf (i := 19) (by simp) v) (i := 16) (by simp) (nI (i + 1))
        rw [up_s, up_uu] at h1
        exact h1)
    (n - a) a I N (by omega) (by omega) ⟨h16, fun _ => by rw [Nat.sub_self]; exact h19, Nat.le_refl _, fun j h1 h2 => by omega, zfm_refl _ _ _⟩
  obtain ⟨s, l1, l2, l4, l5, l6, l3⟩ := L
  obtain ⟨g1, g2⟩ := m_stend (k := 2) (P := (1, a, z_sp (z_dg tp) (n - a) a)) ((l3.2 17 (by decide)).trans h17) (fun i hi => by rw [l3.1 94 (by omega) (by simp)]; exact ht i hi) ((l3.2 22 (by decide)).trans h22) ((l3.2 20 (by decide)).trans h20) l2 rfl rfl rfl (fun _ => l4)
  exact ⟨_, l1, g1, zfm_trans (zfm_mono l3 (by simp) (by decide)) g2⟩
theorem m_stk {P : zK} (h3 : P.1 = 3) : z_tkc tp P = if z_mk (tp P.2.1) = true then 3 else 4 := by
  unfold z_tkc
  rw [h3]
  rfl
theorem m_step (hN : 5000 ≤ N) (hR : sR R q) (hn : n ≤ 700) (htp : ∀ i, i < n → tp i < 256) (hb : b ≤ n) (h : zMT0 tp n b I) : ∃ J, f_X12_stepOn N R 80 I = some ((), J) ∧ zMT tp n (z_scan tp n b) J ∧ zfm [] zMal I J := by
  obtain ⟨h17, ht, h16, h22⟩ := h
  have L := zsp_loop (fun m _ s => f_X12_stepOn_0 N R m 80 s) (fun _ s => f_X12_stepOn_0 N R (0 + 1) 80 s) (z_bl tp) (fun i s => s 80 16 = nI i ∧ zfm [] [16] I s) n
    (fun m i s hi hs hc => by
      obtain ⟨g16, gf⟩ := hs
      have g17 : s 80 17 = nI n := (gf.2 17 (by decide)).trans h17
      have gt : ∀ i, i < n → s 94 i = nI (tp i) := fun i hi => by rw [gf.1 94 (by omega) (by simp)]; exact ht i hi
      by_cases hin : i = n
      · have e1 := m_byte_e (N := N) (R := R) (K := s) hn g17 hin
        simp (disch := omega) only [f_X12_stepOn_0, kd_80, g16, e1, zl_1, zl_10, zl_32, zn_m1, gd_t, gd_pos, lt_eq, Option.bind_some, if_false]
      · have e1 := m_byte (N := N) (K := s) hR hn g17 gt (show i < n by omega)
        have hc2 : ¬ (tp i = 32 ∨ tp i = 10) := fun h => by
          rcases hc with hc | hc
          · exact hin hc
          · exact hc (decide_eq_true h)
        have hb := htp i (by omega)
        simp (disch := omega) only [f_X12_stepOn_0, kd_80, g16, e1, zl_10, zl_32, nI_eq, gd_t, gd_pos, lt_eq, Option.bind_some, if_neg])
    (fun m i s hi hc hs => by
      obtain ⟨g16, gf⟩ := hs
      have g17 : s 80 17 = nI n := (gf.2 17 (by decide)).trans h17
      have gt : ∀ i, i < n → s 94 i = nI (tp i) := fun i hi => by rw [gf.1 94 (by omega) (by simp)]; exact ht i hi
      have e1 := m_byte (N := N) (K := s) hR hn g17 gt hi
      have hb := htp i hi
      have hc := of_decide_eq_true hc
      refine ⟨sm_up s 80 (sm_up (s 80) 16 (nI (i + 1))), ?_, by rw [up_s, up_s], zfm_f gf (by simp) _⟩
      by_cases h32 : tp i = 32
      · simp (disch := omega) only [f_X12_stepOn_0, kd_80, g16, e1, zl_1, zl_10, zl_32, nI_eq, nI_add, gd_t, gd_pos, lt_eq, Option.bind_some, if_pos]
      · simp (disch := omega) only [f_X12_stepOn_0, kd_80, g16, e1, zl_1, zl_10, zl_32, nI_eq, nI_add, gd_t, gd_pos, lt_eq, Option.bind_some, if_pos, if_neg])
    (n - b) b I N (by omega) (by omega) ⟨h16, zfm_refl _ _ _⟩
  obtain ⟨s, l1, l2, l3⟩ := L
  have a1 := z_sp_ge (z_bl tp) (n - b) b
  have a2 := z_sp_le (z_bl tp) (n - b) b
  have a3 := z_sp_end (c := z_bl tp) (n - b) b
  unfold z_scan
  generalize z_sp (z_bl tp) (n - b) b = a at *
  have g17 : s 80 17 = nI n := (l3.2 17 (by decide)).trans h17
  have gt : ∀ i, i < n → s 94 i = nI (tp i) := fun i hi => by rw [l3.1 94 (by omega) (by simp)]; exact ht i hi
  have g22 : s 80 22 = nI 0 := (l3.2 22 (by decide)).trans h22
  obtain ⟨X, hX⟩ : ∃ X, X = sm_up s 80 (sm_up (s 80) 20 (nI a)) := ⟨_, rfl⟩
  have xf : zfm [] zMal I X := by rw [hX]; exact zfm_f (zfm_mono l3 (by simp) (by decide)) (by decide) _
  have x17 : X 80 17 = nI n := (xf.2 17 (by decide)).trans h17
  have x22 : X 80 22 = nI 0 := (xf.2 22 (by decide)).trans h22
  have x20 : X 80 20 = nI a := by rw [hX, up_s, up_s]
  have x16 : X 80 16 = nI a := by rw [hX, up_s, up_n _ _ (by omega)]; exact l2
  have xt : ∀ i, i < n → X 94 i = nI (tp i) := fun i hi => by rw [hX, up_n _ _ (by omega)]; exact gt i hi
  unfold z_sc2
  have l1 : f_X12_stepOn N R 80 I = f_X12_stepOn_0 N R (0 + 1) 80 s := l1
  by_cases han : a < n
  · rw [if_pos han]
    have hb := htp a han
    have e1 := m_byte (N := N) (K := s) hR hn g17 gt han
    have e2 := m_byte (N := N) (K := X) hR hn x17 xt han
    have hc2 : ¬ (tp a = 32 ∨ tp a = 10) := fun h => a3 (by omega) (decide_eq_true h)
    by_cases hl : z_lt tp a = true
    · rw [if_pos hl]
      have e3 := m_letter (N := N) (R := R) (K := X) hb
      rw [if_pos (of_decide_eq_true hl)] at e3
      obtain ⟨J, j1, j2, j3⟩ := m_step76 (N := N) (I := X) hN hR hn htp han hl x17 xt x16 x20 x22
      refine ⟨J, l1.trans (Eq.trans ?_ j1), j2, zfm_trans xf j3⟩
      simp (disch := omega) only [f_X12_stepOn_0, kd_80, l2, e1, ← hX, x16, e2, e3, zl_0, zl_10, zl_32, nI_eq, zl_1, nn_m1, gd_t, gd_pos, lt_eq, Option.bind_some, if_neg, if_false]
    · rw [if_neg hl]
      have e3 := m_letter (N := N) (R := R) (K := X) hb
      rw [if_neg (fun h => hl (decide_eq_true h))] at e3
      by_cases hd : z_dg tp a = true
      · rw [if_pos hd]
        have e4 := m_digit (N := N) (R := R) (K := X) hb
        rw [if_pos (of_decide_eq_true hd)] at e4
        obtain ⟨Y, hY⟩ : ∃ Y, Y = sm_up X 80 (sm_up (X 80) 19 (nI 0)) := ⟨_, rfl⟩
        obtain ⟨J, j1, j2, j3⟩ := m_step123 (N := N) (I := Y) hN hR hn htp han hd (by rw [hY, up_s, up_n _ _ (by omega)]; exact x17) (fun i hi => by rw [hY, up_n _ _ (by omega)]; exact xt i hi) (by rw [hY, up_s, up_n _ _ (by omega)]; exact x16) (by rw [hY, up_s, up_n _ _ (by omega)]; exact x20) (by rw [hY, up_s, up_n _ _ (by omega)]; exact x22) (by rw [hY, up_s, up_s])
        have yf : zfm [] zMal X Y := by rw [hY]; exact zfm_f (zfm_refl _ _ _) (by decide) _
        refine ⟨J, l1.trans (Eq.trans ?_ j1), j2, zfm_trans xf (zfm_trans yf j3)⟩
        simp (disch := omega) only [f_X12_stepOn_0, kd_80, l2, e1, ← hX, x16, e2, e3, e4, ← hY, zl_0, zl_10, zl_32, nI_eq, zl_1, nn_m1, gd_t, gd_pos, lt_eq, Option.bind_some, if_neg, if_true, if_false]
      · rw [if_neg hd]
        have e4 := m_digit (N := N) (R := R) (K := X) hb
        rw [if_neg (fun h => hd (decide_eq_true h))] at e4
        obtain ⟨Y, hY⟩ : ∃ Y, Y = sm_up X 80 (sm_up (X 80) 16 (nI (a + 1))) := ⟨_, rfl⟩
        have yf : zfm [] zMal X Y := by rw [hY]; exact zfm_f (zfm_refl _ _ _) (by decide) _
        have e5 := m_isMark (N := N) (R := R) (K := Y) hb
        have y16 : Y 80 16 = nI (a + 1) := by rw [hY, up_s, up_s]
        have key := fun k hk => m_stend (n := n) (tp := tp) (a := a) (I := Y) (k := k) (e := a + 1) (P := (3, a, a + 1)) (by rw [hY, up_s, up_n _ _ (by omega)]; exact x17) (fun i hi => by rw [hY, up_n _ _ (by omega)]; exact xt i hi) (by rw [hY, up_s, up_n _ _ (by omega)]; exact x22) (by rw [hY, up_s, up_n _ _ (by omega)]; exact x20) y16 rfl rfl hk (fun h => absurd h (by show ¬ 3 = 1; omega))
        by_cases hm : z_mk (tp a) = true
        · rw [if_pos hm] at e5
          obtain ⟨g1, g2⟩ := key 3 (by rw [m_stk rfl]; exact if_pos hm)
          refine ⟨_, l1.trans ?_, g1, zfm_trans xf (zfm_trans yf g2)⟩
          simp (disch := omega) only [f_X12_stepOn_0, kd_80, l2, e1, ← hX, x16, e2, e3, e4, zl_1, nI_add, ← hY, e5, y16, zl_0, zl_3, zl_10, zl_32, nI_eq, zl_1, nn_m1, up_s, up_n, up_uu, gd_t, gd_pos, lt_eq, Option.bind_some, if_neg, if_true, if_false]
        · rw [if_neg hm] at e5
          obtain ⟨g1, g2⟩ := key 4 (by rw [m_stk rfl]; exact if_neg hm)
          refine ⟨_, l1.trans ?_, g1, zfm_trans xf (zfm_trans yf g2)⟩
          simp (disch := omega) only [f_X12_stepOn_0, kd_80, l2, e1, ← hX, x16, e2, e3, e4, zl_1, nI_add, ← hY, e5, y16, zl_0, zl_4, zl_10, zl_32, nI_eq, zl_1, nn_m1, up_s, up_n, up_uu, gd_t, gd_pos, lt_eq, Option.bind_some, if_neg, if_true, if_false]
  · rw [if_neg han]
    have e1 := m_byte_e (N := N) (R := R) (K := s) (i := a) hn g17 (by omega)
    have e2 := m_byte_e (N := N) (R := R) (K := X) (i := a) hn x17 (by omega)
    obtain ⟨g1, g2⟩ := m_stend (n := n) (tp := tp) (a := a) (I := X) (k := 0) (e := a) (P := (0, a, a)) x17 xt x22 x20 x16 rfl rfl rfl (fun h => absurd h (by show ¬ 0 = 1; omega))
    refine ⟨_, l1.trans ?_, g1, zfm_trans xf g2⟩
    simp (disch := omega) only [f_X12_stepOn_0, kd_80, l2, e1, ← hX, x16, e2, zl_0, zl_1, zl_10, zl_32, zn_m1, up_s, up_n, up_uu, gd_t, gd_pos, lt_eq, Option.bind_some, if_true, if_false]
end ZM
