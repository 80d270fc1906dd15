/-! ===== PURE PART: school: the class's scanner ===== -/
def zCT0 (tp : Nat → Nat) (n b : Nat) (I : Nat → Nat → Int32) : Prop := I 1 1 = nI n ∧ (∀ i, i < n → I 2 i = sm_i8 (nI (tp i))) ∧ I 1 5 = nI b ∧ I 1 8 = nI 0
def zCT (tp : Nat → Nat) (n : Nat) (P : zK) (I : Nat → Nat → Int32) : Prop := zCT0 tp n P.2.2 I ∧ I 1 3 = nI P.1 ∧ I 1 4 = nI P.2.1 ∧ (P.1 = 1 → P.2.2 - P.2.1 ≤ 4 → I 1 6 = nI (z_nv tp P.2.1 (P.2.2 - P.2.1))) ∧ (P.1 = 3 → I 1 7 = sm_i8 (nI (tp P.2.1)))
/-- only the scanner's own fields are others -/
def zCa (I J : Nat → Nat → Int32) : Prop := (∀ c, c ≠ 1 → J c = I c) ∧ ∀ f, f = 1 ∨ f = 8 ∨ f = 9 ∨ f = 10 → J 1 f = I 1 f
theorem zCa_refl (I : Nat → Nat → Int32) : zCa I I := ⟨fun _ _ => rfl, fun _ _ => rfl⟩
theorem zCa_trans {I J K : Nat → Nat → Int32} (h : zCa I J) (h2 : zCa J K) : zCa I K := ⟨fun c hc => (h2.1 c hc).trans (h.1 c hc), fun f hf => (h2.2 f hf).trans (h.2 f hf)⟩
theorem zCa_up {I J : Nat → Nat → Int32} (h : zCa I J) {f : Nat} (hf : ¬ (f = 1 ∨ f = 8 ∨ f = 9 ∨ f = 10)) (v : Int32) : zCa I (sm_up J 1 (sm_up (J 1) f v)) := ⟨fun c hc => by rw [up_n _ _ hc]; exact h.1 c hc, fun g hg => by
  rw [up_s, up_n _ _ (by omega)]
  exact h.2 g hg⟩
section ZC
variable {N : Nat} {R : Nat → Nat → Nat} {q n b a : Nat} {tp : Nat → Nat} {I : Nat → Nat → Int32}
theorem c_adv226 (hR : sR R q) (hn : n ≤ 700) (ha : a ≤ n) {e : Nat} (he : a ≤ e) (he2 : e ≤ n) (h1 : I 1 1 = nI n) (ht : ∀ i, i < n → I 2 i = sm_i8 (nI (tp i))) (h4 : I 1 4 = nI a) (h5 : I 1 5 = nI e) (h8 : I 1 8 = nI 0) (h6 : e - a ≤ 4 → I 1 6 = nI (z_nv tp a (e - a))) : ∃ J, f_X5_advance_226 N R 1 I = some ((), J) ∧ zCT tp n (if a < e then (1, a, e) else if a < n then (3, a, a + 1) else (0, a, a)) J ∧ zCa I J := by
  by_cases hae : a < e
  · rw [if_pos hae]
    refine ⟨sm_up I 1 (sm_up (I 1) 3 (nI 1)), ?_, ⟨⟨?_, ?_, ?_, ?_⟩, ?_, ?_, ?_, ?_⟩, zCa_up (zCa_refl I) (by omega) _⟩
    · simp (disch := omega) only [f_X5_advance_226, kd_1, h4, h5, zl_1, nI_leI, gd_t, gd_pos, lt_eq, if_neg]
    · rw [up_s, up_n _ _ (by omega)]
      exact h1
    · intro i hi
      rw [up_n _ _ (by omega)]
      exact ht i hi
    · rw [up_s, up_n _ _ (by omega)]
      exact h5
    · rw [up_s, up_n _ _ (by omega)]
      exact h8
    · rw [up_s, up_s]
    · rw [up_s, up_n _ _ (by omega)]
      exact h4
    · intro _ h9
      rw [up_s, up_n _ _ (by omega)]
      exact h6 h9
    · intro h9
      exact absurd h9 (by show ¬ 1 = 3; omega)
  · rw [if_neg hae]
    obtain rfl : e = a := by omega
    by_cases hn2 : e < n
    · rw [if_pos hn2]
      have hx := ht e hn2
      refine ⟨sm_up I 1 (sm_up (sm_up (sm_up (I 1) 3 (nI 3)) 7 (sm_i8 (nI (tp e)))) 5 (nI (e + 1))), ?_, ⟨⟨?_, ?_, ?_, ?_⟩, ?_, ?_, ?_, ?_⟩, ⟨fun c hc => up_n _ _ hc, fun f hf => by rw [up_s, up_n _ _ (by omega), up_n _ _ (by omega), up_n _ _ (by omega)]⟩⟩
      · simp (disch := omega) only [f_X5_advance_226, kd_1, kd_2, r1_0 hR, h1, h4, h5, hx, zl_0, zl_1, zl_3, nI_leI, nI_ltI, nI_add, nI_clamp, up_s, up_n, up_uu, gd_t, gd_pos, lt_eq, Option.bind_some, true_and, and_true, not_true, not_false_iff, false_or, or_false, if_true, if_false, if_pos, if_neg]
      · rw [up_s, up_n _ _ (by omega), up_n _ _ (by omega), up_n _ _ (by omega)]
        exact h1
      · intro i hi
        rw [up_n _ _ (by omega)]
        exact ht i hi
      · rw [up_s, up_s]
      · rw [up_s, up_n _ _ (by omega), up_n _ _ (by omega), up_n _ _ (by omega)]
        exact h8
      · rw [up_s, up_n _ _ (by omega), up_n _ _ (by omega), up_s]
      · rw [up_s, up_n _ _ (by omega), up_n _ _ (by omega), up_n _ _ (by omega)]
        exact h4
      · intro h9
        exact absurd h9 (by show ¬ 3 = 1; omega)
      · intro _
        rw [up_s, up_n _ _ (by omega), up_s]
    · rw [if_neg hn2]
      refine ⟨sm_up I 1 (sm_up (I 1) 3 (nI 0)), ?_, ⟨⟨?_, ?_, ?_, ?_⟩, ?_, ?_, ?_, ?_⟩, zCa_up (zCa_refl I) (by omega) _⟩
      · simp (disch := omega) only [f_X5_advance_226, kd_1, h1, h4, h5, zl_0, nI_leI, nI_ltI, gd_t, gd_pos, lt_eq, if_pos, if_neg]
      · rw [up_s, up_n _ _ (by omega)]
        exact h1
      · intro i hi
        rw [up_n _ _ (by omega)]
        exact ht i hi
      · rw [up_s, up_n _ _ (by omega)]
        exact h5
      · rw [up_s, up_n _ _ (by omega)]
        exact h8
      · rw [up_s, up_s]
      · rw [up_s, up_n _ _ (by omega)]
        exact h4
      · intro h9
        exact absurd h9 (by show ¬ 0 = 1; omega)
      · intro h9
        exact absurd h9 (by show ¬ 0 = 3; omega)
theorem c_adv150 (hN : 5000 ≤ N) (hR : sR R q) (hn : n ≤ 700) (htp : ∀ i, i < n → tp i < 256) (ha : a ≤ n) (h1 : I 1 1 = nI n) (ht : ∀ i, i < n → I 2 i = sm_i8 (nI (tp i))) (h4 : I 1 4 = nI a) (h5 : I 1 5 = nI a) (h8 : I 1 8 = nI 0) (h6 : I 1 6 = nI 0) : ∃ J, f_X5_advance_150 N R N 1 I = some ((), J) ∧ zCT tp n (if a < z_sp (z_dg tp) (n - a) a then (1, a, z_sp (z_dg tp) (n - a) a) else if a < n then (3, a, a + 1) else (0, a, a)) J ∧ zCa I J := by
  have L := zsp_loop (fun m _ s => f_X5_advance_150 N R m 1 s) (fun _ s => f_X5_advance_226 N R 1 s) (z_dg tp) (fun i s => s 1 5 = nI i ∧ s 1 4 = nI a ∧ (i - a ≤ 4 → s 1 6 = nI (z_nv tp a (i - a))) ∧ a ≤ i ∧ (∀ j, a ≤ j → j < i → z_dg tp j = true) ∧ zCa I s) n
    (fun m i s hi hs hc => by
      obtain ⟨g5, g4, g6, ga, gd, gf⟩ := hs
      have g1 : s 1 1 = nI n := (gf.2 1 (by omega)).trans h1
      rcases hc with hc | hc
      · simp (disch := omega) only [f_X5_advance_150, kd_1, g1, g5, nI_leI, gd_t, gd_pos, if_pos]
      · by_cases hin : i = n
        · simp (disch := omega) only [f_X5_advance_150, kd_1, g1, g5, nI_leI, gd_t, gd_pos, if_pos]
        · have gx : s 2 i = sm_i8 (nI (tp i)) := by rw [gf.1 2 (by omega)]; exact ht i (by omega)
          have hb := htp i (by omega)
          have hc : ¬ (48 ≤ tp i ∧ tp i ≤ 57) := fun h => hc (decide_eq_true h)
          by_cases h48 : tp i < 48 ∨ 128 ≤ tp i
          · simp (disch := omega) only [f_X5_advance_150, kd_1, kd_2, r1_0 hR, g1, g5, gx, zl_0, zl_48, zl_57, z_i8lt, z_i8gt, nI_leI, nI_ltI, nI_clamp, gd_t, gd_pos, lt_eq, Option.bind_some, true_and, and_true, not_true, not_false_iff, false_or, or_false, if_true, if_false, if_pos, if_neg]
          · simp (disch := omega) only [f_X5_advance_150, kd_1, kd_2, r1_0 hR, g1, g5, gx, zl_0, zl_48, zl_57, z_i8lt, z_i8gt, nI_leI, nI_ltI, nI_clamp, gd_t, gd_pos, lt_eq, Option.bind_some, true_and, and_true, not_true, not_false_iff, false_or, or_false, if_true, if_false, if_pos, if_neg])
    (fun m i s hi hc hs => by
      obtain ⟨g5, g4, g6, ga, gd, gf⟩ := hs
      have g1 : s 1 1 = nI n := (gf.2 1 (by omega)).trans h1
      have hb := htp i hi
      have hcd := of_decide_eq_true hc
      have gx : s 2 i = nI (tp i) := by
        rw [gf.1 2 (by omega), ht i hi]
        exact z_i8a _ (by omega)
      obtain ⟨v, hv⟩ : ∃ v : Int32, v = s 1 6 * nI 10 + nI (tp i) - nI 48 := ⟨_, rfl⟩
      refine ⟨sm_up s 1 (sm_up (sm_up (s 1) 6 v) 5 (nI (i + 1))), ?_, by rw [up_s, up_s], by rw [up_s, up_n _ _ (by omega), up_n _ _ (by omega)]; exact g4, fun h9 => ?_, by omega, fun j h10 h11 => ?_, ?_⟩
      · simp (disch := omega) only [f_X5_advance_150, kd_1, kd_2, r1_0 hR, g1, g5, gx, zl_0, zl_1, zl_10, zl_48, zl_57, ← hv, nI_leI, nI_ltI, nI_add, nI_clamp, up_s, up_n, up_uu, gd_t, gd_pos, lt_eq, Option.bind_some, true_and, and_true, not_true, not_false_iff, false_or, or_false, if_true, if_false, if_pos, if_neg]
      · rw [up_s, up_n _ _ (by omega), up_s, hv, g6 (by omega)]
        have h3 := z_nv_4 (tp := tp) (a := a) (j := i - a) (by omega) (fun j h1 h2 => gd j h1 (by omega))
        have e : z_nv tp a (i + 1 - a) = z_nv tp a (i - a) * 10 + (tp i - 48) := by
          rw [show i + 1 - a = (i - a) + 1 by omega]
          show z_nv tp a (i - a) * 10 + (tp (a + (i - a)) - 48) = _
          rw [show a + (i - a) = i by omega]
        rw [e, pk_mul, nI_add, pk_sub (by omega)]
        congr 1
        omega
      · by_cases e : j = i
        · rw [e]
          exact hc
        · exact gd j h10 (by omega)
      · refine ⟨fun c h => by rw [up_n _ _ h]; exact gf.1 c h, fun f hf => ?_⟩
        rw [up_s, up_n _ _ (by omega), up_n _ _ (by omega)]
        exact gf.2 f hf)
    (n - a) a I N (by omega) (by omega) ⟨h5, h4, fun _ => by rw [Nat.sub_self]; exact h6, Nat.le_refl _, fun j h1 h2 => by omega, zCa_refl I⟩
  obtain ⟨s, l1, l2, l3, l4, l5, l6, l7⟩ := L
  have h9 := z_sp_le (z_dg tp) (n - a) a
  obtain ⟨J, j1, j2, j3⟩ := c_adv226 (N := N) (I := s) hR hn ha l5 (by omega) ((l7.2 1 (by omega)).trans h1) (fun i hi => by rw [l7.1 2 (by omega)]; exact ht i hi) l3 l2 ((l7.2 8 (by omega)).trans h8) l4
  exact ⟨J, l1.trans j1, j2, zCa_trans l7 j3⟩
theorem c_adv128 (hN : 5000 ≤ N) (hR : sR R q) (hn : n ≤ 700) (htp : ∀ i, i < n → tp i < 256) (ha : a ≤ n) {e : Nat} (he : e = z_sp (z_lt tp) (n - a) a) (h1 : I 1 1 = nI n) (ht : ∀ i, i < n → I 2 i = sm_i8 (nI (tp i))) (h4 : I 1 4 = nI a) (h5 : I 1 5 = nI e) (h8 : I 1 8 = nI 0) : ∃ J, f_X5_advance_128 N R 1 I = some ((), J) ∧ zCT tp n (z_sc2 tp n a) J ∧ zCa I J := by
  have e1 := z_sp_ge (z_lt tp) (n - a) a
  have e2 := z_sp_le (z_lt tp) (n - a) a
  unfold z_sc2
  by_cases hl : a < n ∧ z_lt tp a = true
  · have h3 := z_sp_gt hl.2 (show 0 < n - a by omega)
    rw [if_pos hl.1, if_pos hl.2, ← he]
    refine ⟨sm_up I 1 (sm_up (I 1) 3 (nI 2)), ?_, ⟨⟨?_, ?_, ?_, ?_⟩, ?_, ?_, ?_, ?_⟩, zCa_up (zCa_refl I) (by omega) _⟩
    · simp (disch := omega) only [f_X5_advance_128, kd_1, h4, h5, zl_2, nI_leI, gd_t, gd_pos, lt_eq, if_neg]
    · rw [up_s, up_n _ _ (by omega)]
      exact h1
    · intro i hi
      rw [up_n _ _ (by omega)]
      exact ht i hi
    · rw [up_s, up_n _ _ (by omega)]
      exact h5
    · rw [up_s, up_n _ _ (by omega)]
      exact h8
    · rw [up_s, up_s]
    · rw [up_s, up_n _ _ (by omega)]
      exact h4
    · intro h9
      exact absurd h9 (by show ¬ 2 = 1; omega)
    · intro h9
      exact absurd h9 (by show ¬ 2 = 3; omega)
  · have e3 : z_sp (z_lt tp) (n - a) a = a := z_sp_0 (by
      by_cases h : a < n
      · exact Or.inr (fun h2 => hl ⟨h, h2⟩)
      · exact Or.inl (by omega))
    rw [e3] at he
    rw [he] at h5
    obtain ⟨J, j1, j2, j3⟩ := c_adv150 (N := N) (I := sm_up I 1 (sm_up (I 1) 6 (nI 0))) hN hR hn htp ha (by rw [up_s, up_n _ _ (by omega)]; exact h1) (fun i hi => by rw [up_n _ _ (by omega)]; exact ht i hi) (by rw [up_s, up_n _ _ (by omega)]; exact h4) (by rw [up_s, up_n _ _ (by omega)]; exact h5) (by rw [up_s, up_n _ _ (by omega)]; exact h8) (by rw [up_s, up_s])
    refine ⟨J, Eq.trans ?_ j1, ?_, zCa_trans (zCa_up (zCa_refl I) (by omega) _) j3⟩
    · simp (disch := omega) only [f_X5_advance_128, kd_1, h4, h5, zl_0, nI_leI, gd_t, gd_pos, lt_eq, if_pos]
    · by_cases hd : a < n ∧ z_dg tp a = true
      · have h3 := z_sp_gt hd.2 (show 0 < n - a by omega)
        rw [if_pos h3] at j2
        rw [if_pos hd.1, if_neg (fun h => hl ⟨hd.1, h⟩), if_pos hd.2]
        exact j2
      · have e4 : z_sp (z_dg tp) (n - a) a = a := z_sp_0 (by
          by_cases h : a < n
          · exact Or.inr (fun h2 => hd ⟨h, h2⟩)
          · exact Or.inl (by omega))
        rw [e4, if_neg (by omega)] at j2
        by_cases h : a < n
        · rw [if_pos h] at j2
          rw [if_pos h, if_neg (fun h2 => hl ⟨h, h2⟩), if_neg (fun h2 => hd ⟨h, h2⟩)]
          exact j2
        · rw [if_neg h] at j2
          rw [if_neg h]
          exact j2
theorem c_adv (hN : 5000 ≤ N) (hR : sR R q) (hn : n ≤ 700) (htp : ∀ i, i < n → tp i < 256) (hb : b ≤ n) (h : zCT0 tp n b I) : ∃ J, f_X5_advance N R 1 I = some ((), J) ∧ zCT tp n (z_scan tp n b) J ∧ zCa I J := by
  obtain ⟨h1, ht, h5, h8⟩ := h
  have L := zsp_loop (fun m _ s => f_X5_advance_16 N R m 1 s) (fun i s => f_X5_advance_76 N R N 1 (sm_up s 1 (sm_up (s 1) 5 (nI i)))) (z_bl tp) (fun i s => s 1 4 = nI i ∧ zCa I s) n
    (fun m i s hi hs hc => by
      obtain ⟨g4, gf⟩ := hs
      have g1 : s 1 1 = nI n := (gf.2 1 (by omega)).trans h1
      by_cases hin : i = n
      · simp (disch := omega) only [f_X5_advance_16, kd_1, g1, g4, nI_leI, gd_t, gd_pos, lt_eq, if_pos]
      · have hc2 : ¬ z_bl tp i = true := by
          rcases hc with hc | hc
          · exact absurd hc hin
          · exact hc
        have gx : s 2 i = sm_i8 (nI (tp i)) := by rw [gf.1 2 (by omega)]; exact ht i (by omega)
        have hb := htp i (by omega)
        have hc : ¬ (tp i = 32 ∨ tp i = 10) := fun h => hc2 (decide_eq_true h)
        simp (disch := omega) only [f_X5_advance_16, kd_1, kd_2, r1_0 hR, g1, g4, gx, zl_0, zl_10, zl_32, z_i8eq, nI_leI, nI_ltI, nI_clamp, gd_t, gd_pos, lt_eq, Option.bind_some, true_and, and_true, not_true, not_false_iff, false_or, or_false, if_true, if_false, if_pos, if_neg])
    (fun m i s hi hc hs => by
      obtain ⟨g4, gf⟩ := hs
      have g1 : s 1 1 = nI n := (gf.2 1 (by omega)).trans h1
      have gx : s 2 i = sm_i8 (nI (tp i)) := by rw [gf.1 2 (by omega)]; exact ht i hi
      have hb := htp i hi
      have hc := of_decide_eq_true hc
      refine ⟨sm_up s 1 (sm_up (s 1) 4 (nI (i + 1))), ?_, by rw [up_s, up_s], zCa_up gf (by omega) _⟩
      by_cases h32 : tp i = 32
      · simp (disch := omega) only [f_X5_advance_16, kd_1, kd_2, r1_0 hR, g1, g4, gx, zl_0, zl_1, zl_10, zl_32, z_i8eq, nI_leI, nI_ltI, nI_add, nI_clamp, gd_t, gd_pos, lt_eq, Option.bind_some, true_and, and_true, not_true, not_false_iff, false_or, or_false, if_true, if_false, if_pos, if_neg]
      · simp (disch := omega) only [f_X5_advance_16, kd_1, kd_2, r1_0 hR, g1, g4, gx, zl_0, zl_1, zl_10, zl_32, z_i8eq, nI_leI, nI_ltI, nI_add, nI_clamp, gd_t, gd_pos, lt_eq, Option.bind_some, true_and, and_true, not_true, not_false_iff, false_or, or_false, if_true, if_false, if_pos, if_neg])
    (n - b) b (sm_up I 1 (sm_up (I 1) 4 (nI b))) N (by omega) (by omega) ⟨by rw [up_s, up_s], zCa_up (zCa_refl I) (by omega) _⟩
  obtain ⟨s, l1, l2, l3⟩ := L
  have a1 := z_sp_ge (z_bl tp) (n - b) b
  have a2 := z_sp_le (z_bl tp) (n - b) b
  unfold z_scan
  generalize z_sp (z_bl tp) (n - b) b = a at *
  obtain ⟨Y, hY⟩ : ∃ Y, Y = sm_up s 1 (sm_up (s 1) 5 (nI a)) := ⟨_, rfl⟩
  have yf : zCa I Y := by rw [hY]; exact zCa_up l3 (by omega) _
  have L2 := zsp_loop (fun m _ s => f_X5_advance_76 N R m 1 s) (fun _ s => f_X5_advance_128 N R 1 s) (z_lt tp) (fun i s => s 1 5 = nI i ∧ s 1 4 = nI a ∧ zCa I s) n
    (fun m i s hi hs hc => by
      obtain ⟨g5, g4, gf⟩ := hs
      have g1 : s 1 1 = nI n := (gf.2 1 (by omega)).trans h1
      by_cases hin : i = n
      · simp (disch := omega) only [f_X5_advance_76, kd_1, g1, g5, nI_leI, gd_t, gd_pos, if_pos]
      · have hc2 : ¬ z_lt tp i = true := by
          rcases hc with hc | hc
          · exact absurd hc hin
          · exact hc
        have gx : s 2 i = sm_i8 (nI (tp i)) := by rw [gf.1 2 (by omega)]; exact ht i (by omega)
        have hb := htp i (by omega)
        have hc : ¬ (97 ≤ tp i ∧ tp i ≤ 122) := fun h => hc2 (decide_eq_true h)
        by_cases h48 : tp i < 97 ∨ 128 ≤ tp i
        · simp (disch := omega) only [f_X5_advance_76, kd_1, kd_2, r1_0 hR, g1, g5, gx, zl_0, zl_97, zl_122, z_i8lt, z_i8gt, nI_leI, nI_ltI, nI_clamp, gd_t, gd_pos, lt_eq, Option.bind_some, true_and, and_true, not_true, not_false_iff, false_or, or_false, if_true, if_false, if_pos, if_neg]
        · simp (disch := omega) only [f_X5_advance_76, kd_1, kd_2, r1_0 hR, g1, g5, gx, zl_0, zl_97, zl_122, z_i8lt, z_i8gt, nI_leI, nI_ltI, nI_clamp, gd_t, gd_pos, lt_eq, Option.bind_some, true_and, and_true, not_true, not_false_iff, false_or, or_false, if_true, if_false, if_pos, if_neg])
    (fun m i s hi hc hs => by
      obtain ⟨g5, g4, gf⟩ := hs
      have g1 : s 1 1 = nI n := (gf.2 1 (by omega)).trans h1
      have gx : s 2 i = sm_i8 (nI (tp i)) := by rw [gf.1 2 (by omega)]; exact ht i hi
      have hb := htp i hi
      have hc := of_decide_eq_true hc
      refine ⟨sm_up s 1 (sm_up (s 1) 5 (nI (i + 1))), ?_, by rw [up_s, up_s], by rw [up_s, up_n _ _ (by omega)]; exact g4, zCa_up gf (by omega) _⟩
      simp (disch := omega) only [f_X5_advance_76, kd_1, kd_2, r1_0 hR, g1, g5, gx, zl_0, zl_1, zl_97, zl_122, z_i8lt, z_i8gt, nI_leI, nI_ltI, nI_add, nI_clamp, gd_t, gd_pos, lt_eq, Option.bind_some, true_and, and_true, not_true, not_false_iff, false_or, or_false, if_true, if_false, if_pos, if_neg])
    (n - a) a Y N (by omega) (by omega) ⟨by rw [hY, up_s, up_s], by rw [hY, up_s, up_n _ _ (by omega)]; exact l2, yf⟩
  obtain ⟨s2, m1, m2, m3, m4⟩ := L2
  obtain ⟨J, j1, j2, j3⟩ := c_adv128 (N := N) (I := s2) hN hR hn htp (show a ≤ n by omega) rfl ((m4.2 1 (by omega)).trans h1) (fun i hi => by rw [m4.1 2 (by omega)]; exact ht i hi) m3 m2 ((m4.2 8 (by omega)).trans h8)
  refine ⟨J, ?_, j2, zCa_trans m4 j3⟩
  refine Eq.trans ?_ (m1.trans j1)
  rw [hY]
  refine Eq.trans ?_ l1
  simp (disch := omega) only [f_X5_advance, kd_1, h5, h8, zl_0, gd_t, gd_pos, lt_eq, if_true]
end ZC
