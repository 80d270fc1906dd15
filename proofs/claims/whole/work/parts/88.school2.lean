/-! ===== PURE PART: school: the model takes over ===== -/
section ZM
variable {N : Nat} {R : Nat → Nat → Nat} {q nu : Nat} {I K : Nat → Nat → Int32}
theorem m_half (hN : 5000 ≤ N) {c n hf : Nat} (hc : sm_kd c = (13, n)) (hn : n = 2 * hf) (hf7 : hf ≤ 700) (h8 : c ≠ 80) : ∃ J, f_X12_takeHalf N R c I = some ((), J) ∧ (∀ j, j < hf → J c j = I c (hf + j)) ∧ (∀ j, hf ≤ j → J c j = I c j) ∧ zfm [c] [] I J := by
  have hd : nI n / nI 2 = nI hf := by
    rw [nI_div (by omega) (by omega)]
    congr 1
    omega
  have L := zm_loop (fun k i s => f_X12_takeHalf_2 N R k c (nI i) s) (fun i s => (∀ j, j < i → s c j = I c (hf + j)) ∧ (∀ j, i ≤ j → s c j = I c j) ∧ zfm [c] [] I s) (fun y => y.1 = () ∧ (∀ j, j < hf → y.2 c j = I c (hf + j)) ∧ (∀ j, hf ≤ j → y.2 c j = I c j) ∧ zfm [c] [] I y.2) hf
    (fun k s hs => ⟨((), s), by simp (disch := omega) only [f_X12_takeHalf_2, hc, zl_2, zl_ofNat, hd, nI_leI, gd_t, gd_pos, if_pos], rfl, hs⟩)
    (fun k i s hi hs => by
      obtain ⟨h1, h2, h3⟩ := hs
      have g := h2 (hf + i) (by omega)
      refine ⟨sm_up s c (sm_up (s c) i (I c (hf + i))), ?_, fun j hj => ?_, fun j hj => ?_, zfm_up h3 (by simp) h8 _⟩
      · simp (disch := omega) only [f_X12_takeHalf_2, hc, g, zl_0, zl_1, zl_2, zl_ofNat, hd, nI_leI, nI_ltI, nI_add, nI_clamp, gd_t, gd_pos, lt_eq, Option.bind_some, true_and, and_true, not_true, not_false_iff, false_or, or_false, if_true, if_false, if_pos, if_neg]
      · rw [up_s]
        by_cases e : j = i
        · rw [e, up_s]
        · rw [up_n _ _ e]
          exact h1 j (by omega)
      · rw [up_s, up_n _ _ (by omega)]
        exact h2 j (by omega)) hf 0 I N (by omega) (by omega) ⟨fun j hj => absurd hj (Nat.not_lt_zero j), fun _ _ => rfl, zfm_refl _ _ _⟩
  obtain ⟨⟨u, J⟩, l1, l2, l3⟩ := L
  refine ⟨J, ?_, l3⟩
  refine Eq.trans ?_ l1
  simp (disch := omega) only [f_X12_takeHalf, zl_0]
theorem m_to80 (hN : 5000 ≤ N) (hR : sR R q) (h7 : nu ≤ 7) (hnu : I 84 1 = nI nu) : ∃ J, f_X12_takeOver_80 N R N 80 (nI 0) I = some ((), J) ∧ (∀ p, p < nu → J 95 p = I 89 p ∧ J 96 p = I 90 p ∧ J 97 p = I 91 p ∧ J 98 p = nI 0 ∧ J 99 p = nI 0) ∧ (J 80 33 = nI 0 ∧ J 80 34 = nI 0 ∧ J 80 50 = nI 0) ∧ zfm [95, 96, 97, 98, 99] [33, 34, 50] I J := by
  have L := zm_loop (fun k p s => f_X12_takeOver_80 N R k 80 (nI p) s) (fun p s => (∀ p', p' < p → p' < nu → s 95 p' = I 89 p' ∧ s 96 p' = I 90 p' ∧ s 97 p' = I 91 p' ∧ s 98 p' = nI 0 ∧ s 99 p' = nI 0) ∧ zfm [95, 96, 97, 98, 99] [] I s) (fun y => y.1 = () ∧ (∀ p, p < nu → y.2 95 p = I 89 p ∧ y.2 96 p = I 90 p ∧ y.2 97 p = I 91 p ∧ y.2 98 p = nI 0 ∧ y.2 99 p = nI 0) ∧ (y.2 80 33 = nI 0 ∧ y.2 80 34 = nI 0 ∧ y.2 80 50 = nI 0) ∧ zfm [95, 96, 97, 98, 99] [33, 34, 50] I y.2) 7
    (fun k s hs => by
      obtain ⟨h1, h2⟩ := hs
      refine ⟨((), sm_up s 80 (sm_up (sm_up (sm_up (s 80) 33 (nI 0)) 34 (nI 0)) 50 (nI 0))), ?_, rfl, fun p hp => ?_, ⟨?_, ?_, ?_⟩, ?_⟩
      · simp (disch := omega) only [f_X12_takeOver_80, kd_80, zl_0, zl_7, nI_leI, up_s, up_uu, gd_t, gd_pos, lt_eq, if_pos]
      · show sm_up s 80 (sm_up (sm_up (sm_up (s 80) 33 (nI 0)) 34 (nI 0)) 50 (nI 0)) 95 p = I 89 p ∧ sm_up s 80 (sm_up (sm_up (sm_up (s 80) 33 (nI 0)) 34 (nI 0)) 50 (nI 0)) 96 p = I 90 p ∧ sm_up s 80 (sm_up (sm_up (sm_up (s 80) 33 (nI 0)) 34 (nI 0)) 50 (nI 0)) 97 p = I 91 p ∧ sm_up s 80 (sm_up (sm_up (sm_up (s 80) 33 (nI 0)) 34 (nI 0)) 50 (nI 0)) 98 p = nI 0 ∧ sm_up s 80 (sm_up (sm_up (sm_up (s 80) 33 (nI 0)) 34 (nI 0)) 50 (nI 0)) 99 p = nI 0
        rw [up_n _ _ (show (95:Nat) ≠ 80 by omega), up_n _ _ (show (96:Nat) ≠ 80 by omega), up_n _ _ (show (97:Nat) ≠ 80 by omega), up_n _ _ (show (98:Nat) ≠ 80 by omega), up_n _ _ (show (99:Nat) ≠ 80 by omega)]
        exact h1 p (by omega) hp
      · show sm_up s 80 (sm_up (sm_up (sm_up (s 80) 33 (nI 0)) 34 (nI 0)) 50 (nI 0)) 80 33 = nI 0
        rw [up_s, up_n _ _ (by omega), up_n _ _ (by omega), up_s]
      · show sm_up s 80 (sm_up (sm_up (sm_up (s 80) 33 (nI 0)) 34 (nI 0)) 50 (nI 0)) 80 34 = nI 0
        rw [up_s, up_n _ _ (by omega), up_s]
      · show sm_up s 80 (sm_up (sm_up (sm_up (s 80) 33 (nI 0)) 34 (nI 0)) 50 (nI 0)) 80 50 = nI 0
        rw [up_s, up_s]
      · have g := zfm_f (zfm_f (zfm_f (zfm_mono (F := []) (E := [33, 34, 50]) h2 (fun _ h => h) (by simp)) (i := 33) (by simp) (nI 0)) (i := 34) (by simp) (nI 0)) (i := 50) (by simp) (nI 0)
        simp (disch := omega) only [up_s, up_uu] at g
        exact g)
    (fun k p s hp hs => by
      obtain ⟨h1, h2⟩ := hs
      have g84 : s 84 1 = nI nu := by rw [h2.1 84 (by omega) (by simp)]; exact hnu
      have g89 : s 89 p = I 89 p := by rw [h2.1 89 (by omega) (by simp)]
      have g90 : s 90 p = I 90 p := by rw [h2.1 90 (by omega) (by simp)]
      have g91 : s 91 p = I 91 p := by rw [h2.1 91 (by omega) (by simp)]
      have fin : ∀ (a b e : Int32), (p < nu → a = I 89 p ∧ b = I 90 p ∧ e = I 91 p) → ∀ s', s' = sm_up (sm_up (sm_up (sm_up (sm_up s 95 (sm_up (s 95) p a)) 96 (sm_up (s 96) p b)) 97 (sm_up (s 97) p e)) 98 (sm_up (s 98) p (nI 0))) 99 (sm_up (s 99) p (nI 0)) → (∀ p', p' < p + 1 → p' < nu → s' 95 p' = I 89 p' ∧ s' 96 p' = I 90 p' ∧ s' 97 p' = I 91 p' ∧ s' 98 p' = nI 0 ∧ s' 99 p' = nI 0) ∧ zfm [95, 96, 97, 98, 99] [] I s' := fun a b e hab s' hs' => by
        refine ⟨fun p' hp' hn' => ?_, ?_⟩
        · rw [hs']
          by_cases e2 : p' = p
          · subst e2
            obtain ⟨x1, x2, x3⟩ := hab hn'
            simp (disch := omega) only [up_s, up_n, x1, x2, x3, and_self]
          · have := h1 p' (by omega) hn'
            simp (disch := omega) only [up_s, up_n]
            exact this
        · rw [hs']
          exact zfm_up (zfm_up (zfm_up (zfm_up (zfm_up h2 (by simp) (by omega) _) (by simp) (by omega) _) (by simp) (by omega) _) (by simp) (by omega) _) (by simp) (by omega) _
      by_cases hc : p < nu
      · refine ⟨_, ?_, fin (I 89 p) (I 90 p) (I 91 p) (fun _ => ⟨rfl, rfl, rfl⟩) _ rfl⟩
        simp (disch := omega) only [f_X12_takeOver_80, f_X12_takeOver_101, f_X12_takeOver_121, f_X12_takeOver_141, kd_80, r80_4 hR, kd_84, r80_9 hR, kd_89, r80_10 hR, kd_90, r80_11 hR, kd_91, r80_25 hR, kd_95, r80_26 hR, kd_96, r80_27 hR, kd_97, r80_28 hR, kd_98, r80_29 hR, kd_99, g84, g89, g90, g91, zl_0, zl_1, zl_7, nI_leI, nI_ltI, nI_eq, nI_add, nI_clamp, up_n, gd_t, gd_pos, lt_eq, Option.bind_some, true_and, and_true, not_true, not_false_iff, false_or, or_false, if_true, if_false, if_pos, if_neg]
      · refine ⟨_, ?_, fin (nI 0) (nI 0) (nI 0) (fun h => absurd h hc) _ rfl⟩
        simp (disch := omega) only [f_X12_takeOver_80, f_X12_takeOver_101, f_X12_takeOver_121, f_X12_takeOver_141, kd_80, r80_4 hR, kd_84, r80_25 hR, kd_95, r80_26 hR, kd_96, r80_27 hR, kd_97, r80_28 hR, kd_98, r80_29 hR, kd_99, g84, zl_0, zl_1, zl_7, nI_leI, nI_ltI, nI_add, nI_clamp, up_n, gd_t, gd_pos, lt_eq, Option.bind_some, true_and, and_true, not_true, not_false_iff, false_or, or_false, if_true, if_false, if_pos, if_neg]) 7 0 I N (by omega) (by omega) ⟨fun p' h => absurd h (Nat.not_lt_zero p'), zfm_refl _ _ _⟩
  obtain ⟨⟨u, J⟩, l1, l2, l3⟩ := L
  exact ⟨J, l1, l3⟩
def zTo : List Nat := [84, 85, 86, 87, 88, 89, 90, 91, 92, 95, 96, 97, 98, 99]
theorem m_takeOver (hN : 5000 ≤ N) (hR : sR R q) (h7 : nu ≤ 7) (hnu : K 84 5 = nI nu) : ∃ L, f_X12_takeOver N R 80 K = some ((), L) ∧ (∀ j, j < 4 → L 84 j = K 84 (4 + j)) ∧ (∀ j, j < 6 → L 85 j = K 85 (6 + j)) ∧ (∀ j, j < 6 → L 86 j = K 86 (6 + j)) ∧ (∀ j, j < 48 → L 87 j = K 87 (48 + j)) ∧ (∀ j, j < 7 → L 88 j = K 88 (7 + j)) ∧ (∀ j, j < 700 → L 92 j = K 92 (700 + j)) ∧ (∀ p, p < nu → L 95 p = K 89 (7 + p) ∧ L 96 p = K 90 (7 + p) ∧ L 97 p = K 91 (7 + p) ∧ L 98 p = nI 0 ∧ L 99 p = nI 0) ∧ (L 80 31 = nI 0 ∧ L 80 32 = K 84 6 ∧ L 80 33 = nI 0 ∧ L 80 34 = nI 0 ∧ L 80 50 = nI 0) ∧ zfm zTo [31, 32, 33, 34, 50] K L := by
  obtain ⟨A1, a1, a2, -, a3⟩ := m_half (N := N) (R := R) (I := K) (c := 84) (hf := 4) hN kd_84 (by omega) (by omega) (by omega)
  obtain ⟨A2, b1, b2, -, b3⟩ := m_half (N := N) (R := R) (I := A1) (c := 85) (hf := 6) hN kd_85 (by omega) (by omega) (by omega)
  obtain ⟨A3, c1, c2, -, c3⟩ := m_half (N := N) (R := R) (I := A2) (c := 86) (hf := 6) hN kd_86 (by omega) (by omega) (by omega)
  obtain ⟨A4, d1, d2, -, d3⟩ := m_half (N := N) (R := R) (I := A3) (c := 87) (hf := 48) hN kd_87 (by omega) (by omega) (by omega)
  obtain ⟨A5, e1, e2, -, e3⟩ := m_half (N := N) (R := R) (I := A4) (c := 88) (hf := 7) hN kd_88 (by omega) (by omega) (by omega)
  obtain ⟨A6, f1, f2, -, f3⟩ := m_half (N := N) (R := R) (I := A5) (c := 89) (hf := 7) hN kd_89 (by omega) (by omega) (by omega)
  obtain ⟨A7, g1, g2, -, g3⟩ := m_half (N := N) (R := R) (I := A6) (c := 90) (hf := 7) hN kd_90 (by omega) (by omega) (by omega)
  obtain ⟨A8, h1, h2, -, h3⟩ := m_half (N := N) (R := R) (I := A7) (c := 91) (hf := 7) hN kd_91 (by omega) (by omega) (by omega)
  obtain ⟨A9, i1, i2, -, i3⟩ := m_half (N := N) (R := R) (I := A8) (c := 92) (hf := 700) hN kd_92 (by omega) (by omega) (by omega)
  have s1 : ∀ c, c ≠ 80 → c ≠ 84 → A1 c = K c := fun c x y => a3.1 c x (by simp; omega)
  have s2 : ∀ c, c ≠ 80 → c ≠ 85 → A2 c = A1 c := fun c x y => b3.1 c x (by simp; omega)
  have s3 : ∀ c, c ≠ 80 → c ≠ 86 → A3 c = A2 c := fun c x y => c3.1 c x (by simp; omega)
  have s4 : ∀ c, c ≠ 80 → c ≠ 87 → A4 c = A3 c := fun c x y => d3.1 c x (by simp; omega)
  have s5 : ∀ c, c ≠ 80 → c ≠ 88 → A5 c = A4 c := fun c x y => e3.1 c x (by simp; omega)
  have s6 : ∀ c, c ≠ 80 → c ≠ 89 → A6 c = A5 c := fun c x y => f3.1 c x (by simp; omega)
  have s7 : ∀ c, c ≠ 80 → c ≠ 90 → A7 c = A6 c := fun c x y => g3.1 c x (by simp; omega)
  have s8 : ∀ c, c ≠ 80 → c ≠ 91 → A8 c = A7 c := fun c x y => h3.1 c x (by simp; omega)
  have s9 : ∀ c, c ≠ 80 → c ≠ 92 → A9 c = A8 c := fun c x y => i3.1 c x (by simp; omega)
  have q84 : A9 84 = A1 84 := by rw [s9 84 (by omega) (by omega), s8 84 (by omega) (by omega), s7 84 (by omega) (by omega), s6 84 (by omega) (by omega), s5 84 (by omega) (by omega), s4 84 (by omega) (by omega), s3 84 (by omega) (by omega), s2 84 (by omega) (by omega)]
  have q85 : A9 85 = A2 85 := by rw [s9 85 (by omega) (by omega), s8 85 (by omega) (by omega), s7 85 (by omega) (by omega), s6 85 (by omega) (by omega), s5 85 (by omega) (by omega), s4 85 (by omega) (by omega), s3 85 (by omega) (by omega)]
  have q86 : A9 86 = A3 86 := by rw [s9 86 (by omega) (by omega), s8 86 (by omega) (by omega), s7 86 (by omega) (by omega), s6 86 (by omega) (by omega), s5 86 (by omega) (by omega), s4 86 (by omega) (by omega)]
  have q87 : A9 87 = A4 87 := by rw [s9 87 (by omega) (by omega), s8 87 (by omega) (by omega), s7 87 (by omega) (by omega), s6 87 (by omega) (by omega), s5 87 (by omega) (by omega)]
  have q88 : A9 88 = A5 88 := by rw [s9 88 (by omega) (by omega), s8 88 (by omega) (by omega), s7 88 (by omega) (by omega), s6 88 (by omega) (by omega)]
  have q89 : A9 89 = A6 89 := by rw [s9 89 (by omega) (by omega), s8 89 (by omega) (by omega), s7 89 (by omega) (by omega)]
  have q90 : A9 90 = A7 90 := by rw [s9 90 (by omega) (by omega), s8 90 (by omega) (by omega)]
  have q91 : A9 91 = A8 91 := by rw [s9 91 (by omega) (by omega)]
  have p85 : A1 85 = K 85 := s1 85 (by omega) (by omega)
  have p86 : A2 86 = K 86 := by rw [s2 86 (by omega) (by omega), s1 86 (by omega) (by omega)]
  have p87 : A3 87 = K 87 := by rw [s3 87 (by omega) (by omega), s2 87 (by omega) (by omega), s1 87 (by omega) (by omega)]
  have p88 : A4 88 = K 88 := by rw [s4 88 (by omega) (by omega), s3 88 (by omega) (by omega), s2 88 (by omega) (by omega), s1 88 (by omega) (by omega)]
  have p89 : A5 89 = K 89 := by rw [s5 89 (by omega) (by omega), s4 89 (by omega) (by omega), s3 89 (by omega) (by omega), s2 89 (by omega) (by omega), s1 89 (by omega) (by omega)]
  have p90 : A6 90 = K 90 := by rw [s6 90 (by omega) (by omega), s5 90 (by omega) (by omega), s4 90 (by omega) (by omega), s3 90 (by omega) (by omega), s2 90 (by omega) (by omega), s1 90 (by omega) (by omega)]
  have p91 : A7 91 = K 91 := by rw [s7 91 (by omega) (by omega), s6 91 (by omega) (by omega), s5 91 (by omega) (by omega), s4 91 (by omega) (by omega), s3 91 (by omega) (by omega), s2 91 (by omega) (by omega), s1 91 (by omega) (by omega)]
  have p92 : A8 92 = K 92 := by rw [s8 92 (by omega) (by omega), s7 92 (by omega) (by omega), s6 92 (by omega) (by omega), s5 92 (by omega) (by omega), s4 92 (by omega) (by omega), s3 92 (by omega) (by omega), s2 92 (by omega) (by omega), s1 92 (by omega) (by omega)]
  have fA : zfm zTo [31, 32, 33, 34, 50] K A9 := zfm_trans (zfm_mono a3 (by decide) (by simp)) (zfm_trans (zfm_mono b3 (by decide) (by simp)) (zfm_trans (zfm_mono c3 (by decide) (by simp)) (zfm_trans (zfm_mono d3 (by decide) (by simp)) (zfm_trans (zfm_mono e3 (by decide) (by simp)) (zfm_trans (zfm_mono f3 (by decide) (by simp)) (zfm_trans (zfm_mono g3 (by decide) (by simp)) (zfm_trans (zfm_mono h3 (by decide) (by simp)) (zfm_mono i3 (by decide) (by simp)))))))))
  have k2 : A9 84 2 = K 84 6 := by rw [q84]; exact a2 2 (by omega)
  obtain ⟨X, hX⟩ : ∃ X, X = sm_up A9 80 (sm_up (sm_up (A9 80) 31 (nI 0)) 32 (K 84 6)) := ⟨_, rfl⟩
  have xc : ∀ c, c ≠ 80 → X c = A9 c := fun c hc => by rw [hX, up_n _ _ hc]
  have fX : zfm zTo [31, 32, 33, 34, 50] K X := by
    have g := zfm_f (zfm_f fA (i := 31) (by simp) (nI 0)) (i := 32) (by simp) (K 84 6)
    rw [up_s, up_uu] at g
    rw [hX]
    exact g
  obtain ⟨L, l1, l2, ⟨l3, l4, l5⟩, l6⟩ := m_to80 (N := N) (I := X) hN hR h7 (by rw [xc 84 (by omega), q84]; rw [a2 1 (by omega)]; exact hnu)
  have lc : ∀ c, c ≠ 80 → c < 95 → L c = A9 c := fun c hc h => (l6.1 c hc (by simp; omega)).trans (xc c hc)
  refine ⟨L, ?_, fun j hj => ?_, fun j hj => ?_, fun j hj => ?_, fun j hj => ?_, fun j hj => ?_, fun j hj => ?_, fun p hp => ?_, ⟨?_, ?_, l3, l4, l5⟩, zfm_trans fX (zfm_mono l6 (by decide) (by simp))⟩
  · refine Eq.trans ?_ l1
    rw [hX]
    simp (disch := omega) only [f_X12_takeOver, kd_80, r80_4 hR, kd_84, r80_5 hR, r80_6 hR, r80_7 hR, r80_8 hR, r80_9 hR, r80_10 hR, r80_11 hR, r80_12 hR, a1, b1, c1, d1, e1, f1, g1, h1, i1, k2, zl_0, zl_2, nI_leI, nI_ltI, nI_clamp, up_s, up_n, up_uu, gd_t, gd_pos, lt_eq, Option.bind_some, true_and, and_true, not_true, not_false_iff, false_or, or_false, if_true, if_false, if_pos, if_neg]
  · rw [lc 84 (by omega) (by omega), q84]
    exact a2 j hj
  · rw [lc 85 (by omega) (by omega), q85, b2 j hj, p85]
  · rw [lc 86 (by omega) (by omega), q86, c2 j hj, p86]
  · rw [lc 87 (by omega) (by omega), q87, d2 j hj, p87]
  · rw [lc 88 (by omega) (by omega), q88, e2 j hj, p88]
  · rw [lc 92 (by omega) (by omega), i2 j hj, p92]
  · have := l2 p hp
    rw [xc 89 (by omega), xc 90 (by omega), xc 91 (by omega), q89, q90, q91, f2 p (by omega), g2 p (by omega), h2 p (by omega), p89, p90, p91] at this
    exact this
  · rw [l6.2 31 (by simp), hX, up_s, up_n _ _ (by omega), up_s]
  · rw [l6.2 32 (by simp), hX, up_s, up_s]
end ZM
