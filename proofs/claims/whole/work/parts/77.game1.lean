/-! ===== PURE PART: game: the class ===== -/
def z_gd (S : zS) (pl : zP) (d : Nat) : zP := if d = 1 then z_go S pl 1 else if d = 2 then sm_up pl 1 (min 9 (pl 1 + 2)) else pl
def z_gn (S : zS) (pl : zP) (d : Nat) : Int32 := nI (z_wks S 10 (z_gd S pl d) 3) - nI (pl 3)
theorem z_gd_pok {S : zS} {pl : zP} (h : z_pok S pl) (d : Nat) : z_pok S (z_gd S pl d) := by
  unfold z_gd
  split
  · exact z_pok_go h (by omega) (by omega)
  · split
    · exact z_pok_sore h (by omega)
    · exact h
section ZC
variable {N : Nat} {R : Nat → Nat → Nat} {q : Nat} {S : zS} {nu pn : Nat} {V : Nat → zP} {I : Nat → Nat → Int32} {pl : zP}
theorem zG_S (hR : sR R q) {J : Nat → Nat → Int32} (h : zCS S q I) (hJ : zfr [77, 78, 79, q + 6, q + 16] I J) : zCS S q J := zCS_fr h (fun c h1 h2 => hJ c (by have := sR_q hR; simp; omega))
theorem zG_V (hR : sR R q) {J : Nat → Nat → Int32} (hJ : zfr [77, 78, 79, q + 6, q + 16] I J) (h7 : nu ≤ 7) (h : zCV nu V (q + 7) I) : zCV nu V (q + 7) J := zCV_fr h h7 (fun c hc => hJ c (by have := sR_q hR; simp; omega))
theorem c_gainOf (hN : 5000 ≤ N) (hR : sR R q) (hso : z_sok S) (hS : zCS S q I) {k : Nat} (hk : sm_kd k = (4, 6)) (hk2 : k < 57) (hkq : q + 9 ≤ k ∧ k ≤ q + 15) (hp : zPl pl (I k)) (ho : z_pok S pl) {d : Nat} (hd : d < 3) : ∃ J, f_X2_gainOf N R 76 q k (nI d) I = some (z_gn S pl d, J) ∧ zfr [79, q + 6, q + 16] I J := by
  have hq9 := sR_q hR
  obtain ⟨J1, b1, b2, b3⟩ := c_become (N := N) (R := R) hk kd_79 (by omega) hp
  have b3 : zfr [79, q + 6, q + 16] I J1 := zfr_mono b3 (by simp)
  have fs : ∀ {J : Nat → Nat → Int32}, zfr [79, q + 6, q + 16] I J → zCS S q J := fun h => zCS_fr hS (fun c h1 h2 => h c (by simp; omega))
  have tl : ∀ (J2 : Nat → Nat → Int32) (pl2 : zP), zfr [79, q + 6, q + 16] I J2 → zPl pl2 (J2 79) → z_pok S pl2 → ∃ J, f_X2_gainOf_38 N R 76 q k J2 = some (nI (z_wks S 10 pl2 3) - nI (pl 3), J) ∧ zfr [79, q + 6, q + 16] I J := fun J2 pl2 h1 h2 h3 => by
    obtain ⟨K, k1, k2, k3⟩ := c_pass (m := 10) hN hR.q hso (fs h1) kd_79 h2 h3 (by omega)
    have k4 := zfr_trans h1 k3
    have w1 := k2 3 (by omega)
    have w2 : K k 3 = nI (pl 3) := by
      rw [k4 k (by simp; omega)]
      exact hp 3 (by omega)
    exact ⟨K, by simp (disch := omega) only [f_X2_gainOf_38, kd_76, kd_79, r76_2 hR, q_k0 hR, hk, k1, w1, w2, zl_10, gd_t, gd_pos, lt_eq, Option.bind_some, true_and, and_true, not_true, not_false_iff, false_or, or_false, if_true, if_false, if_pos, if_neg], k4⟩
  have hc : d = 0 ∨ d = 1 ∨ d = 2 := by omega
  rcases hc with rfl | rfl | rfl
  · obtain ⟨J, e1, e2⟩ := tl J1 pl b3 b2 ho
    refine ⟨J, ?_, e2⟩
    refine Eq.trans ?_ e1
    simp (disch := omega) only [f_X2_gainOf, kd_76, kd_79, r76_2 hR, b1, zl_1, zl_2, nI_eq, gd_t, gd_pos, lt_eq, Option.bind_some, true_and, and_true, not_true, not_false_iff, false_or, or_false, if_true, if_false, if_pos, if_neg]
  · obtain ⟨J2, g1, g2, g3⟩ := c_go hN hR.q hso (fs b3) kd_79 b2 ho (j := 1) (by omega) (by omega)
    obtain ⟨J, e1, e2⟩ := tl J2 _ (zfr_trans b3 g3) g2 (z_pok_go ho (by omega) (by omega))
    refine ⟨J, ?_, e2⟩
    refine Eq.trans ?_ e1
    simp (disch := omega) only [f_X2_gainOf, kd_76, kd_79, r76_2 hR, q_k0 hR, b1, g1, zl_1, zl_2, nI_eq, gd_t, gd_pos, lt_eq, Option.bind_some, true_and, and_true, not_true, not_false_iff, false_or, or_false, if_true, if_false, if_pos, if_neg]
  · have o1 := ho.2.1
    have g1 := c_addSore (N := N) (R := R) (x := nI 2) kd_79 b2 (v := min 9 (pl 1 + 2)) (by rw [nI_add]; exact zz_cl_add (by omega) (by omega))
    obtain ⟨J, e1, e2⟩ := tl (sm_up J1 79 (sm_up (J1 79) 1 (nI (min 9 (pl 1 + 2))))) (sm_up pl 1 (min 9 (pl 1 + 2))) (zfr_up b3 (by simp) _) (by rw [up_s]; exact zPl_up b2 1 _) (z_pok_sore ho (by omega))
    refine ⟨J, ?_, e2⟩
    refine Eq.trans ?_ e1
    simp (disch := omega) only [f_X2_gainOf, kd_76, kd_79, r76_2 hR, q_k0 hR, b1, g1, zl_1, zl_2, nI_eq, gd_t, gd_pos, lt_eq, Option.bind_some, true_and, and_true, not_true, not_false_iff, false_or, or_false, if_true, if_false, if_pos, if_neg]
theorem c_side (hN : 5000 ≤ N) (hR : sR R q) (hso : z_sok S) (hS : zCS S q I) (hV : zCV nu V (q + 7) I) (h7 : nu ≤ 7) (hpo : ∀ p, p < nu → z_pok S (V p)) (hp3 : I (q + 7) 3 = nI pn) (hp4 : pn ≤ 4) {sd p y : Nat} (hs : sd < 2) (hp : p < nu) (hy : y < 2) : ∃ J, f_X2_weighSide N R 76 q (nI sd) (nI p) (nI y) I = some ((), J) ∧ J 77 sd = (if z_may nu V pn (V p) 1 = true then 1 else 0) ∧ J 78 (sd * 4) = z_gn S (V p) 0 ∧ J 78 (sd * 4 + 1) = z_gn S (V p) 0 ∧ J 78 (sd * 4 + 2) = z_gn S (V p) 1 ∧ J 78 (sd * 4 + 3) = z_gn S (V p) (1 + y) ∧ (∀ x, x ≠ sd → J 77 x = I 77 x) ∧ (∀ x, x < sd * 4 ∨ sd * 4 + 4 ≤ x → J 78 x = I 78 x) ∧ zfr [77, 78, 79, q + 6, q + 16] I J := by
  have hq9 := sR_q hR
  have kp := q_t4 hR p (by omega)
  have hk9 : q + 7 + 2 + p < 57 := by omega
  have hk8 : q + 9 ≤ q + 7 + 2 + p ∧ q + 7 + 2 + p ≤ q + 15 := by omega
  have haw : ∀ p, p < nu → V p 4 < 2 ^ 30 := fun p hp => (hpo p hp).2.2.2.2.1
  have e0 := c_could (N := N) hN (q_t hR) hV h7 haw hp3 hp4 kp (hV.2 p hp) (haw p hp) (j := 1) (by omega) (by omega)
  obtain ⟨cg, hcg⟩ : ∃ cg : Int32, cg = (if z_may nu V pn (V p) 1 = true then 1 else 0) := ⟨_, rfl⟩
  rw [← hcg] at e0 ⊢
  have hcg2 : cg = nI 0 ∨ cg = nI 1 := by
    rw [hcg]
    by_cases h : z_may nu V pn (V p) 1 = true
    · rw [if_pos h]
      exact Or.inr rfl
    · rw [if_neg h]
      exact Or.inl rfl
  have a0 : zfr [77, 78, 79, q + 6, q + 16] I (sm_up I 77 (sm_up (I 77) sd cg)) := zfr_up (zfr_refl _ _) (by simp) _
  obtain ⟨X0, hX0⟩ : ∃ X, X = sm_up I 77 (sm_up (I 77) sd cg) := ⟨_, rfl⟩
  rw [← hX0] at a0
  obtain ⟨X1, b1, b2⟩ := c_gainOf (I := X0) hN hR hso (zG_S hR hS a0) kp hk9 hk8 ((zG_V hR a0 h7 hV).2 p hp) (hpo p hp) (d := 0) (by omega)
  have b2' : zfr [77, 78, 79, q + 6, q + 16] X0 X1 := zfr_mono b2 (by simp)
  have a1 := zfr_trans a0 b2'
  obtain ⟨X2, d1, d2⟩ := c_gainOf (I := X1) hN hR hso (zG_S hR hS a1) kp hk9 hk8 ((zG_V hR a1 h7 hV).2 p hp) (hpo p hp) (d := 1) (by omega)
  have d2' : zfr [77, 78, 79, q + 6, q + 16] X1 X2 := zfr_mono d2 (by simp)
  have a2 := zfr_trans a1 d2'
  have x77 : X2 77 = sm_up (I 77) sd cg := by rw [d2 77 (by simp; omega), b2 77 (by simp; omega), hX0, up_s]
  have x78 : X2 78 = I 78 := by rw [d2 78 (by simp; omega), b2 78 (by simp; omega), hX0, up_n _ _ (by omega)]
  obtain ⟨X3, hX3⟩ : ∃ X, X = sm_up X2 78 (sm_up (sm_up (sm_up (X2 78) (sd * 4) (z_gn S (V p) 0)) (sd * 4 + 1) (z_gn S (V p) 0)) (sd * 4 + 2) (z_gn S (V p) 1)) := ⟨_, rfl⟩
  have a3 : zfr [77, 78, 79, q + 6, q + 16] I X3 := by rw [hX3]; exact zfr_up a2 (by simp) _
  have hsd : sd = 0 ∨ sd = 1 := by omega
  have fin : ∀ (X4 : Nat → Nat → Int32) (g : Int32), zfr [77, 78, 79, q + 6, q + 16] I X4 → X4 77 = X3 77 → X4 78 = X3 78 → ∀ J, J = sm_up X4 78 (sm_up (X4 78) (sd * 4 + 3) g) → J 77 sd = cg ∧ J 78 (sd * 4) = z_gn S (V p) 0 ∧ J 78 (sd * 4 + 1) = z_gn S (V p) 0 ∧ J 78 (sd * 4 + 2) = z_gn S (V p) 1 ∧ J 78 (sd * 4 + 3) = g ∧ (∀ x, x ≠ sd → J 77 x = I 77 x) ∧ (∀ x, x < sd * 4 ∨ sd * 4 + 4 ≤ x → J 78 x = I 78 x) ∧ zfr [77, 78, 79, q + 6, q + 16] I J := fun X4 g h1 h2 h3 J hJ => by
    have y77 : J 77 = sm_up (I 77) sd cg := by rw [hJ, up_n _ _ (by omega), h2, hX3, up_n _ _ (by omega), x77]
    have y78 : J 78 = sm_up (sm_up (sm_up (sm_up (I 78) (sd * 4) (z_gn S (V p) 0)) (sd * 4 + 1) (z_gn S (V p) 0)) (sd * 4 + 2) (z_gn S (V p) 1)) (sd * 4 + 3) g := by rw [hJ, up_s, h3, hX3, up_s, x78]
    refine ⟨by rw [y77, up_s], ?_, ?_, ?_, ?_, fun x hx => by rw [y77, up_n _ _ hx], fun x hx => ?_, by rw [hJ]; exact zfr_up h1 (by simp) _⟩
    · rw [y78]
      simp (disch := omega) only [up_s, up_n]
    · rw [y78]
      simp (disch := omega) only [up_s, up_n]
    · rw [y78]
      simp (disch := omega) only [up_s, up_n]
    · rw [y78, up_s]
    · rw [y78]
      simp (disch := omega) only [up_n]
  have hg2 : sm_gd (cg = 0 ∨ cg = 1) = fun (x : Option (Unit × (Nat → Nat → Int32))) => x := by
    funext x
    exact gd_pos (by rcases hcg2 with h | h <;> rw [h] <;> decide)
  have hy2 : y = 0 ∨ y = 1 := by omega
  rcases hy2 with rfl | rfl
  · refine ⟨sm_up X3 78 (sm_up (X3 78) (sd * 4 + 3) (z_gn S (V p) 1)), ?_, fin X3 _ a3 rfl rfl _ rfl⟩
    rcases hcg2 with h | h
    · rw [h] at e0 hX0
      rw [hX3]
      simp (disch := omega) only [f_X2_weighSide, kd_76, kd_77, kd_78, r76_0 hR, r76_1 hR, q_k0 hR, q_r5 hR, q_t0 hR, q_t1 hR, q_t2 hR, q_t3 hR, e0, ← hX0, b1, d1, zl_0, zl_1, zl_2, zl_3, zl_4, nI_add, pk_mul, nI_eq, nI_ltI, nI_leI, nI_clamp, or_true, true_or, Nat.add_zero, gd_t, gd_pos, lt_eq, Option.bind_some, true_and, and_true, not_true, not_false_iff, false_or, or_false, if_true, if_false, if_pos, if_neg, up_s, up_n, up_uu]
    · rw [h] at e0 hX0
      rw [hX3]
      simp (disch := omega) only [f_X2_weighSide, kd_76, kd_77, kd_78, r76_0 hR, r76_1 hR, q_k0 hR, q_r5 hR, q_t0 hR, q_t1 hR, q_t2 hR, q_t3 hR, e0, ← hX0, b1, d1, zl_0, zl_1, zl_2, zl_3, zl_4, nI_add, pk_mul, nI_eq, nI_ltI, nI_leI, nI_clamp, or_true, true_or, Nat.add_zero, gd_t, gd_pos, lt_eq, Option.bind_some, true_and, and_true, not_true, not_false_iff, false_or, or_false, if_true, if_false, if_pos, if_neg, up_s, up_n, up_uu]
  · obtain ⟨X4, f1, f2⟩ := c_gainOf (I := X3) hN hR hso (zG_S hR hS a3) kp hk9 hk8 ((zG_V hR a3 h7 hV).2 p hp) (hpo p hp) (d := 2) (by omega)
    have a4 : zfr [77, 78, 79, q + 6, q + 16] I X4 := zfr_trans a3 (zfr_mono f2 (by simp))
    refine ⟨sm_up X4 78 (sm_up (X4 78) (sd * 4 + 3) (z_gn S (V p) 2)), ?_, fin X4 _ a4 (f2 77 (by simp; omega)) (f2 78 (by simp; omega)) _ rfl⟩
    rcases hcg2 with h | h
    · rw [h] at e0 hX0
      simp (disch := omega) only [f_X2_weighSide, kd_76, kd_77, kd_78, r76_0 hR, r76_1 hR, q_k0 hR, q_r5 hR, q_t0 hR, q_t1 hR, q_t2 hR, q_t3 hR, e0, ← hX0, b1, d1, ← hX3, f1, zl_0, zl_1, zl_2, zl_3, zl_4, nI_add, pk_mul, nI_eq, nI_ltI, nI_leI, nI_clamp, or_true, true_or, Nat.add_zero, gd_t, gd_pos, lt_eq, Option.bind_some, true_and, and_true, not_true, not_false_iff, false_or, or_false, if_true, if_false, if_pos, if_neg, up_s, up_n, up_uu]
    · rw [h] at e0 hX0
      simp (disch := omega) only [f_X2_weighSide, kd_76, kd_77, kd_78, r76_0 hR, r76_1 hR, q_k0 hR, q_r5 hR, q_t0 hR, q_t1 hR, q_t2 hR, q_t3 hR, e0, ← hX0, b1, d1, ← hX3, f1, zl_0, zl_1, zl_2, zl_3, zl_4, nI_add, pk_mul, nI_eq, nI_ltI, nI_leI, nI_clamp, or_true, true_or, Nat.add_zero, gd_t, gd_pos, lt_eq, Option.bind_some, true_and, and_true, not_true, not_false_iff, false_or, or_false, if_true, if_false, if_pos, if_neg, up_s, up_n, up_uu]
end ZC
