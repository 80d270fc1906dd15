/-! ===== PURE PART: the model: rows ===== -/
section ZM
variable {N : Nat} {R : Nat → Nat → Nat} {q p nu pn wk row n o : Nat} {S : zS} {I : Nat → Nat → Int32} {V : Nat → zP}
def zmw (f : Nat → Int32) (o p : Nat) (v : Nat → Int32) : Nat → Int32 := sm_up (sm_up (sm_up (sm_up (sm_up f (o + p) (v 0)) (o + 7 + p) (v 1)) (o + 14 + p) (v 2)) (o + 21 + p) (v 3)) (o + 28 + p) (v 4)
theorem zmw_in {f : Nat → Int32} {o p : Nat} {v : Nat → Int32} {j : Nat} (hj : j < 5) : zmw f o p v (o + 7 * j + p) = v j := by
  have hc : j = 0 ∨ j = 1 ∨ j = 2 ∨ j = 3 ∨ j = 4 := by omega
  rcases hc with rfl | rfl | rfl | rfl | rfl
  · show zmw f o p v (o + p) = v 0
    unfold zmw
    simp (disch := omega) only [up_s, up_n]
  · show zmw f o p v (o + 7 + p) = v 1
    unfold zmw
    simp (disch := omega) only [up_s, up_n]
  · show zmw f o p v (o + 14 + p) = v 2
    unfold zmw
    simp (disch := omega) only [up_s, up_n]
  · show zmw f o p v (o + 21 + p) = v 3
    unfold zmw
    simp (disch := omega) only [up_s, up_n]
  · show zmw f o p v (o + 28 + p) = v 4
    unfold zmw
    simp (disch := omega) only [up_s, up_n]
theorem zmw_out {f : Nat → Int32} {o p : Nat} {v : Nat → Int32} {x : Nat} (h : ∀ j, j < 5 → x ≠ o + 7 * j + p) : zmw f o p v x = f x := by
  have h0 := h 0 (by omega)
  have h1 := h 1 (by omega)
  have h2 := h 2 (by omega)
  have h3 := h 3 (by omega)
  have h4 := h 4 (by omega)
  unfold zmw
  simp (disch := omega) only [up_n]
set_option maxHeartbeats 4000000 in
theorem m_pack (hN : 5000 ≤ N) (hR : sR R q) (hV : zMV nu V I) (h7 : nu ≤ 7) (hw : I 80 31 = nI wk) (hp : I 80 32 = nI pn) (hr : sm_kd row = (13, n)) (h100 : 100 ≤ row) (ho : o + 37 ≤ n) (hn : n ≤ 2000) : ∃ J, f_X12_pack N R 80 row (nI o) I = some ((), J) ∧ zMRow nu (wk, pn, V) (J row) o ∧ (∀ x, x < o ∨ o + 37 ≤ x → J row x = I row x) ∧ zfm [row] [] I J := by
  have key := zm_loop (fun m i s => f_X12_pack_23 N R m 80 row (nI (o + 2)) (nI i) s)
    (fun i s => zfm [row] [] I s ∧ (∀ x, x < o ∨ o + 37 ≤ x → s row x = I row x) ∧ s row o = nI wk ∧ s row (o + 1) = nI pn ∧ ∀ p, p < i → p < 7 → ∀ j, j < 5 → s row (o + 2 + 7 * j + p) = I (95 + j) p)
    (fun y => y.1 = () ∧ zMRow nu (wk, pn, V) (y.2 row) o ∧ (∀ x, x < o ∨ o + 37 ≤ x → y.2 row x = I row x) ∧ zfm [row] [] I y.2) 7
    (fun m s hs => ⟨((), s), by simp (disch := omega) only [f_X12_pack_23, gd_t, gd_pos, lt_eq, Option.bind_some, true_and, and_true, not_true, not_false_iff, false_or, or_false, if_true, if_false, if_pos, if_neg, zl_7, nI_leI], rfl, ⟨hs.2.2.1, hs.2.2.2.1, fun p hp j hj => by
      show s row (o + 2 + 7 * j + p) = nI (V p j)
      rw [hs.2.2.2.2 p (by omega) (by omega) j hj]
      obtain ⟨v0, v1, v2, v3, v4, v5⟩ := hV.2 p hp
      have hc : j = 0 ∨ j = 1 ∨ j = 2 ∨ j = 3 ∨ j = 4 := by omega
      rcases hc with rfl | rfl | rfl | rfl | rfl
      · exact v0
      · exact v1
      · exact v2
      · exact v3
      · exact v4⟩, hs.2.1, hs.1⟩)
    (fun m i s hi hs => by
      have g : ∀ c, 95 ≤ c → c ≤ 99 → s c = I c := fun c h1 h2 => hs.1.1 c (by omega) (by simp; omega)
      have q5 := g 95 (by omega) (by omega)
      have q6 := g 96 (by omega) (by omega)
      have q7 := g 97 (by omega) (by omega)
      have q8 := g 98 (by omega) (by omega)
      have q9 := g 99 (by omega) (by omega)
      refine ⟨_, ?_, zfm_up (k := row) hs.1 (by simp) (by omega) (zmw (s row) (o + 2) i (fun j => I (95 + j) i)), ?_, ?_, ?_, ?_⟩
      · unfold zmw
        simp (disch := omega) only [f_X12_pack_23, kd_80, hr, r80_25 hR, kd_95, r80_26 hR, kd_96, r80_27 hR, kd_97, r80_28 hR, kd_98, r80_29 hR, kd_99, q5, q6, q7, q8, q9, gd_t, gd_pos, lt_eq, Option.bind_some, true_and, and_true, not_true, not_false_iff, false_or, or_false, if_true, if_false, if_pos, if_neg, up_s, up_n, up_uu, zl_0, zl_1, zl_2, zl_3, zl_4, zl_5, zl_6, zl_7, zl_8, zl_9, zl_10, zl_12, zl_14, zl_16, zl_20, zl_21, zl_28, zl_30, zl_32, zl_37, zl_40, zl_60, zl_64, zl_99, zl_100, zl_680, zl_700, zl_999, zl_9999, zl_10000, zl_20000, zl_20001, zl_20002, zl_20003, zl_20004, zl_20005, zl_20006, zl_20007, zl_ofNat, nI_add, pk_mul, nI_leI, nI_ltI, nI_eq, nI_clamp, mx_nI, mn_nI, pk_sub, zz_m1]
      · intro x hx
        rw [up_s, zmw_out (fun j hj => by omega)]
        exact hs.2.1 x hx
      · rw [up_s, zmw_out (fun j hj => by omega)]
        exact hs.2.2.1
      · rw [up_s, zmw_out (fun j hj => by omega)]
        exact hs.2.2.2.1
      · intro p hp hp7 j hj
        rw [up_s]
        by_cases hpi : p = i
        · subst hpi
          rw [zmw_in hj]
        · rw [zmw_out (fun j' hj' => by omega)]
          exact hs.2.2.2.2 p (by omega) hp7 j hj)
    7 0 (sm_up I row (sm_up (sm_up (I row) o (nI wk)) (o + 1) (nI pn))) N (by omega) (by omega)
    ⟨zfm_up (zfm_refl _ _ _) (by simp) (by omega) _, fun x hx => by rw [up_s, up_n _ _ (by omega), up_n _ _ (by omega)], by rw [up_s, up_n _ _ (by omega), up_s], by rw [up_s, up_s], fun p hp => absurd hp (Nat.not_lt_zero _)⟩
  obtain ⟨⟨u, J⟩, h1, h2, h3, h4, h5⟩ := key
  refine ⟨J, ?_, h3, h4, h5⟩
  cases h2
  rw [← h1]
  simp (disch := omega) only [f_X12_pack, kd_80, hr, hw, hp, gd_t, gd_pos, lt_eq, Option.bind_some, true_and, and_true, not_true, not_false_iff, false_or, or_false, if_true, if_false, if_pos, if_neg, up_s, up_n, up_uu, zl_0, zl_1, zl_2, zl_3, zl_4, zl_5, zl_6, zl_7, zl_8, zl_9, zl_10, zl_12, zl_14, zl_16, zl_20, zl_21, zl_28, zl_30, zl_32, zl_37, zl_40, zl_60, zl_64, zl_99, zl_100, zl_680, zl_700, zl_999, zl_9999, zl_10000, zl_20000, zl_20001, zl_20002, zl_20003, zl_20004, zl_20005, zl_20006, zl_20007, zl_ofNat, nI_add, pk_mul, nI_leI, nI_ltI, nI_eq, nI_clamp, mx_nI, mn_nI, pk_sub, zz_m1]
set_option maxHeartbeats 4000000 in
theorem m_unpack (hN : 5000 ≤ N) (hR : sR R q) (h7 : nu ≤ 7) (hn1 : I 84 1 = nI nu) (hr : sm_kd row = (13, n)) (h100 : 100 ≤ row) (ho : o + 37 ≤ n) (hn : n ≤ 2000) {T : zT} (hrow : zMRow nu T (I row) o) (h5 : ∀ p, p < nu → I 88 p = nI (T.2.2 p 5)) : ∃ J, f_X12_unpack N R 80 row (nI o) I = some ((), J) ∧ zMV nu T.2.2 J ∧ J 80 31 = nI T.1 ∧ J 80 32 = nI T.2.1 ∧ zfm [95, 96, 97, 98, 99] [31, 32] I J := by
  obtain ⟨w1, w2, w3⟩ := hrow
  have key := zm_loop (fun m i s => f_X12_unpack_23 N R m 80 row (nI (o + 2)) (nI i) s)
    (fun i s => zfm [95, 96, 97, 98, 99] [31, 32] I s ∧ s 80 31 = nI T.1 ∧ s 80 32 = nI T.2.1 ∧ ∀ p, p < i → p < 7 → ∀ j, j < 5 → s (95 + j) p = I row (o + 2 + 7 * j + p))
    (fun y => y.1 = () ∧ zMV nu T.2.2 y.2 ∧ y.2 80 31 = nI T.1 ∧ y.2 80 32 = nI T.2.1 ∧ zfm [95, 96, 97, 98, 99] [31, 32] I y.2) 7
    (fun m s hs => ⟨((), s), by simp (disch := omega) only [f_X12_unpack_23, gd_t, gd_pos, lt_eq, Option.bind_some, true_and, and_true, not_true, not_false_iff, false_or, or_false, if_true, if_false, if_pos, if_neg, zl_7, nI_leI], rfl, ⟨by
      show s 84 1 = nI nu
      rw [hs.1.1 84 (by omega) (by simp)]
      exact hn1, fun p hp => by
      have g := hs.2.2.2 p (by omega) (by omega)
      have g0 := g 0 (by omega)
      have g1 := g 1 (by omega)
      have g2 := g 2 (by omega)
      have g3 := g 3 (by omega)
      have g4 := g 4 (by omega)
      rw [w3 p hp _ (by omega)] at g0 g1 g2 g3 g4
      refine ⟨g0, g1, g2, g3, g4, ?_⟩
      show s 88 p = nI (T.2.2 p 5)
      rw [hs.1.1 88 (by omega) (by simp)]
      exact h5 p hp⟩, hs.2.1, hs.2.2.1, hs.1⟩)
    (fun m i s hi hs => by
      have er : s row = I row := hs.1.1 row (by omega) (by simp; omega)
      refine ⟨sm_up (sm_up (sm_up (sm_up (sm_up s 95 (sm_up (s 95) i (I row (o + 2 + i)))) 96 (sm_up (s 96) i (I row (o + 2 + 7 + i)))) 97 (sm_up (s 97) i (I row (o + 2 + 14 + i)))) 98 (sm_up (s 98) i (I row (o + 2 + 21 + i)))) 99 (sm_up (s 99) i (I row (o + 2 + 28 + i))), ?_, ?_, ?_, ?_, ?_⟩
      · simp (disch := omega) only [f_X12_unpack_23, kd_80, hr, r80_25 hR, kd_95, r80_26 hR, kd_96, r80_27 hR, kd_97, r80_28 hR, kd_98, r80_29 hR, kd_99, er, gd_t, gd_pos, lt_eq, Option.bind_some, true_and, and_true, not_true, not_false_iff, false_or, or_false, if_true, if_false, if_pos, if_neg, up_s, up_n, up_uu, zl_0, zl_1, zl_2, zl_3, zl_4, zl_5, zl_6, zl_7, zl_8, zl_9, zl_10, zl_12, zl_14, zl_16, zl_20, zl_21, zl_28, zl_30, zl_32, zl_37, zl_40, zl_60, zl_64, zl_99, zl_100, zl_680, zl_700, zl_999, zl_9999, zl_10000, zl_20000, zl_20001, zl_20002, zl_20003, zl_20004, zl_20005, zl_20006, zl_20007, zl_ofNat, nI_add, pk_mul, nI_leI, nI_ltI, nI_eq, nI_clamp, mx_nI, mn_nI, pk_sub, zz_m1]
      · exact zfm_up (zfm_up (zfm_up (zfm_up (zfm_up hs.1 (by simp) (by omega) _) (by simp) (by omega) _) (by simp) (by omega) _) (by simp) (by omega) _) (by simp) (by omega) _
      · simp (disch := omega) only [up_n]
        exact hs.2.1
      · simp (disch := omega) only [up_n]
        exact hs.2.2.1
      · intro p hp hp7 j hj
        have hc : j = 0 ∨ j = 1 ∨ j = 2 ∨ j = 3 ∨ j = 4 := by omega
        by_cases hpi : p = i
        · subst hpi
          rcases hc with rfl | rfl | rfl | rfl | rfl
          all_goals simp (disch := omega) only [up_n, up_s, Nat.reduceAdd, Nat.reduceMul, Nat.add_zero]
        · have g := hs.2.2.2 p (by omega) hp7 j hj
          rw [← g]
          rcases hc with rfl | rfl | rfl | rfl | rfl
          all_goals simp (disch := omega) only [up_n, up_s, Nat.reduceAdd, Nat.reduceMul, Nat.add_zero])
    7 0 (sm_up I 80 (sm_up (sm_up (I 80) 31 (nI T.1)) 32 (nI T.2.1))) N (by omega) (by omega)
    ⟨by
      have := zfm_f (zfm_f (zfm_refl [95, 96, 97, 98, 99] [31, 32] I) (i := 31) (by simp) (nI T.1)) (i := 32) (by simp) (nI T.2.1)
      simp (disch := omega) only [up_s, up_uu] at this
      exact this, by rw [up_s, up_n _ _ (by omega), up_s], by rw [up_s, up_s], fun p hp => absurd hp (Nat.not_lt_zero _)⟩
  obtain ⟨⟨u, J⟩, h1, h2, h3, h4, h6, h8⟩ := key
  refine ⟨J, ?_, h3, h4, h6, h8⟩
  cases h2
  rw [← h1]
  have hne : ¬ row = 80 := by omega
  simp (disch := omega) only [f_X12_unpack, kd_80, hr, w1, w2, gd_t, gd_pos, lt_eq, Option.bind_some, true_and, and_true, not_true, not_false_iff, false_or, or_false, if_true, if_false, if_pos, if_neg, up_s, up_n, up_uu, zl_0, zl_1, zl_2, zl_3, zl_4, zl_5, zl_6, zl_7, zl_8, zl_9, zl_10, zl_12, zl_14, zl_16, zl_20, zl_21, zl_28, zl_30, zl_32, zl_37, zl_40, zl_60, zl_64, zl_99, zl_100, zl_680, zl_700, zl_999, zl_9999, zl_10000, zl_20000, zl_20001, zl_20002, zl_20003, zl_20004, zl_20005, zl_20006, zl_20007, zl_ofNat, nI_add, pk_mul, nI_leI, nI_ltI, nI_eq, nI_clamp, mx_nI, mn_nI, pk_sub, zz_m1]
end ZM
