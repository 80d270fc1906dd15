/-! ===== PURE PART: game: both sides ===== -/
def z_gg (S : zS) (pl : zP) (y own oth : Nat) : Int32 := if own = 0 then z_gn S pl 0 else if oth = 1 then z_gn S pl (1 + y) else z_gn S pl 1
def z_ct (m : Bool) (own : Nat) (x y : Int32) : Bool := if m = true then !decide (x < y) else decide (own = 0)
section ZC
variable {N : Nat} {R : Nat → Nat → Nat} {q : Nat} {S : zS} {nu pn : Nat} {V : Nat → zP} {I : Nat → Nat → Int32} {pl : zP}
theorem c_weighG (hN : 5000 ≤ N) (hR : sR R q) (hso : z_sok S) (hS : zCS S q I) (hV : zCV nu V (q + 7) I) (h7 : nu ≤ 7) (hpo : ∀ p, p < nu → z_pok S (V p)) (hp3 : I (q + 7) 3 = nI pn) (hp4 : pn ≤ 4) {p r : Nat} (hp : p < nu) (hr : r < nu) : ∃ J, f_X2_weigh N R 76 q (nI p) (nI r) I = some ((), J) ∧ J 77 0 = (if z_may nu V pn (V p) 1 = true then 1 else 0) ∧ J 77 1 = (if z_may nu V pn (V r) 1 = true then 1 else 0) ∧ (J 78 0 = z_gn S (V p) 0 ∧ J 78 1 = z_gn S (V p) 0 ∧ J 78 2 = z_gn S (V p) 1 ∧ J 78 3 = z_gn S (V p) (1 + (if pn = z_pc 32 (z_awi nu V 1) + 1 ∧ r < p then 1 else 0))) ∧ (J 78 4 = z_gn S (V r) 0 ∧ J 78 5 = z_gn S (V r) 0 ∧ J 78 6 = z_gn S (V r) 1 ∧ J 78 7 = z_gn S (V r) (1 + (if pn = z_pc 32 (z_awi nu V 1) + 1 ∧ p < r then 1 else 0))) ∧ zfr [77, 78, 79, q + 6, q + 16] I J := by
  have hq9 := sR_q hR
  have haw : ∀ p, p < nu → V p 4 < 2 ^ 30 := fun p hp => (hpo p hp).2.2.2.2.1
  have e0 := c_left (N := N) hN (q_t hR) hV h7 haw hp3 (k := 1) (by omega) (by omega)
  have hpc := z_pc_le 32 (z_awi nu V 1)
  have hti : (nI pn - nI (z_pc 32 (z_awi nu V 1))).toInt = (pn : Int) - z_pc 32 (z_awi nu V 1) := pk_sub_toInt (by omega) (by omega)
  obtain ⟨y1, hy1⟩ : ∃ y, y = if pn = z_pc 32 (z_awi nu V 1) + 1 ∧ r < p then 1 else 0 := ⟨_, rfl⟩
  obtain ⟨y2, hy2⟩ : ∃ y, y = if pn = z_pc 32 (z_awi nu V 1) + 1 ∧ p < r then 1 else 0 := ⟨_, rfl⟩
  rw [← hy1, ← hy2]
  have by1 : y1 < 2 := by rw [hy1]; split <;> omega
  have by2 : y2 < 2 := by rw [hy2]; split <;> omega
  obtain ⟨J, a1, a2, a3, a4, a5, a6, a7, a8, a9⟩ := c_side (N := N) hN hR hso hS hV h7 hpo hp3 hp4 (sd := 0) (y := y1) (by omega) hp by1
  obtain ⟨K, b1, b2, b3, b4, b5, b6, b7, b8, b9⟩ := c_side (N := N) hN hR hso (zG_S hR hS a9) (zG_V hR a9 h7 hV) h7 hpo (by rw [a9 _ (by simp; omega)]; exact hp3) hp4 (sd := 1) (y := y2) (by omega) hr by2
  refine ⟨K, ?_, by rw [b7 0 (by omega)]; exact a2, b2, ⟨by rw [b8 0 (by omega)]; exact a3, by rw [b8 1 (by omega)]; exact a4, by rw [b8 2 (by omega)]; exact a5, by rw [b8 3 (by omega)]; exact a6⟩, ⟨b3, b4, b5, b6⟩, zfr_trans a9 b9⟩
  by_cases hol : pn = z_pc 32 (z_awi nu V 1) + 1
  · have h1 : nI pn - nI (z_pc 32 (z_awi nu V 1)) = nI 1 := (zeq_l (by omega)).mpr (by rw [hti]; omega)
    by_cases hlt : r < p
    · rw [if_pos ⟨hol, hlt⟩] at hy1
      rw [if_neg (by omega)] at hy2
      rw [hy1] at a1
      rw [hy2] at b1
      simp (disch := omega) only [f_X2_weigh, f_X2_weigh_17, f_X2_weigh_38, kd_76, q_k0 hR, q_r5 hR, q_t0 hR, e0, h1, a1, b1, zl_0, zl_1, nI_eq, nI_leI, gd_t, gd_pos, lt_eq, Option.bind_some, true_and, and_true, not_true, not_false_iff, false_or, or_false, if_true, if_false, if_pos, if_neg]
    · rw [if_neg (by omega)] at hy1
      rw [hy1] at a1
      by_cases hgt : p < r
      · rw [if_pos ⟨hol, hgt⟩] at hy2
        rw [hy2] at b1
        simp (disch := omega) only [f_X2_weigh, f_X2_weigh_17, f_X2_weigh_38, kd_76, q_k0 hR, q_r5 hR, q_t0 hR, e0, h1, a1, b1, zl_0, zl_1, nI_eq, nI_leI, gd_t, gd_pos, lt_eq, Option.bind_some, true_and, and_true, not_true, not_false_iff, false_or, or_false, if_true, if_false, if_pos, if_neg]
      · rw [if_neg (by omega)] at hy2
        rw [hy2] at b1
        simp (disch := omega) only [f_X2_weigh, f_X2_weigh_17, f_X2_weigh_38, kd_76, q_k0 hR, q_r5 hR, q_t0 hR, e0, h1, a1, b1, zl_0, zl_1, nI_eq, nI_leI, gd_t, gd_pos, lt_eq, Option.bind_some, true_and, and_true, not_true, not_false_iff, false_or, or_false, if_true, if_false, if_pos, if_neg]
  · have h1 : ¬ nI pn - nI (z_pc 32 (z_awi nu V 1)) = nI 1 := fun h => hol (by
      have := (zeq_l (by omega)).mp h
      rw [hti] at this
      omega)
    rw [if_neg (fun h => hol h.1)] at hy1 hy2
    rw [hy1] at a1
    rw [hy2] at b1
    simp (disch := omega) only [f_X2_weigh, f_X2_weigh_17, f_X2_weigh_38, kd_76, q_k0 hR, q_r5 hR, q_t0 hR, e0, h1, if_false, a1, b1, zl_0, zl_1, nI_eq, nI_leI, gd_t, gd_pos, lt_eq, Option.bind_some, true_and, and_true, not_true, not_false_iff, false_or, or_false, if_true, if_false, if_pos, if_neg]
theorem c_content (hR : sR R q) {sd own oth : Nat} (hs : sd < 2) (ho : own < 2) (ht : oth < 2) {m : Bool} {x y : Int32} (h1 : I 77 sd = (if m = true then 1 else 0)) (h2 : I 78 (sd * 4 + own * 2 + oth) = x) (h3 : I 78 (sd * 4 + (1 - own) * 2 + oth) = y) : f_X2_isContent N R 76 (nI sd) (nI own) (nI oth) I = some ((if z_ct m own x y = true then 1 else 0), I) := by
  rcases m with _ | _
  · rw [if_neg (by decide)] at h1
    rw [show z_ct false own x y = decide (own = 0) from rfl]
    by_cases h0 : own = 0
    · rw [if_pos (decide_eq_true h0)]
      simp (disch := omega) only [f_X2_isContent, kd_76, kd_77, r76_0 hR, h1, zl_0, zl_1, nI_eq, nI_ltI, nI_leI, nI_clamp, gd_t, gd_pos, lt_eq, Option.bind_some, true_and, and_true, not_true, not_false_iff, false_or, or_false, if_true, if_false, if_pos, if_neg]
    · rw [if_neg (fun h => h0 (of_decide_eq_true h))]
      simp (disch := omega) only [f_X2_isContent, kd_76, kd_77, r76_0 hR, h1, zl_0, zl_1, nI_eq, nI_ltI, nI_leI, nI_clamp, gd_t, gd_pos, lt_eq, Option.bind_some, true_and, and_true, not_true, not_false_iff, false_or, or_false, if_true, if_false, if_pos, if_neg]
  · rw [if_pos rfl] at h1
    rw [show z_ct true own x y = !decide (x < y) from rfl]
    by_cases hc : x < y
    · rw [decide_eq_true hc, Bool.not_true, if_neg (by decide)]
      simp (disch := omega) only [f_X2_isContent, kd_76, kd_77, kd_78, r76_0 hR, r76_1 hR, h1, h2, h3, hc, zl_0, zl_1, zl_2, zl_4, nI_add, pk_mul, pk_sub, nI_eq, nI_ltI, nI_leI, nI_clamp, gd_t, gd_pos, lt_eq, Option.bind_some, true_and, and_true, not_true, not_false_iff, false_or, or_false, if_true, if_false, if_pos, if_neg]
    · rw [decide_eq_false hc, Bool.not_false, if_pos rfl]
      simp (disch := omega) only [f_X2_isContent, kd_76, kd_77, kd_78, r76_0 hR, r76_1 hR, h1, h2, h3, hc, if_false, zl_0, zl_1, zl_2, zl_4, nI_add, pk_mul, pk_sub, nI_eq, nI_ltI, nI_leI, nI_clamp, gd_t, gd_pos, lt_eq, Option.bind_some, true_and, and_true, not_true, not_false_iff, false_or, or_false, if_true, if_false, if_pos, if_neg]
def z_rs (S : zS) (nu pn : Nat) (V : Nat → zP) (p r a b : Nat) : Bool := z_ct (z_may nu V pn (V p) 1) a (z_gg S (V p) (if pn = z_pc 32 (z_awi nu V 1) + 1 ∧ r < p then 1 else 0) a b) (z_gg S (V p) (if pn = z_pc 32 (z_awi nu V 1) + 1 ∧ r < p then 1 else 0) (1 - a) b) && z_ct (z_may nu V pn (V r) 1) b (z_gg S (V r) (if pn = z_pc 32 (z_awi nu V 1) + 1 ∧ p < r then 1 else 0) b a) (z_gg S (V r) (if pn = z_pc 32 (z_awi nu V 1) + 1 ∧ p < r then 1 else 0) (1 - b) a)
theorem z_gg_at {f : Nat → Int32} {S : zS} {pl : zP} {y o : Nat} (h0 : f o = z_gn S pl 0) (h1 : f (o + 1) = z_gn S pl 0) (h2 : f (o + 2) = z_gn S pl 1) (h3 : f (o + 3) = z_gn S pl (1 + y)) {own oth : Nat} (ho : own < 2) (ht : oth < 2) : f (o + own * 2 + oth) = z_gg S pl y own oth := by
  have c1 : own = 0 ∨ own = 1 := by omega
  have c2 : oth = 0 ∨ oth = 1 := by omega
  rcases c1 with rfl | rfl
  · rcases c2 with rfl | rfl
    · exact h0
    · exact h1
  · rcases c2 with rfl | rfl
    · exact h2
    · exact h3
theorem c_atRest (hR : sR R q) {p r a b : Nat} (ha : a < 2) (hb : b < 2) (h1 : I 77 0 = (if z_may nu V pn (V p) 1 = true then 1 else 0)) (h2 : I 77 1 = (if z_may nu V pn (V r) 1 = true then 1 else 0)) (h3 : I 78 0 = z_gn S (V p) 0 ∧ I 78 1 = z_gn S (V p) 0 ∧ I 78 2 = z_gn S (V p) 1 ∧ I 78 3 = z_gn S (V p) (1 + (if pn = z_pc 32 (z_awi nu V 1) + 1 ∧ r < p then 1 else 0))) (h4 : I 78 4 = z_gn S (V r) 0 ∧ I 78 5 = z_gn S (V r) 0 ∧ I 78 6 = z_gn S (V r) 1 ∧ I 78 7 = z_gn S (V r) (1 + (if pn = z_pc 32 (z_awi nu V 1) + 1 ∧ p < r then 1 else 0))) : f_X2_isAtRest N R 76 (nI a) (nI b) I = some ((if z_rs S nu pn V p r a b = true then 1 else 0), I) := by
  have e1 := c_content (N := N) (I := I) hR (sd := 0) (own := a) (oth := b) (by omega) ha hb h1 (z_gg_at (f := I 78) (o := 0 * 4) h3.1 h3.2.1 h3.2.2.1 h3.2.2.2 ha hb) (z_gg_at (f := I 78) (o := 0 * 4) h3.1 h3.2.1 h3.2.2.1 h3.2.2.2 (own := 1 - a) (by omega) hb)
  have e2 := c_content (N := N) (I := I) hR (sd := 1) (own := b) (oth := a) (by omega) hb ha h2 (z_gg_at (f := I 78) (o := 1 * 4) h4.1 h4.2.1 h4.2.2.1 h4.2.2.2 hb ha) (z_gg_at (f := I 78) (o := 1 * 4) h4.1 h4.2.1 h4.2.2.1 h4.2.2.2 (own := 1 - b) (by omega) ha)
  unfold z_rs
  rcases hx : z_ct (z_may nu V pn (V p) 1) a (z_gg S (V p) (if pn = z_pc 32 (z_awi nu V 1) + 1 ∧ r < p then 1 else 0) a b) (z_gg S (V p) (if pn = z_pc 32 (z_awi nu V 1) + 1 ∧ r < p then 1 else 0) (1 - a) b) with _ | _
  · rw [hx, if_neg (by decide)] at e1
    rw [Bool.false_and, if_neg (by decide)]
    simp (disch := omega) only [f_X2_isAtRest, kd_76, e1, zl_0, zl_1, nI_eq, gd_t, gd_pos, lt_eq, Option.bind_some, true_and, and_true, not_true, not_false_iff, false_or, or_false, if_true, if_false, if_pos, if_neg]
  · rw [hx, if_pos rfl] at e1
    rw [Bool.true_and]
    rcases hy : z_ct (z_may nu V pn (V r) 1) b (z_gg S (V r) (if pn = z_pc 32 (z_awi nu V 1) + 1 ∧ p < r then 1 else 0) b a) (z_gg S (V r) (if pn = z_pc 32 (z_awi nu V 1) + 1 ∧ p < r then 1 else 0) (1 - b) a) with _ | _
    · rw [hy, if_neg (by decide)] at e2
      rw [if_neg (by decide)]
      simp (disch := omega) only [f_X2_isAtRest, kd_76, e1, e2, zl_0, zl_1, nI_eq, gd_t, gd_pos, lt_eq, Option.bind_some, true_and, and_true, not_true, not_false_iff, false_or, or_false, if_true, if_false, if_pos, if_neg]
    · rw [hy, if_pos rfl] at e2
      rw [if_pos rfl]
      simp (disch := omega) only [f_X2_isAtRest, kd_76, e1, e2, zl_0, zl_1, nI_eq, gd_t, gd_pos, lt_eq, Option.bind_some, true_and, and_true, not_true, not_false_iff, false_or, or_false, if_true, if_false, if_pos, if_neg]
end ZC
