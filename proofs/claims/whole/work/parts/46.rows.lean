/-! ===== PURE PART: rows in which a term is kept ===== -/
theorem zz_rem {a b : Nat} (ha : a < 2 ^ 31) (hb0 : 0 < b) (hb : b < 2 ^ 31) : nI a - nI a / nI b * nI b = nI (a % b) := pk_rem ha hb0 hb
abbrev zT : Type := Nat × Nat × (Nat → zP)
def zRow (nu : Nat) (T : zT) (f : Nat → Int32) (o : Nat) : Prop := f o = nI T.1 ∧ f (o + 1) = nI T.2.1 ∧ ∀ p, p < nu → ∀ j, j < 5 → f (o + 2 + 5 * p + j) = nI (T.2.2 p j)
def zMRow (nu : Nat) (T : zT) (f : Nat → Int32) (o : Nat) : Prop := f o = nI T.1 ∧ f (o + 1) = nI T.2.1 ∧ ∀ p, p < nu → ∀ j, j < 5 → f (o + 2 + 7 * j + p) = nI (T.2.2 p j)
theorem zRow_eq {nu : Nat} {T : zT} {f g : Nat → Int32} {o : Nat} (h7 : nu ≤ 7) (h : zRow nu T f o) (he : ∀ x, o ≤ x → x < o + 37 → g x = f x) : zRow nu T g o := by
  refine ⟨by rw [he o (by omega) (by omega)]; exact h.1, by rw [he (o + 1) (by omega) (by omega)]; exact h.2.1, fun p hp j hj => ?_⟩
  rw [he _ (by omega) (by omega)]
  exact h.2.2 p hp j hj
theorem zMRow_eq {nu : Nat} {T : zT} {f g : Nat → Int32} {o : Nat} (h7 : nu ≤ 7) (h : zMRow nu T f o) (he : ∀ x, o ≤ x → x < o + 37 → g x = f x) : zMRow nu T g o := by
  refine ⟨by rw [he o (by omega) (by omega)]; exact h.1, by rw [he (o + 1) (by omega) (by omega)]; exact h.2.1, fun p hp j hj => ?_⟩
  rw [he _ (by omega) (by omega)]
  exact h.2.2 p hp j hj
theorem zMRow_sh {nu : Nat} {T : zT} {f g : Nat → Int32} {o o' : Nat} (h7 : nu ≤ 7) (h : zMRow nu T f o') (he : ∀ x, x < 37 → g (o + x) = f (o' + x)) : zMRow nu T g o := by
  refine ⟨by have := he 0 (by omega); rw [Nat.add_zero, Nat.add_zero] at this; rw [this]; exact h.1, by rw [he 1 (by omega)]; exact h.2.1, fun p hp j hj => ?_⟩
  have := he (2 + 7 * j + p) (by omega)
  rw [show o + 2 + 7 * j + p = o + (2 + 7 * j + p) by omega, this, show o' + (2 + 7 * j + p) = o' + 2 + 7 * j + p by omega]
  exact h.2.2 p hp j hj
section ZC
variable {N : Nat} {R : Nat → Nat → Nat} {t q k nu pn wk row n o : Nat} {S : zS} {I : Nat → Nat → Int32} {V : Nat → zP} {pl : zP}
def zpw (f : Nat → Int32) (o : Nat) (v : Nat → Int32) : Nat → Int32 := sm_up (sm_up (sm_up (sm_up (sm_up f o (v 0)) (o + 1) (v 1)) (o + 2) (v 2)) (o + 3) (v 3)) (o + 4) (v 4)
theorem zpw_in {f : Nat → Int32} {o : Nat} {v : Nat → Int32} {j : Nat} (hj : j < 5) : zpw f o v (o + j) = v j := by
  have hc : j = 0 ∨ j = 1 ∨ j = 2 ∨ j = 3 ∨ j = 4 := by omega
  rcases hc with rfl | rfl | rfl | rfl | rfl
  · show zpw f o v o = v 0
    unfold zpw
    simp (disch := omega) only [up_s, up_n]
  all_goals
    unfold zpw
    simp (disch := omega) only [up_s, up_n]
theorem zpw_out {f : Nat → Int32} {o : Nat} {v : Nat → Int32} {x : Nat} (h : x < o ∨ o + 5 ≤ x) : zpw f o v x = f x := by
  unfold zpw
  simp (disch := omega) only [up_n]
theorem c_pwrite (hk : sm_kd k = (4, 6)) (hr : sm_kd row = (13, n)) (ho : o + 5 ≤ n) (hn : n ≤ 2000) : f_X4_write N R k row (nI o) I = some ((), sm_up I row (zpw (I row) o (I k))) := by
  have hne : ¬ k = row := fun h => by rw [h, hr] at hk; cases hk
  unfold zpw
  simp (disch := omega) only [f_X4_write, hk, hr, gd_t, gd_pos, lt_eq, Option.bind_some, true_and, and_true, not_true, not_false_iff, false_or, or_false, if_true, if_false, if_pos, if_neg, up_s, up_n, up_uu, zl_0, zl_1, zl_2, zl_3, zl_4, zl_5, zl_6, zl_7, zl_8, zl_9, zl_10, zl_12, zl_14, zl_16, zl_20, zl_21, zl_28, zl_30, zl_32, zl_37, zl_40, zl_60, zl_64, zl_99, zl_100, zl_680, zl_700, zl_999, zl_9999, zl_10000, zl_20000, zl_20001, zl_20002, zl_20003, zl_20004, zl_20005, zl_20006, zl_20007, zl_ofNat, nI_add, pk_mul, nI_leI, nI_ltI, nI_eq, nI_clamp, mx_nI, mn_nI, pk_sub, zz_m1]
theorem c_twrite (hN : 5000 ≤ N) (ht : tR R t) (hV : zCV nu V t I) (h7 : nu ≤ 7) (hw : I t 2 = nI wk) (hp : I t 3 = nI pn) (hr : sm_kd row = (13, n)) (ho : o + 37 ≤ n) (hn : n ≤ 2000) : ∃ J, f_X10_write N R t row (nI o) I = some ((), J) ∧ zRow nu (wk, pn, V) (J row) o ∧ (∀ x, x < o ∨ o + 37 ≤ x → J row x = I row x) ∧ zfr [row] I J := by
  obtain ⟨t0, t1, t2, t3, t4⟩ := ht
  have hne : ¬ t = row := fun h => by rw [h, hr] at t0; cases t0
  have hnk : ∀ p, p < 7 → ¬ t + 2 + p = row := fun p hp h => by
    have := t4 p hp
    rw [h, hr] at this
    cases this
  have hn1 := hV.1
  have key := zm_loop (fun m i s => f_X10_write_32 N R m t row (nI o) (nI i) s)
    (fun i s => zfr [row] I s ∧ (∀ x, x < o ∨ o + 37 ≤ x → s row x = I row x) ∧ s row o = nI wk ∧ s row (o + 1) = nI pn ∧ ∀ p, p < i → ∀ j, j < 5 → s row (o + 2 + 5 * p + j) = nI (V p j))
    (fun y => y.1 = () ∧ zRow nu (wk, pn, V) (y.2 row) o ∧ (∀ x, x < o ∨ o + 37 ≤ x → y.2 row x = I row x) ∧ zfr [row] I y.2) nu
    (fun m s hs => ⟨((), s), by
      have h1 : s t 1 = nI nu := by rw [hs.1 t (by simpa using hne)]; exact hn1
      simp (disch := omega) only [f_X10_write_32, t0, h1, gd_t, gd_pos, lt_eq, Option.bind_some, true_and, and_true, not_true, not_false_iff, false_or, or_false, if_true, if_false, if_pos, if_neg, nI_leI], rfl, ⟨hs.2.2.1, hs.2.2.2.1, hs.2.2.2.2⟩, hs.2.1, hs.1⟩)
    (fun m i s hi hs => by
      have h1 : s t 1 = nI nu := by rw [hs.1 t (by simpa using hne)]; exact hn1
      have hpl : s (t + 2 + i) = I (t + 2 + i) := hs.1 _ (by simpa using hnk i (by omega))
      have e := c_pwrite (N := N) (R := R) (I := s) (o := o + 2 + i * 5) (t4 i (by omega)) hr (by omega) hn
      refine ⟨_, ?_, zfr_up (k := row) hs.1 (by simp) (zpw (s row) (o + 2 + i * 5) (s (t + 2 + i))), ?_, ?_, ?_, ?_⟩
      · simp (disch := omega) only [f_X10_write_32, t0, t1, t2, t3, t4, h1, gd_t, gd_pos, lt_eq, Option.bind_some, true_and, and_true, not_true, not_false_iff, false_or, or_false, if_true, if_false, if_pos, if_neg, zl_0, zl_1, zl_2, zl_3, zl_4, zl_5, zl_6, zl_7, zl_8, zl_9, zl_10, zl_12, zl_14, zl_16, zl_20, zl_21, zl_28, zl_30, zl_32, zl_37, zl_40, zl_60, zl_64, zl_99, zl_100, zl_680, zl_700, zl_999, zl_9999, zl_10000, zl_20000, zl_20001, zl_20002, zl_20003, zl_20004, zl_20005, zl_20006, zl_20007, zl_ofNat, nI_add, pk_mul, nI_leI, nI_ltI, nI_eq, nI_clamp, mx_nI, mn_nI, pk_sub, zz_m1, e]
      · intro x hx
        rw [up_s, zpw_out (by omega)]
        exact hs.2.1 x hx
      · rw [up_s, zpw_out (by omega)]
        exact hs.2.2.1
      · rw [up_s, zpw_out (by omega)]
        exact hs.2.2.2.1
      · intro p hp j hj
        rw [up_s]
        by_cases hpi : p = i
        · subst hpi
          rw [show o + 2 + 5 * p + j = o + 2 + p * 5 + j by omega, zpw_in hj, hpl]
          exact hV.2 p hi j (by omega)
        · rw [zpw_out (by omega)]
          exact hs.2.2.2.2 p (by omega) j hj)
    nu 0 (sm_up I row (sm_up (sm_up (I row) o (nI wk)) (o + 1) (nI pn))) N (by omega) (by omega)
    ⟨zfr_up (zfr_refl _ _) (by simp) _, fun x hx => by rw [up_s, up_n _ _ (by omega), up_n _ _ (by omega)], by rw [up_s, up_n _ _ (by omega), up_s], by rw [up_s, up_s], fun p hp => absurd hp (Nat.not_lt_zero _)⟩
  obtain ⟨⟨u, J⟩, h1, h2, h3, h4, h5⟩ := key
  refine ⟨J, ?_, h3, h4, h5⟩
  cases h2
  rw [← h1]
  simp (disch := omega) only [f_X10_write, t0, hr, hw, hp, gd_t, gd_pos, lt_eq, Option.bind_some, true_and, and_true, not_true, not_false_iff, false_or, or_false, if_true, if_false, if_pos, if_neg, up_s, up_n, up_uu, zl_0, zl_1, zl_2, zl_3, zl_4, zl_5, zl_6, zl_7, zl_8, zl_9, zl_10, zl_12, zl_14, zl_16, zl_20, zl_21, zl_28, zl_30, zl_32, zl_37, zl_40, zl_60, zl_64, zl_99, zl_100, zl_680, zl_700, zl_999, zl_9999, zl_10000, zl_20000, zl_20001, zl_20002, zl_20003, zl_20004, zl_20005, zl_20006, zl_20007, zl_ofNat, nI_add, pk_mul, nI_leI, nI_ltI, nI_eq, nI_clamp, mx_nI, mn_nI, pk_sub, zz_m1]
theorem c_pread (hk : sm_kd k = (4, 6)) (hr : sm_kd row = (13, n)) (ho : o + 5 ≤ n) (hn : n ≤ 2000) : f_X4_read N R k row (nI o) I = some ((), sm_up I k (sm_up (sm_up (sm_up (sm_up (sm_up (I k) 0 (I row o)) 1 (I row (o + 1))) 2 (I row (o + 2))) 3 (I row (o + 3))) 4 (I row (o + 4)))) := by
  have hne : ¬ row = k := fun h => by rw [← h, hr] at hk; cases hk
  simp (disch := omega) only [f_X4_read, hk, hr, gd_t, gd_pos, lt_eq, Option.bind_some, true_and, and_true, not_true, not_false_iff, false_or, or_false, if_true, if_false, if_pos, if_neg, up_s, up_n, up_uu, zl_0, zl_1, zl_2, zl_3, zl_4, zl_5, zl_6, zl_7, zl_8, zl_9, zl_10, zl_12, zl_14, zl_16, zl_20, zl_21, zl_28, zl_30, zl_32, zl_37, zl_40, zl_60, zl_64, zl_99, zl_100, zl_680, zl_700, zl_999, zl_9999, zl_10000, zl_20000, zl_20001, zl_20002, zl_20003, zl_20004, zl_20005, zl_20006, zl_20007, zl_ofNat, nI_add, pk_mul, nI_leI, nI_ltI, nI_eq, nI_clamp, mx_nI, mn_nI, pk_sub, zz_m1]
def zTc (t : Nat) : List Nat := [t, t + 2, t + 3, t + 4, t + 5, t + 6, t + 7, t + 8]
theorem zTc_mem {t i : Nat} (h : i < 7) : t + 2 + i ∈ zTc t := by
  have hc : i = 0 ∨ i = 1 ∨ i = 2 ∨ i = 3 ∨ i = 4 ∨ i = 5 ∨ i = 6 := by omega
  rcases hc with rfl | rfl | rfl | rfl | rfl | rfl | rfl <;> simp [zTc]
theorem c_tread (hN : 5000 ≤ N) (ht : tR R t) (h7 : nu ≤ 7) (hn1 : I t 1 = nI nu) (hr : sm_kd row = (13, n)) (ho : o + 37 ≤ n) (hn : n ≤ 2000) {T : zT} (hrow : zRow nu T (I row) o) (h5 : ∀ p, p < nu → I (t + 2 + p) 5 = nI (T.2.2 p 5)) : ∃ J, f_X10_read N R t row (nI o) I = some ((), J) ∧ zCV nu T.2.2 t J ∧ J t 2 = nI T.1 ∧ J t 3 = nI T.2.1 ∧ zfr (zTc t) I J := by
  obtain ⟨t0, t1, t2, t3, t4⟩ := ht
  have hne : ¬ row = t := fun h => by rw [← h, hr] at t0; cases t0
  have hnk : ∀ p, p < 7 → ¬ row = t + 2 + p := fun p hp h => by
    have := t4 p hp
    rw [← h, hr] at this
    cases this
  have hrn : row ∉ zTc t := by
    unfold zTc
    simp only [List.mem_cons, List.not_mem_nil, or_false]
    have a0 := hnk 0 (by omega)
    have a1 := hnk 1 (by omega)
    have a2 := hnk 2 (by omega)
    have a3 := hnk 3 (by omega)
    have a4 := hnk 4 (by omega)
    have a5 := hnk 5 (by omega)
    have a6 := hnk 6 (by omega)
    omega
  obtain ⟨w1, w2, w3⟩ := hrow
  have key := zm_loop (fun m i s => f_X10_read_32 N R m t row (nI o) (nI i) s)
    (fun i s => zfr (zTc t) I s ∧ s t 1 = nI nu ∧ s t 2 = nI T.1 ∧ s t 3 = nI T.2.1 ∧ (∀ p, p < nu → s (t + 2 + p) 5 = nI (T.2.2 p 5)) ∧ ∀ p, p < i → zPl (T.2.2 p) (s (t + 2 + p)))
    (fun y => y.1 = () ∧ zCV nu T.2.2 t y.2 ∧ y.2 t 2 = nI T.1 ∧ y.2 t 3 = nI T.2.1 ∧ zfr (zTc t) I y.2) nu
    (fun m s hs => ⟨((), s), by
      have h1 := hs.2.1
      simp (disch := omega) only [f_X10_read_32, t0, h1, gd_t, gd_pos, lt_eq, Option.bind_some, true_and, and_true, not_true, not_false_iff, false_or, or_false, if_true, if_false, if_pos, if_neg, nI_leI], rfl, ⟨hs.2.1, hs.2.2.2.2.2⟩, hs.2.2.1, hs.2.2.2.1, hs.1⟩)
    (fun m i s hi hs => by
      have h1 := hs.2.1
      have e := c_pread (N := N) (R := R) (I := s) (o := o + 2 + i * 5) (t4 i (by omega)) hr (by omega) hn
      have er : s row = I row := hs.1 row hrn
      have g5 := hs.2.2.2.2.1 i hi
      rw [er, show o + 2 + i * 5 = o + 2 + 5 * i + 0 by omega, w3 i hi 0 (by omega), show o + 2 + 5 * i + 0 + 1 = o + 2 + 5 * i + 1 by omega, show o + 2 + 5 * i + 0 + 2 = o + 2 + 5 * i + 2 by omega, show o + 2 + 5 * i + 0 + 3 = o + 2 + 5 * i + 3 by omega, show o + 2 + 5 * i + 0 + 4 = o + 2 + 5 * i + 4 by omega, w3 i hi 1 (by omega), w3 i hi 2 (by omega), w3 i hi 3 (by omega), w3 i hi 4 (by omega), show o + 2 + 5 * i + 0 = o + 2 + i * 5 by omega] at e
      refine ⟨_, ?_, zfr_up (k := t + 2 + i) hs.1 (zTc_mem (by omega)) (sm_up (sm_up (sm_up (sm_up (sm_up (s (t + 2 + i)) 0 (nI (T.2.2 i 0))) 1 (nI (T.2.2 i 1))) 2 (nI (T.2.2 i 2))) 3 (nI (T.2.2 i 3))) 4 (nI (T.2.2 i 4))), ?_, ?_, ?_, ?_, ?_⟩
      · simp (disch := omega) only [f_X10_read_32, t0, t1, t2, t3, t4, h1, gd_t, gd_pos, lt_eq, Option.bind_some, true_and, and_true, not_true, not_false_iff, false_or, or_false, if_true, if_false, if_pos, if_neg, zl_0, zl_1, zl_2, zl_3, zl_4, zl_5, zl_6, zl_7, zl_8, zl_9, zl_10, zl_12, zl_14, zl_16, zl_20, zl_21, zl_28, zl_30, zl_32, zl_37, zl_40, zl_60, zl_64, zl_99, zl_100, zl_680, zl_700, zl_999, zl_9999, zl_10000, zl_20000, zl_20001, zl_20002, zl_20003, zl_20004, zl_20005, zl_20006, zl_20007, zl_ofNat, nI_add, pk_mul, nI_leI, nI_ltI, nI_eq, nI_clamp, mx_nI, mn_nI, pk_sub, zz_m1, e]
      · rw [up_n _ _ (by omega)]
        exact h1
      · rw [up_n _ _ (by omega)]
        exact hs.2.2.1
      · rw [up_n _ _ (by omega)]
        exact hs.2.2.2.1
      · intro p hp
        by_cases hpi : p = i
        · subst hpi
          rw [up_s]
          simp (disch := omega) only [up_s, up_n]
          exact g5
        · rw [up_n _ _ (by omega)]
          exact hs.2.2.2.2.1 p hp
      · intro p hp
        by_cases hpi : p = i
        · subst hpi
          rw [up_s]
          intro j hj
          have hc : j = 0 ∨ j = 1 ∨ j = 2 ∨ j = 3 ∨ j = 4 ∨ j = 5 := by omega
          rcases hc with rfl | rfl | rfl | rfl | rfl | rfl
          all_goals simp (disch := omega) only [up_s, up_n, g5]
        · rw [up_n _ _ (by omega)]
          exact hs.2.2.2.2.2 p (by omega))
    nu 0 (sm_up I t (sm_up (sm_up (I t) 2 (nI T.1)) 3 (nI T.2.1))) N (by omega) (by omega)
    ⟨zfr_up (zfr_refl _ _) (by simp [zTc]) _, by rw [up_s, up_n _ _ (by omega), up_n _ _ (by omega)]; exact hn1, by rw [up_s, up_n _ _ (by omega), up_s], by rw [up_s, up_s], fun p hp => by rw [up_n _ _ (by omega)]; exact h5 p hp, fun p hp => absurd hp (Nat.not_lt_zero _)⟩
  obtain ⟨⟨u, J⟩, h1, h2, h3, h4, h6, h8⟩ := key
  refine ⟨J, ?_, h3, h4, h6, h8⟩
  cases h2
  rw [← h1]
  simp (disch := omega) only [f_X10_read, t0, hr, w1, w2, gd_t, gd_pos, lt_eq, Option.bind_some, true_and, and_true, not_true, not_false_iff, false_or, or_false, if_true, if_false, if_pos, if_neg, up_s, up_n, up_uu, zl_0, zl_1, zl_2, zl_3, zl_4, zl_5, zl_6, zl_7, zl_8, zl_9, zl_10, zl_12, zl_14, zl_16, zl_20, zl_21, zl_28, zl_30, zl_32, zl_37, zl_40, zl_60, zl_64, zl_99, zl_100, zl_680, zl_700, zl_999, zl_9999, zl_10000, zl_20000, zl_20001, zl_20002, zl_20003, zl_20004, zl_20005, zl_20006, zl_20007, zl_ofNat, nI_add, pk_mul, nI_leI, nI_ltI, nI_eq, nI_clamp, mx_nI, mn_nI, pk_sub, zz_m1]
end ZC
