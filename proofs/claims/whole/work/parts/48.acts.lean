/-! ===== PURE PART: acts that are kept ===== -/
def z_kn (na : Nat) : Nat := if na < 40 then na + 1 else 40
def z_kA (na : Nat) (A : Nat → zT) (T : zT) : Nat → zT := if na < 40 then sm_up A na T else fun i => if i = 39 then T else A (i + 1)
def zCA (nu na : Nat) (A : Nat → zT) (c : Nat) (I : Nat → Nat → Int32) : Prop := na ≤ 40 ∧ ∃ fs, fs < 40 ∧ I c 1 = nI fs ∧ I c 2 = nI na ∧ ∀ i, i < na → zRow nu (A i) (I (c + 1)) (37 * ((fs + i) % 40))
def zMA (nu na : Nat) (A : Nat → zT) (fl cl : Nat) (I : Nat → Nat → Int32) : Prop := na ≤ 40 ∧ I 80 fl = nI na ∧ ∀ i, i < na → zMRow nu (A i) (I cl) (37 * i)
theorem zCA_fr {nu na c : Nat} {A : Nat → zT} {I J : Nat → Nat → Int32} (h : zCA nu na A c I) (h1 : J c = I c) (h2 : J (c + 1) = I (c + 1)) : zCA nu na A c J := by
  unfold zCA at h ⊢
  rw [h1, h2]
  exact h
section ZC
variable {N : Nat} {R : Nat → Nat → Nat} {t q c k nu na pn wk : Nat} {S : zS} {I : Nat → Nat → Int32} {V : Nat → zP} {pl : zP} {A : Nat → zT}
theorem aR_ne (ha : aR R c) (ht : tR R t) : c ∉ zTc t ∧ c + 1 ∉ zTc t ∧ c ≠ c + 1 := by
  obtain ⟨a0, a1, a2⟩ := ha
  obtain ⟨t0, t1, t2, t3, t4⟩ := ht
  have key : ∀ x, sm_kd x ≠ (10, 4) → sm_kd x ≠ (4, 6) → x ∉ zTc t := fun x h1 h2 hx => by
    unfold zTc at hx
    simp only [List.mem_cons, List.not_mem_nil, or_false] at hx
    rcases hx with rfl | rfl | rfl | rfl | rfl | rfl | rfl | rfl
    · exact h1 t0
    · exact h2 (t4 0 (by omega))
    · exact h2 (t4 1 (by omega))
    · exact h2 (t4 2 (by omega))
    · exact h2 (t4 3 (by omega))
    · exact h2 (t4 4 (by omega))
    · exact h2 (t4 5 (by omega))
    · exact h2 (t4 6 (by omega))
  exact ⟨key c (by rw [a0]; decide) (by rw [a0]; decide), key (c + 1) (by rw [a2]; decide) (by rw [a2]; decide), by omega⟩
theorem c_keep (hN : 5000 ≤ N) (ht : tR R t) (ha : aR R c) (hV : zCV nu V t I) (h7 : nu ≤ 7) (hw : I t 2 = nI wk) (hp : I t 3 = nI pn) (hA : zCA nu na A c I) : ∃ J, f_X0_keep N R c t I = some ((), J) ∧ zCA nu (z_kn na) (z_kA na A (wk, pn, V)) c J ∧ zfr [c, c + 1] I J := by
  obtain ⟨a0, a1, a2⟩ := id ha
  have t0 := ht.1
  obtain ⟨hna, fs, hf, e1, e2, e3⟩ := hA
  obtain ⟨J, j1, j2, j3, j4⟩ := c_twrite (o := (fs + na) % 40 * 37) hN ht hV h7 hw hp a2 (by omega) (by omega)
  have jc : J c = I c := j4 c (by simp)
  have f1 : J c 1 = nI fs := by rw [jc]; exact e1
  have f2 : J c 2 = nI na := by rw [jc]; exact e2
  have hfr : zfr [c, c + 1] I J := zfr_mono j4 (by simp)
  by_cases h40 : na < 40
  · refine ⟨sm_up J c (sm_up (J c) 2 (nI (na + 1))), ?_, ?_, zfr_up hfr (by simp) _⟩
    · simp (disch := omega) only [f_X0_keep, a0, a1, t0, e1, e2, zl_40, zl_37, nI_add, zz_rem, pk_mul, j1, f2, gd_t, gd_pos, lt_eq, Option.bind_some, true_and, and_true, not_true, not_false_iff, false_or, or_false, if_true, if_false, if_pos, if_neg, zl_1, nI_leI]
    · unfold z_kn z_kA
      rw [if_pos h40, if_pos h40]
      refine ⟨by omega, fs, hf, by rw [up_s, up_n _ _ (by omega)]; exact f1, by rw [up_s, up_s], fun i hi => ?_⟩
      have hj : sm_up J c (sm_up (J c) 2 (nI (na + 1))) (c + 1) = J (c + 1) := up_n _ _ (by omega)
      rw [hj]
      by_cases hi2 : i = na
      · subst hi2
        rw [up_s, Nat.mul_comm]
        exact j2
      · rw [up_n _ _ hi2]
        exact zRow_eq h7 (e3 i (by omega)) (fun x h1 h2 => j3 x (by omega))
  · obtain rfl : na = 40 := by omega
    refine ⟨sm_up J c (sm_up (J c) 1 (nI ((fs + 1) % 40))), ?_, ?_, zfr_up hfr (by simp) _⟩
    · simp (disch := omega) only [f_X0_keep, a0, a1, t0, e1, e2, zl_40, zl_37, nI_add, zz_rem, pk_mul, j1, f1, f2, gd_t, gd_pos, lt_eq, Option.bind_some, true_and, and_true, not_true, not_false_iff, false_or, or_false, if_true, if_false, if_pos, if_neg, zl_1, nI_leI]
    · unfold z_kn z_kA
      rw [if_neg h40, if_neg h40]
      refine ⟨by omega, (fs + 1) % 40, by omega, by rw [up_s, up_s], by rw [up_s, up_n _ _ (by omega)]; exact f2, fun i hi => ?_⟩
      have hj : sm_up J c (sm_up (J c) 1 (nI ((fs + 1) % 40))) (c + 1) = J (c + 1) := up_n _ _ (by omega)
      rw [hj]
      dsimp only
      by_cases hi2 : i = 39
      · subst hi2
        rw [if_pos rfl, show 37 * (((fs + 1) % 40 + 39) % 40) = (fs + 40) % 40 * 37 by omega]
        exact j2
      · rw [if_neg hi2]
        have h9 := e3 (i + 1) (by omega)
        rw [show 37 * ((fs + (i + 1)) % 40) = 37 * (((fs + 1) % 40 + i) % 40) by omega] at h9
        exact zRow_eq h7 h9 (fun x h1 h2 => j3 x (by omega))
theorem c_takeBack (hN : 5000 ≤ N) (ht : tR R t) (ha : aR R c) (h7 : nu ≤ 7) (hn1 : I t 1 = nI nu) (hA : zCA nu (na + 1) A c I) (h5 : ∀ p, p < nu → I (t + 2 + p) 5 = nI ((A na).2.2 p 5)) : ∃ J, f_X0_takeBack N R c t I = some ((), J) ∧ zCA nu na A c J ∧ zCV nu (A na).2.2 t J ∧ J t 2 = nI (A na).1 ∧ J t 3 = nI (A na).2.1 ∧ zfr (c :: zTc t) I J := by
  obtain ⟨n1, n2, n3⟩ := aR_ne ha ht
  obtain ⟨a0, a1, a2⟩ := id ha
  have t0 := ht.1
  obtain ⟨hna, fs, hf, e1, e2, e3⟩ := hA
  have htc : t ≠ c := fun h => n1 (by rw [← h]; simp [zTc])
  have hpc : ∀ p, p < 7 → t + 2 + p ≠ c := fun p hp h => n1 (by rw [← h]; exact zTc_mem hp)
  have hr := e3 na (by omega)
  have k2 : (sm_up I c (sm_up (I c) 2 (nI na))) (c + 1) = I (c + 1) := up_n _ _ (by omega)
  obtain ⟨J, j1, j2, j3, j4, j5⟩ := c_tread (I := sm_up I c (sm_up (I c) 2 (nI na))) (row := c + 1) (o := (fs + na) % 40 * 37) (T := A na) hN ht h7 (by rw [up_n _ _ htc]; exact hn1) a2 (by omega) (by omega) (by rw [k2, Nat.mul_comm]; exact hr) (fun p hp => by rw [up_n _ _ (hpc p (by omega))]; exact h5 p hp)
  refine ⟨J, ?_, ?_, j2, j3, j4, ?_⟩
  · simp (disch := omega) only [f_X0_takeBack, a0, a1, t0, e1, e2, zl_0, zl_1, zl_40, zl_37, nI_add, Nat.add_sub_cancel, up_s, up_n, zz_rem, pk_mul, pk_sub, j1, gd_t, gd_pos, lt_eq, Option.bind_some, true_and, and_true, not_true, not_false_iff, false_or, or_false, if_true, if_false, if_pos, if_neg, nI_leI]
  · have q1 : J c = sm_up I c (sm_up (I c) 2 (nI na)) c := j5 c n1
    have q2 : J (c + 1) = I (c + 1) := (j5 (c + 1) n2).trans k2
    rw [up_s] at q1
    refine ⟨by omega, fs, hf, by rw [q1, up_n _ _ (by omega)]; exact e1, by rw [q1, up_s], fun i hi => ?_⟩
    rw [q2]
    exact e3 i (by omega)
  · intro x hx
    simp only [List.mem_cons, not_or] at hx
    rw [j5 x hx.2, up_n _ _ hx.1]
theorem c_abecome {c' : Nat} (h7 : nu ≤ 7) (ha : aR R c) (ha' : aR R c') (hne : c ≠ c' ∧ c ≠ c' + 1 ∧ c + 1 ≠ c' ∧ c + 1 ≠ c' + 1) (hA : zCA nu na A c' I) : ∃ J, f_X0_become N R c c' I = some ((), J) ∧ zCA nu na A c J ∧ zfr [c, c + 1] I J := by
  obtain ⟨a0, a1, a2⟩ := ha
  obtain ⟨b0, b1, b2⟩ := ha'
  obtain ⟨hna, fs, hf, e1, e2, e3⟩ := hA
  obtain ⟨n1, n2, n3, n4⟩ := hne
  refine ⟨sm_up (sm_up I (c + 1) (va_cpy (I (c' + 1)) (I (c + 1)) 0 0 1480)) c (sm_up (sm_up (I c) 1 (nI fs)) 2 (nI na)), ?_, ?_, zfr_up (zfr_up (zfr_refl _ _) (by simp) _) (by simp) _⟩
  · simp (disch := omega) only [f_X0_become, a0, a1, a2, b0, b1, b2, zl_0, zl_ofNat, nI_ltI, nI_clamp, Nat.zero_add, Nat.le_refl, gd_t, gd_pos, lt_eq, Option.bind_some, true_and, and_true, not_true, not_false_iff, false_or, or_false, if_true, if_false, if_pos, if_neg, up_s, up_n, up_uu, e1, e2]
  · refine ⟨hna, fs, hf, by rw [up_s, up_n _ _ (by omega), up_s], by rw [up_s, up_s], fun i hi => ?_⟩
    rw [up_n _ _ (by omega), up_s]
    refine zRow_eq h7 (e3 i hi) (fun x h1 h2 => ?_)
    unfold va_cpy
    rw [if_pos (by omega)]
    congr 1
    omega
end ZC
section ZM
variable {N : Nat} {R : Nat → Nat → Nat} {q p nu na pn wk : Nat} {S : zS} {I : Nat → Nat → Int32} {V : Nat → zP} {A : Nat → zT}
theorem m_keep52 (hN : 5000 ≤ N) (hR : sR R q) (hV : zMV nu V I) (h7 : nu ≤ 7) (hw : I 80 31 = nI wk) (hp : I 80 32 = nI pn) {m : Nat} (hm : m < 40) (hm1 : I 80 33 = nI m) : ∃ J, f_X12_keep_52 N R 80 I = some ((), J) ∧ J 80 33 = nI (m + 1) ∧ zMRow nu (wk, pn, V) (J 100) (37 * m) ∧ (∀ x, x < 37 * m ∨ 37 * m + 37 ≤ x → J 100 x = I 100 x) ∧ zfm [100] [33] I J := by
  obtain ⟨J, j1, j2, j3, j4⟩ := m_pack (o := 37 * m) (row := 100) hN hR hV h7 hw hp kd_100 (by omega) (by omega) (by omega)
  have f3 : J 80 33 = nI m := by rw [j4.2 33 (by simp)]; exact hm1
  refine ⟨sm_up J 80 (sm_up (J 80) 33 (nI (m + 1))), ?_, by rw [up_s, up_s], by rw [up_n _ _ (by omega)]; exact j2, fun x hx => by rw [up_n _ _ (by omega)]; exact j3 x hx, zfm_f (zfm_mono j4 (by simp) (by simp)) (by simp) _⟩
  simp (disch := omega) only [f_X12_keep_52, kd_80, r80_30 hR, hm1, zl_37, pk_mul, j1, f3, zl_1, nI_add, gd_t, gd_pos, lt_eq, Option.bind_some, true_and, and_true, not_true, not_false_iff, false_or, or_false, if_true, if_false, if_pos, if_neg]
theorem m_keep (hN : 5000 ≤ N) (hR : sR R q) (hV : zMV nu V I) (h7 : nu ≤ 7) (hw : I 80 31 = nI wk) (hp : I 80 32 = nI pn) (hA : zMA nu na A 33 100 I) : ∃ J, f_X12_keep N R 80 I = some ((), J) ∧ zMA nu (z_kn na) (z_kA na A (wk, pn, V)) 33 100 J ∧ zfm [100] [33] I J := by
  obtain ⟨hna, e1, e2⟩ := hA
  by_cases h40 : na < 40
  · obtain ⟨J, j1, j2, j3, j4, j5⟩ := m_keep52 hN hR hV h7 hw hp h40 e1
    refine ⟨J, ?_, ?_, j5⟩
    · simp (disch := omega) only [f_X12_keep, kd_80, e1, zl_40, nI_eq, gd_t, gd_pos, lt_eq, Option.bind_some, true_and, and_true, not_true, not_false_iff, false_or, or_false, if_true, if_false, if_pos, if_neg, j1]
    · unfold z_kn z_kA
      rw [if_pos h40, if_pos h40]
      refine ⟨by omega, j2, fun i hi => ?_⟩
      by_cases hi2 : i = na
      · subst hi2
        rw [up_s]
        exact j3
      · rw [up_n _ _ hi2]
        exact zMRow_eq h7 (e2 i (by omega)) (fun x h1 h2 => j4 x (by omega))
  · obtain rfl : na = 40 := by omega
    have key := zm_loop (fun m i s => f_X12_keep_12 N R (fun z0 J => f_X12_keep_52 N R z0 J) m 80 (nI (37 + i)) s)
      (fun i s => zfm [100] [] I s ∧ (∀ x, x < i → s 100 x = I 100 (37 + x)) ∧ ∀ x, i ≤ x → s 100 x = I 100 x)
      (fun y => y.1 = () ∧ y.2 80 33 = nI 40 ∧ zMRow nu (wk, pn, V) (y.2 100) (37 * 39) ∧ (∀ x, x < 37 * 39 → y.2 100 x = I 100 (37 + x)) ∧ zfm [100] [33] I y.2) 1443
      (fun m s hs => by
        obtain ⟨s1, s2, s3⟩ := hs
        have g3 : s 80 33 = nI 40 := by rw [s1.2 33 (by simp)]; exact e1
        have fr : zfm [100] [33] I (sm_up s 80 (sm_up (s 80) 33 (nI 39))) := zfm_f (zfm_mono s1 (by simp) (by simp)) (by simp) _
        obtain ⟨J, j1, j2, j3, j4, j5⟩ := m_keep52 (I := sm_up s 80 (sm_up (s 80) 33 (nI 39))) (m := 39) hN hR (zMV_fr hV fr (by decide)) h7 (by rw [fr.2 31 (by simp)]; exact hw) (by rw [fr.2 32 (by simp)]; exact hp) (by omega) (by rw [up_s, up_s])
        refine ⟨((), J), ?_, rfl, j2, j3, fun x hx => ?_, zfm_trans fr j5⟩
        · simp (disch := omega) only [f_X12_keep_12, kd_80, r80_30 hR, kd_100, zl_ofNat, nI_leI, g3, zl_1, pk_sub, Nat.reduceSub, j1, gd_t, gd_pos, lt_eq, Option.bind_some, true_and, and_true, not_true, not_false_iff, false_or, or_false, if_true, if_false, if_pos, if_neg]
        · show J 100 x = I 100 (37 + x)
          rw [j4 x (Or.inl hx), up_n _ _ (by omega)]
          exact s2 x (by omega))
      (fun m i s hi hs => by
        obtain ⟨s1, s2, s3⟩ := hs
        refine ⟨_, ?_, zfm_up (k := 100) s1 (by simp) (by omega) (sm_up (s 100) i (I 100 (37 + i))), fun x hx => ?_, fun x hx => ?_⟩
        · have g := s3 (37 + i) (by omega)
          simp (disch := omega) only [f_X12_keep_12, kd_80, r80_30 hR, kd_100, gd_t, gd_pos, lt_eq, Option.bind_some, true_and, and_true, not_true, not_false_iff, false_or, or_false, if_true, if_false, if_pos, if_neg, zl_0, zl_1, zl_2, zl_3, zl_4, zl_5, zl_6, zl_7, zl_8, zl_9, zl_10, zl_12, zl_14, zl_16, zl_20, zl_21, zl_28, zl_30, zl_32, zl_37, zl_40, zl_60, zl_64, zl_99, zl_100, zl_680, zl_700, zl_999, zl_9999, zl_10000, zl_20000, zl_20001, zl_20002, zl_20003, zl_20004, zl_20005, zl_20006, zl_20007, zl_ofNat, nI_add, pk_mul, nI_leI, nI_ltI, nI_eq, nI_clamp, mx_nI, mn_nI, pk_sub, zz_m1, Nat.add_sub_cancel_left, Nat.add_assoc, g]
        · rw [up_s]
          by_cases hxi : x = i
          · rw [hxi, up_s]
          · rw [up_n _ _ hxi]
            exact s2 x (by omega)
        · rw [up_s, up_n _ _ (by omega)]
          exact s3 x (by omega))
      1443 0 I N (by omega) (by omega) ⟨zfm_refl _ _ _, fun x hx => absurd hx (Nat.not_lt_zero _), fun x _ => rfl⟩
    obtain ⟨⟨u, J⟩, j1, j2, j3, j4, j5, j6⟩ := key
    cases j2
    refine ⟨J, ?_, ?_, j6⟩
    · rw [← j1]
      simp (disch := omega) only [f_X12_keep, kd_80, e1, zl_40, zl_37, nI_eq, gd_t, gd_pos, lt_eq, Option.bind_some, true_and, and_true, not_true, not_false_iff, false_or, or_false, if_true, if_false, if_pos, if_neg]
    · unfold z_kn z_kA
      rw [if_neg h40, if_neg h40]
      refine ⟨by omega, j3, fun i hi => ?_⟩
      dsimp only
      by_cases hi2 : i = 39
      · subst hi2
        rw [if_pos rfl]
        exact j4
      · rw [if_neg hi2]
        refine zMRow_sh h7 (e2 (i + 1) (by omega)) (fun x hx => ?_)
        show J 100 (37 * i + x) = I 100 (37 * (i + 1) + x)
        have j5' : ∀ x, x < 37 * 39 → J 100 x = I 100 (37 + x) := j5
        rw [j5' _ (by omega)]
        congr 1
        omega
theorem m_copy (hN : 5000 ≤ N) {a b n : Nat} (ha : sm_kd a = (13, n)) (hb : sm_kd b = (13, n)) (hne : a ≠ b) (h8 : a ≠ 80) (hn : n ≤ 2000) : ∃ J, f_X12_copyTo N R a b I = some ((), J) ∧ (∀ x, x < n → J a x = I b x) ∧ zfm [a] [] I J := by
  have key := zm_loop (fun m i s => f_X12_copyTo_2 N R m a b (nI i) s) (fun i s => zfm [a] [] I s ∧ s b = I b ∧ ∀ x, x < i → s a x = I b x) (fun y => y.1 = () ∧ (∀ x, x < n → y.2 a x = I b x) ∧ zfm [a] [] I y.2) n
    (fun m s hs => ⟨((), s), by simp (disch := omega) only [f_X12_copyTo_2, ha, zl_ofNat, nI_leI, gd_t, gd_pos, lt_eq, Option.bind_some, true_and, and_true, not_true, not_false_iff, false_or, or_false, if_true, if_false, if_pos, if_neg], rfl, hs.2.2, hs.1⟩)
    (fun m i s hi hs => by
      have g := hs.2.1
      refine ⟨_, ?_, zfm_up (k := a) hs.1 (by simp) h8 (sm_up (s a) i (I b i)), by rw [up_n _ _ (Ne.symm hne)]; exact g, fun x hx => ?_⟩
      · simp (disch := omega) only [f_X12_copyTo_2, ha, hb, g, gd_t, gd_pos, lt_eq, Option.bind_some, true_and, and_true, not_true, not_false_iff, false_or, or_false, if_true, if_false, if_pos, if_neg, zl_0, zl_1, zl_2, zl_3, zl_4, zl_5, zl_6, zl_7, zl_8, zl_9, zl_10, zl_12, zl_14, zl_16, zl_20, zl_21, zl_28, zl_30, zl_32, zl_37, zl_40, zl_60, zl_64, zl_99, zl_100, zl_680, zl_700, zl_999, zl_9999, zl_10000, zl_20000, zl_20001, zl_20002, zl_20003, zl_20004, zl_20005, zl_20006, zl_20007, zl_ofNat, nI_add, pk_mul, nI_leI, nI_ltI, nI_eq, nI_clamp, mx_nI, mn_nI, pk_sub, zz_m1]
      · rw [up_s]
        by_cases hxi : x = i
        · rw [hxi, up_s]
        · rw [up_n _ _ hxi]
          exact hs.2.2 x (by omega))
    n 0 I N (by omega) (by omega) ⟨zfm_refl _ _ _, rfl, fun x hx => absurd hx (Nat.not_lt_zero _)⟩
  obtain ⟨⟨u, J⟩, j1, j2, j3, j4⟩ := key
  cases j2
  exact ⟨J, j1, j3, j4⟩
end ZM
