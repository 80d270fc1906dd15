/-! ===== PURE PART: the model: weeks, the door ===== -/
theorem up_fun {α : Type} {f g : Nat → α} {k : Nat} {v : α} (h1 : g k = v) (h2 : ∀ j, j ≠ k → g j = f j) : sm_up f k v = g := by
  funext j
  by_cases e : j = k
  · rw [e, up_s, h1]
  · rw [up_n f v e, h2 j e]
theorem zMV_cong {nu : Nat} {V W : Nat → zP} {I : Nat → Nat → Int32} (h : zMV nu V I) (e : ∀ p, p < nu → V p = W p) : zMV nu W I := ⟨h.1, fun p hp => by
  rw [← e p hp]
  exact h.2 p hp⟩
section ZM
variable {N : Nat} {R : Nat → Nat → Nat} {q p nu : Nat} {S : zS} {I : Nat → Nat → Int32} {V : Nat → zP}
theorem m_isOf {n j : Nat} (hn : n < 2 ^ 31) (hj : j < 32) : f_X12_isOf N R (nI n) (nI j) I = some ((if n / 2 ^ j % 2 = 1 then 1 else 0), I) := by
  have e := zb_bit hn hj
  by_cases hc : n / 2 ^ j % 2 = 1
  · simp (disch := omega) only [f_X12_isOf, zl_1, e, gd_t, gd_pos, lt_eq, Option.bind_some, true_and, and_true, not_true, not_false_iff, false_or, or_false, if_true, if_false, if_pos, if_neg, nI_eq]
  · simp (disch := omega) only [f_X12_isOf, zl_1, e, gd_t, gd_pos, lt_eq, Option.bind_some, true_and, and_true, not_true, not_false_iff, false_or, or_false, if_true, if_false, if_pos, if_neg, nI_eq]
set_option maxHeartbeats 4000000 in
theorem m_week1 (hN : 5000 ≤ N) (hR : sR R q) (hso : z_sok S) (hS : zMS S I) (hV : zMV nu V I) (h7 : nu ≤ 7) (hp : p < nu) (ho : z_pok S (V p)) (n : Nat) : ∃ J, f_X12_aWeek_2 N R (n + 1) 80 (nI p) I = f_X12_aWeek_2 N R n 80 (nI (p + 1)) J ∧ zMV nu (sm_up V p (z_wk S (V p))) J ∧ zfm [95, 96, 98, 99, 101, 102] [] I J := by
  have hV1 := hV.1
  obtain ⟨v0, v1, v2, v3, v4, v5⟩ := hV.2 p hp
  obtain ⟨o0, o1, o2, o3, o4, o5⟩ := id ho
  have e := m_isOf (N := N) (R := R) (I := I) (n := V p 4) (j := 0) (by omega) (by omega)
  rw [Nat.pow_zero, Nat.div_one] at e
  have hu : ∀ x, x < 2 ^ 30 → nI x >>> (nI 1 &&& 31) = nI (x / 2) := fun x hx => zb_shr (j := 1) (by omega) (by omega)
  by_cases hc : V p 4 % 2 = 1
  · rw [if_pos hc] at e
    refine ⟨sm_up I 99 (sm_up (I 99) p (nI (V p 4 / 2))), ?_, ?_, zfm_up (zfm_refl _ _ _) (by simp) (by omega) _⟩
    · simp (disch := omega) only [f_X12_aWeek_2, kd_80, r80_4 hR, kd_84, r80_29 hR, kd_99, v4, hV1, zl_0, e, gd_t, gd_pos, lt_eq, Option.bind_some, true_and, and_true, not_true, not_false_iff, false_or, or_false, if_true, if_false, if_pos, if_neg, zl_0, zl_1, zl_2, zl_3, zl_4, zl_5, zl_6, zl_7, zl_8, zl_9, zl_10, zl_12, zl_14, zl_16, zl_20, zl_21, zl_28, zl_30, zl_32, zl_37, zl_40, zl_60, zl_64, zl_99, zl_100, zl_680, zl_700, zl_999, zl_9999, zl_10000, zl_20000, zl_20001, zl_20002, zl_20003, zl_20004, zl_20005, zl_20006, zl_20007, zl_ofNat, nI_add, pk_mul, nI_leI, nI_ltI, nI_eq, nI_clamp, mx_nI, mn_nI, pk_sub, zz_m1, hu]
    · rw [z_wk_away hc]
      exact zMV_up99 hV
  · rw [if_neg hc] at e
    obtain ⟨J, j1, j2, j3⟩ := m_practise hN hR hso hS hV h7 hp ho
    have hS2 := zMS_fr hS j3 (by decide)
    have ho2 : z_pok S (sm_up V p (z_pr S (V p)) p) := by
      rw [up_s]
      exact z_pok_pr ho
    have e2 := m_lesson hN hR hso hS2 j2 h7 hp ho2
    rw [up_s] at e2
    obtain ⟨w0, w1, w2, w3, w4, w5⟩ := j2.2 p hp
    rw [up_s] at w0 w1 w2 w3 w4 w5
    have l1 : z_pr S (V p) 1 = V p 1 := rfl
    have l4 : z_pr S (V p) 4 = V p 4 := rfl
    rw [l1] at w1
    rw [l4] at w4
    have hsub : sm_mx (nI 0) (nI (V p 1) - nI 1) = nI (V p 1 - 1) := by
      by_cases h0 : V p 1 = 0
      · rw [h0]
        decide
      · rw [pk_sub (by omega), mx_nI (by omega) (by omega), Nat.max_eq_right (by omega)]
    have hV3 := zMV_up99 (p := p) (v := V p 4 / 2) (zMV_up96 (p := p) (v := V p 1 - 1) (zMV_up98 (p := p) (v := z_le S (z_pr S (V p)) 3) j2))
    refine ⟨_, ?_, zMV_cong hV3 (fun a ha => ?_), zfm_up (zfm_up (zfm_up (zfm_mono j3 (by simp) (by simp)) (by simp) (by omega) _) (by simp) (by omega) _) (by simp) (by omega) _⟩
    · simp (disch := omega) only [f_X12_aWeek_2, kd_80, r80_4 hR, kd_84, r80_29 hR, kd_99, r80_26 hR, kd_96, v4, hV1, zl_0, e, j1, e2, w1, w4, hsub, gd_t, gd_pos, lt_eq, Option.bind_some, true_and, and_true, not_true, not_false_iff, false_or, or_false, if_true, if_false, if_pos, if_neg, up_s, up_n, up_uu, zl_1, nI_add, nI_leI, nI_ltI, nI_eq, nI_clamp, hu]
    · have ev : z_wk S (V p) = sm_up (sm_up (sm_up (z_pr S (V p)) 3 (z_le S (z_pr S (V p)) 3)) 1 (V p 1 - 1)) 4 (V p 4 / 2) := by
        rw [z_wk_here hc]
        unfold z_aw z_le
        simp (disch := omega) only [up_s, up_n]
        rfl
      rw [ev]
      by_cases hap : a = p
      · subst hap
        simp (disch := omega) only [up_s, up_n, up_uu]
      · simp (disch := omega) only [up_s, up_n, up_uu]
theorem m_week2 (hN : 5000 ≤ N) (hR : sR R q) (hso : z_sok S) (h7 : nu ≤ 7) : ∀ (d i n : Nat) (I : Nat → Nat → Int32) (V : Nat → zP), i + d = nu → d < n → zMS S I → zMV nu V I → (∀ p, p < nu → z_pok S (V p)) → ∃ J, f_X12_aWeek_2 N R n 80 (nI i) I = some ((), J) ∧ zMV nu (fun p => if i ≤ p then z_wk S (V p) else V p) J ∧ J 80 31 = I 80 31 + nI 1 ∧ zfm [95, 96, 98, 99, 101, 102] [31] I J
  | _, _, 0, _, _, _, h, _, _, _ => absurd h (Nat.not_lt_zero _)
  | 0, i, n + 1, I, V, e, _, hS, hV, ho => by
    have hV1 := hV.1
    refine ⟨sm_up I 80 (sm_up (I 80) 31 (I 80 31 + nI 1)), ?_, ?_, ?_, zfm_f (zfm_refl _ _ _) (by simp) _⟩
    · simp (disch := omega) only [f_X12_aWeek_2, kd_80, r80_4 hR, kd_84, hV1, gd_t, gd_pos, lt_eq, Option.bind_some, true_and, and_true, not_true, not_false_iff, false_or, or_false, if_true, if_false, if_pos, if_neg, zl_0, zl_1, nI_leI, nI_ltI, nI_clamp]
    · have h1 := zMV_fr hV (zfm_f (L := []) (F := [31]) (zfm_refl _ _ I) (i := 31) (by simp) (I 80 31 + nI 1)) (by decide)
      refine zMV_cong h1 (fun p hp => ?_)
      rw [if_neg (by omega)]
    · rw [up_s, up_s]
  | d + 1, i, n + 1, I, V, e, hn, hS, hV, ho => by
    obtain ⟨J, j1, j2, j3⟩ := m_week1 hN hR hso hS hV h7 (p := i) (by omega) (ho i (by omega)) n
    obtain ⟨K, k1, k2, k3, k4⟩ := m_week2 hN hR hso h7 d (i + 1) n J _ (by omega) (by omega) (zMS_fr hS j3 (by decide)) j2 (fun p hp => by
      by_cases hpi : p = i
      · rw [hpi, up_s]
        exact z_pok_wk (ho i (by omega))
      · rw [up_n V _ hpi]
        exact ho p hp)
    refine ⟨K, j1.trans k1, ?_, ?_, zfm_trans (zfm_mono j3 (by simp) (by simp)) k4⟩
    · refine zMV_cong k2 (fun p hp => ?_)
      by_cases hpi : p = i
      · subst hpi
        rw [if_neg (by omega), if_pos (by omega), up_s]
      · rw [up_n V _ hpi]
        by_cases h1 : i ≤ p
        · rw [if_pos h1, if_pos (by omega)]
        · rw [if_neg h1, if_neg (by omega)]
    · rw [k3, j3.2 31 (by simp)]
theorem m_week (hN : 5000 ≤ N) (hR : sR R q) (hso : z_sok S) (h7 : nu ≤ 7) (hS : zMS S I) (hV : zMV nu V I) (ho : ∀ p, p < nu → z_pok S (V p)) : ∃ J, f_X12_aWeek N R 80 I = some ((), J) ∧ zMV nu (fun p => z_wk S (V p)) J ∧ J 80 31 = I 80 31 + nI 1 ∧ zfm [95, 96, 98, 99, 101, 102] [31] I J := by
  obtain ⟨J, j1, j2, j3, j4⟩ := m_week2 hN hR hso h7 nu 0 N I V (by omega) (by omega) hS hV ho
  exact ⟨J, j1, zMV_cong j2 (fun p hp => if_pos (Nat.zero_le p)), j3, j4⟩
theorem m_goOn2 (hN : 5000 ≤ N) (hR : sR R q) (hso : z_sok S) (h7 : nu ≤ 7) {m : Nat} (hm : m ≤ 60) : ∀ (d i n : Nat) (I : Nat → Nat → Int32) (V : Nat → zP), i + d = m → d < n → zMS S I → zMV nu V I → (∀ p, p < nu → z_pok S (V p)) → ∃ J, f_X12_goOn_2 N R n 80 (nI m) (nI i) I = some ((), J) ∧ zMV nu (fun p => z_wks S d (V p)) J ∧ J 80 31 = I 80 31 + nI d ∧ zfm [95, 96, 98, 99, 101, 102] [31] I J
  | _, _, 0, _, _, _, h, _, _, _ => absurd h (Nat.not_lt_zero _)
  | 0, i, n + 1, I, V, e, _, hS, hV, ho => ⟨I, by simp (disch := omega) only [f_X12_goOn_2, gd_t, gd_pos, lt_eq, Option.bind_some, true_and, and_true, not_true, not_false_iff, false_or, or_false, if_true, if_false, if_pos, if_neg, nI_leI], hV, by rw [nI_0, Int32.add_zero], zfm_refl _ _ _⟩
  | d + 1, i, n + 1, I, V, e, hn, hS, hV, ho => by
    obtain ⟨J, j1, j2, j3, j4⟩ := m_week hN hR hso h7 hS hV ho
    obtain ⟨K, k1, k2, k3, k4⟩ := m_goOn2 hN hR hso h7 hm d (i + 1) n J _ (by omega) (by omega) (zMS_fr hS j4 (by decide)) j2 (fun p hp => z_pok_wk (ho p hp))
    refine ⟨K, ?_, k2, ?_, zfm_trans j4 k4⟩
    · rw [← k1]
      simp (disch := omega) only [f_X12_goOn_2, kd_80, j1, gd_t, gd_pos, lt_eq, Option.bind_some, true_and, and_true, not_true, not_false_iff, false_or, or_false, if_true, if_false, if_pos, if_neg, nI_leI, zl_1, nI_add]
    · rw [k3, j3, Int32.add_assoc, nI_add, Nat.add_comm 1]
theorem m_goOn (hN : 5000 ≤ N) (hR : sR R q) (hso : z_sok S) (h7 : nu ≤ 7) {m : Nat} (hm : m ≤ 60) (hS : zMS S I) (hV : zMV nu V I) (ho : ∀ p, p < nu → z_pok S (V p)) : ∃ J, f_X12_goOn N R 80 (nI m) I = some ((), J) ∧ zMV nu (fun p => z_wks S m (V p)) J ∧ J 80 31 = I 80 31 + nI m ∧ zfm [95, 96, 98, 99, 101, 102] [31] I J :=
  m_goOn2 hN hR hso h7 hm m 0 N I V (by omega) (by omega) hS hV ho
theorem m_tire (hR : sR R q) (hV : zMV nu V I) (h7 : nu ≤ 7) (hp : p < nu) (ho : z_pok S (V p)) {m : Nat} (hm : m ≤ 60) : f_X12_tire N R 80 (nI p) (nI m) I = some ((), sm_up I 96 (sm_up (I 96) p (nI (min 9 (V p 1 + m))))) := by
  obtain ⟨v0, v1, v2, v3, v4, v5⟩ := hV.2 p hp
  have o1 := ho.2.1
  simp (disch := omega) only [f_X12_tire, kd_80, r80_26 hR, kd_96, v1, gd_t, gd_pos, lt_eq, Option.bind_some, true_and, and_true, not_true, not_false_iff, false_or, or_false, if_true, if_false, if_pos, if_neg, up_s, up_n, up_uu, zl_0, zl_1, zl_2, zl_3, zl_4, zl_5, zl_6, zl_7, zl_8, zl_9, zl_10, zl_12, zl_14, zl_16, zl_20, zl_21, zl_28, zl_30, zl_32, zl_37, zl_40, zl_60, zl_64, zl_99, zl_100, zl_680, zl_700, zl_999, zl_9999, zl_10000, zl_20000, zl_20001, zl_20002, zl_20003, zl_20004, zl_20005, zl_20006, zl_20007, zl_ofNat, nI_add, pk_mul, nI_leI, nI_ltI, nI_eq, nI_clamp, mx_nI, mn_nI, pk_sub, zz_m1]
theorem m_go (hN : 5000 ≤ N) (hR : sR R q) (hso : z_sok S) (hS : zMS S I) (hV : zMV nu V I) (h7 : nu ≤ 7) (hp : p < nu) (ho : z_pok S (V p)) {j : Nat} (h1 : 1 ≤ j) (h2 : j ≤ 30) : ∃ J, f_X12_go N R 80 (nI p) (nI j) I = some ((), J) ∧ zMV nu (sm_up V p (z_go S (V p) j)) J ∧ zfm [95, 96, 99, 101, 102] [] I J := by
  obtain ⟨J, j1, j2, j3⟩ := m_practise hN hR hso hS hV h7 hp ho
  have ho2 : z_pok S (sm_up V p (z_pr S (V p)) p) := by
    rw [up_s]
    exact z_pok_pr ho
  have e2 := m_tire (N := N) (S := S) hR j2 h7 hp ho2 (m := 2) (by omega)
  obtain ⟨w0, w1, w2, w3, w4, w5⟩ := j2.2 p hp
  rw [up_s] at w4 e2
  have l1 : z_pr S (V p) 1 = V p 1 := rfl
  have l4 : z_pr S (V p) 4 = V p 4 := rfl
  rw [l4] at w4
  rw [l1] at e2
  have hV3 := zMV_up99 (p := p) (v := V p 4 ||| 2 ^ (j - 1)) (zMV_up96 (p := p) (v := min 9 (V p 1 + 2)) j2)
  refine ⟨_, ?_, zMV_cong hV3 (fun a ha => ?_), zfm_up (zfm_up (zfm_mono j3 (by simp) (by simp)) (by simp) (by omega) _) (by simp) (by omega) _⟩
  · simp (disch := omega) only [f_X12_go, kd_80, j1, r80_29 hR, kd_99, zl_2, zl_1, e2, w4, gd_t, gd_pos, lt_eq, Option.bind_some, true_and, and_true, not_true, not_false_iff, false_or, or_false, if_true, if_false, if_pos, if_neg, up_s, up_n, up_uu, zl_0, nI_leI, nI_ltI, nI_clamp, pk_sub, zb_shl, zb_or]
  · unfold z_go
    by_cases hap : a = p
    · subst hap
      simp (disch := omega) only [up_s, up_n, up_uu]
    · simp (disch := omega) only [up_s, up_n, up_uu]
end ZM
