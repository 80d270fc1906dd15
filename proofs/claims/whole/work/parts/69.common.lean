/-! ===== PURE PART: common ===== -/
def z_lr (S : zS) (w v : Nat) (pv : Nat → Nat) (i : Nat) : Nat → Nat
  | 0 => 0
  | j + 1 => if z_hd S w i = z_hd S v j then pv j + 1 else max (pv (j + 1)) (z_lr S w v pv i j)
def z_lc (S : zS) (w v : Nat) : Nat → Nat → Nat
  | 0 => fun _ => 0
  | i + 1 => z_lr S w v (z_lc S w v i) i
theorem z_lr_le (S : zS) (w v : Nat) (pv : Nat → Nat) (i : Nat) (h : ∀ j, pv j ≤ i) : ∀ j, z_lr S w v pv i j ≤ i + 1
  | 0 => Nat.zero_le _
  | j + 1 => by
    have h1 := z_lr_le S w v pv i h j
    have h2 := h j
    have h3 := h (j + 1)
    unfold z_lr
    split <;> omega
theorem z_lc_le (S : zS) (w v : Nat) : ∀ i j, z_lc S w v i j ≤ i
  | 0, _ => Nat.le_refl _
  | i + 1, j => z_lr_le S w v _ i (z_lc_le S w v i) j
theorem z_lc_0 (S : zS) (w v : Nat) : ∀ i, z_lc S w v i 0 = 0
  | 0 => rfl
  | _ + 1 => rfl
theorem z_lc_s (S : zS) (w v i j : Nat) : z_lc S w v (i + 1) (j + 1) = if z_hd S w i = z_hd S v j then z_lc S w v i j + 1 else max (z_lc S w v i (j + 1)) (z_lc S w v (i + 1) j) := rfl
section ZC
variable {N : Nat} {R : Nat → Nat → Nat} {q : Nat} {S : zS} {I : Nat → Nat → Int32}
theorem zL_S (h : zCS S q I) {J : Nat → Nat → Int32} (hJ : zfr [q + 17, q + 18] I J) : zCS S q J := zCS_fr h (fun c h1 h2 => hJ c (by simp; omega))
theorem c_lc50 (hN : 5000 ≤ N) (hR : sR R q) (hso : z_sok S) (hS : zCS S q I) {w v : Nat} (hw : w < z_np S) (hv : v < z_np S) {i : Nat} (hi : i < z_bn S w) (kk : Nat → Int32 → Int32 → Int32 → Int32 → (Nat → Nat → Int32) → Option (Int32 × (Nat → Nat → Int32))) {s : Nat → Nat → Int32} (h1 : ∀ j, j ≤ z_bn S v → s (q + 17) j = nI (z_lc S w v i j)) (h2 : s (q + 18) 0 = nI 0) (h3 : zfr [q + 17, q + 18] I s) : ∃ s', f_X7_longestCommonRow_50 N R kk N q (nI w) (nI v) (nI (z_bn S v)) (nI i) (nI 0) s = kk q (nI w) (nI v) (nI (z_bn S v)) (nI (i + 1)) s' ∧ (∀ j, j ≤ z_bn S v → s' (q + 17) j = nI (z_lc S w v (i + 1) j)) ∧ s' (q + 18) 0 = nI 0 ∧ zfr [q + 17, q + 18] I s' := by
  have b8 := (hso.2.1 _ hv).2.1
  have w8 := (hso.2.1 _ hw).2.1
  have lw := ((hso.2.1 _ hw).2.2.2 i hi).2
  have key := zk_loop (fun n j s => f_X7_longestCommonRow_50 N R kk n q (nI w) (nI v) (nI (z_bn S v)) (nI i) (nI j) s) (fun s => kk q (nI w) (nI v) (nI (z_bn S v)) (nI (i + 1)) (sm_up s (q + 17) (va_cpy (s (q + 18)) (s (q + 17)) 0 0 9))) (fun d s => (∀ j, j ≤ z_bn S v → s (q + 17) j = nI (z_lc S w v i j)) ∧ (∀ j, j ≤ d → s (q + 18) j = nI (z_lc S w v (i + 1) j)) ∧ zfr [q + 17, q + 18] I s) (z_bn S v)
    (fun n s hs => by
      simp (disch := omega) only [f_X7_longestCommonRow_50, q_k0 hR, q_r7 hR, q_r8 hR, q_k17 hR, q_k18 hR, zl_0, zl_1, zl_ofNat, nI_leI, nI_ltI, nI_clamp, nI_add, Nat.zero_add, Nat.le_refl, gd_t, gd_pos, lt_eq, Option.bind_some, true_and, and_true, not_true, not_false_iff, false_or, or_false, if_true, if_false, if_pos, if_neg, zcd])
    (fun n j s hj hs => by
      obtain ⟨g1, g2, g3⟩ := hs
      have hS2 := zL_S hS g3
      have lv := ((hso.2.1 _ hv).2.2.2 j hj).2
      have e1 := c_hardOf (N := N) hR.q hso hS2 hw (i := i) (by omega)
      have e2 := c_hardOf (N := N) hR.q hso hS2 hv (i := j) (by omega)
      rw [if_pos hi] at e1
      rw [if_pos hj] at e2
      have v1 := g1 j (by omega)
      have v2 := g1 (j + 1) (by omega)
      have v3 := g2 j (by omega)
      have m1 := z_lc_le S w v i j
      have m2 := z_lc_le S w v i (j + 1)
      have m3 := z_lc_le S w v (i + 1) j
      refine ⟨sm_up s (q + 18) (sm_up (s (q + 18)) (j + 1) (nI (z_lc S w v (i + 1) (j + 1)))), ?_, ?_, ?_, zfr_up g3 (by simp) _⟩
      · rw [z_lc_s]
        by_cases hc : z_hd S w i = z_hd S v j
        · rw [if_pos hc]
          simp (disch := omega) only [f_X7_longestCommonRow_50, f_X7_longestCommonRow_78, q_k0 hR, q_r7 hR, q_r8 hR, q_k17 hR, q_k18 hR, e1, e2, v1, zl_0, zl_1, nI_leI, nI_ltI, nI_eq, nI_clamp, nI_add, gd_t, gd_pos, lt_eq, Option.bind_some, true_and, and_true, not_true, not_false_iff, false_or, or_false, if_true, if_false, if_pos, if_neg, zcd]
        · rw [if_neg hc]
          simp (disch := omega) only [f_X7_longestCommonRow_50, f_X7_longestCommonRow_78, q_k0 hR, q_r7 hR, q_r8 hR, q_k17 hR, q_k18 hR, e1, e2, v2, v3, mx_nI, zl_0, zl_1, nI_leI, nI_ltI, nI_eq, nI_clamp, nI_add, gd_t, gd_pos, lt_eq, Option.bind_some, true_and, and_true, not_true, not_false_iff, false_or, or_false, if_true, if_false, if_pos, if_neg, zcd]
      · intro k hk
        rw [up_n _ _ (by omega)]
        exact g1 k hk
      · intro k hk
        rw [up_s]
        by_cases e : k = j + 1
        · rw [e, up_s]
        · rw [up_n _ _ e]
          exact g2 k (by omega)) (z_bn S v) 0 s N (by omega) (by omega) ⟨h1, fun j hj => by
      obtain rfl : j = 0 := by omega
      rw [z_lc_0]
      exact h2, h3⟩
  obtain ⟨s', k1, k2, k3, k4⟩ := key
  refine ⟨_, k1, ?_, ?_, zfr_up k4 (by simp) _⟩
  · intro j hj
    rw [up_s]
    unfold va_cpy
    rw [if_pos (by omega), Nat.sub_zero, Nat.zero_add]
    exact k3 j hj
  · rw [up_n _ _ (by omega), k3 0 (by omega), z_lc_0]
theorem c_lcr (hN : 5000 ≤ N) (hR : sR R q) (hso : z_sok S) (hS : zCS S q I) {w v : Nat} (hw : w < z_np S) (hv : v < z_np S) : ∃ J, f_X7_longestCommonRow N R q (nI w) (nI v) I = some (nI (z_lc S w v (z_bn S w) (z_bn S v)), J) ∧ zfr [q + 17, q + 18] I J := by
  have b8 := (hso.2.1 _ hv).2.1
  have w8 := (hso.2.1 _ hw).2.1
  have k1 := zk_loop (fun n j s => f_X7_longestCommonRow_2 N R n q (nI w) (nI v) (nI j) s) (fun s => f_X7_longestCommonRow_37 N R N q (nI w) (nI v) (nI (z_bn S v)) (nI 0) s) (fun d s => (∀ j, j < d → s (q + 17) j = nI 0 ∧ s (q + 18) j = nI 0) ∧ zfr [q + 17, q + 18] I s) 9
    (fun n s hs => by
      have e := c_barsOf (N := N) hR.q hso (zL_S hS hs.2) hv
      simp (disch := omega) only [f_X7_longestCommonRow_2, q_k0 hR, e, zl_0, zl_8, nI_ltI, gd_t, gd_pos, lt_eq, Option.bind_some, true_and, and_true, not_true, not_false_iff, false_or, or_false, if_true, if_false, if_pos, if_neg, zcd])
    (fun n j s hj hs => by
      refine ⟨sm_up (sm_up s (q + 17) (sm_up (s (q + 17)) j (nI 0))) (q + 18) (sm_up (s (q + 18)) j (nI 0)), ?_, ?_, zfr_up (zfr_up hs.2 (by simp) _) (by simp) _⟩
      · simp (disch := omega) only [f_X7_longestCommonRow_2, q_k0 hR, q_r7 hR, q_r8 hR, q_k17 hR, q_k18 hR, zl_0, zl_1, zl_8, nI_leI, nI_ltI, nI_clamp, nI_add, up_n, gd_t, gd_pos, lt_eq, Option.bind_some, true_and, and_true, not_true, not_false_iff, false_or, or_false, if_true, if_false, if_pos, if_neg, zcd]
      · intro k hk
        by_cases e : k = j
        · subst e
          simp (disch := omega) only [up_s, up_n, and_self]
        · simp (disch := omega) only [up_s, up_n]
          exact hs.1 k (by omega)) 9 0 I N (by omega) (by omega) ⟨fun j hj => absurd hj (Nat.not_lt_zero j), zfr_refl _ _⟩
  obtain ⟨J0, p1, p2, p3⟩ := k1
  have k2 := zm_loop (fun n i s => f_X7_longestCommonRow_37 N R n q (nI w) (nI v) (nI (z_bn S v)) (nI i) s) (fun i s => (∀ j, j ≤ z_bn S v → s (q + 17) j = nI (z_lc S w v i j)) ∧ s (q + 18) 0 = nI 0 ∧ zfr [q + 17, q + 18] I s) (fun y => y.1 = nI (z_lc S w v (z_bn S w) (z_bn S v)) ∧ zfr [q + 17, q + 18] I y.2) (z_bn S w)
    (fun n s hs => by
      have e := c_barsOf (N := N) hR.q hso (zL_S hS hs.2.2) hw
      have g := hs.1 _ (Nat.le_refl _)
      exact ⟨(nI (z_lc S w v (z_bn S w) (z_bn S v)), s), by simp (disch := omega) only [f_X7_longestCommonRow_37, q_k0 hR, q_r7 hR, q_k17 hR, e, g, zl_0, nI_leI, nI_ltI, nI_clamp, gd_t, gd_pos, lt_eq, Option.bind_some, true_and, and_true, not_true, not_false_iff, false_or, or_false, if_true, if_false, if_pos, if_neg, zcd], rfl, hs.2.2⟩)
    (fun n i s hi hs => by
      have e := c_barsOf (N := N) hR.q hso (zL_S hS hs.2.2) hw
      obtain ⟨s', e1, e2, e3, e4⟩ := c_lc50 hN hR hso hS hw hv hi (fun z0 z1 z2 z3 z4 J => f_X7_longestCommonRow_37 N R n z0 z1 z2 z3 z4 J) hs.1 hs.2.1 hs.2.2
      refine ⟨s', Eq.trans ?_ e1, e2, e3, e4⟩
      simp (disch := omega) only [f_X7_longestCommonRow_37, q_k0 hR, e, zl_0, nI_leI, gd_t, gd_pos, lt_eq, Option.bind_some, true_and, and_true, not_true, not_false_iff, false_or, or_false, if_true, if_false, if_pos, if_neg, zcd]) (z_bn S w) 0 J0 N (by omega) (by omega) ⟨fun j hj => (p2 j (by omega)).1, (p2 0 (by omega)).2, p3⟩
  obtain ⟨⟨r, J⟩, l1, l2, l3⟩ := k2
  have l2 : r = _ := l2
  subst l2
  exact ⟨J, p1.trans l1, l3⟩
theorem m_lc42 (hN : 5000 ≤ N) (hR : sR R q) (hso : z_sok S) (hS : zMS S I) {w v : Nat} (hw : w < z_np S) (hv : v < z_np S) {i : Nat} (hi : i ≤ z_bn S w) (kk : Nat → Int32 → Int32 → Int32 → (Nat → Nat → Int32) → Option (Int32 × (Nat → Nat → Int32))) {s : Nat → Nat → Int32} (h1 : ∀ i' j, i' < i → j ≤ z_bn S v → s 106 (9 * i' + j) = nI (z_lc S w v i' j)) (h3 : zfm [106] [] I s) : ∃ s', f_X12_common_42 N R kk N 80 (nI w) (nI v) (nI i) (nI 0) s = kk 80 (nI w) (nI v) (nI (i + 1)) s' ∧ (∀ i' j, i' < i + 1 → j ≤ z_bn S v → s' 106 (9 * i' + j) = nI (z_lc S w v i' j)) ∧ zfm [106] [] I s' := by
  have b8 := (hso.2.1 _ hv).2.1
  have w8 := (hso.2.1 _ hw).2.1
  have h6 := hso.1
  have key := zk_loop (fun n j s => f_X12_common_42 N R kk n 80 (nI w) (nI v) (nI i) (nI j) s) (fun s => kk 80 (nI w) (nI v) (nI (i + 1)) s) (fun d s => (∀ i' j, i' < i → j ≤ z_bn S v → s 106 (9 * i' + j) = nI (z_lc S w v i' j)) ∧ (∀ j, j < d → s 106 (9 * i + j) = nI (z_lc S w v i j)) ∧ zfm [106] [] I s) (z_bn S v + 1)
    (fun n s hs => by
      have hb := ((zMS_fr hS hs.2.2 (by decide)).2.1 v hv).1
      simp (disch := omega) only [f_X12_common_42, kd_80, r80_6 hR, kd_86, hb, zl_0, zl_1, nI_leI, nI_ltI, nI_clamp, nI_add, gd_t, gd_pos, lt_eq, Option.bind_some, true_and, and_true, not_true, not_false_iff, false_or, or_false, if_true, if_false, if_pos, if_neg, zcd])
    (fun n j s hj hs => by
      obtain ⟨g1, g2, g3⟩ := hs
      have hS2 := zMS_fr hS g3 (by decide)
      have hb := (hS2.2.1 v hv).1
      refine ⟨sm_up s 106 (sm_up (s 106) (9 * i + j) (nI (z_lc S w v i j))), ?_, ?_, ?_, zfm_up g3 (by simp) (by omega) _⟩
      · rcases i with _ | i
        · simp (disch := omega) only [f_X12_common_42, kd_80, r80_6 hR, kd_86, r80_40 hR, kd_106, hb, zl_0, zl_1, zl_9, nI_leI, nI_ltI, nI_eq, nI_clamp, nI_add, pk_mul, gd_t, gd_pos, lt_eq, Option.bind_some, true_and, and_true, not_true, not_false_iff, false_or, or_false, if_true, if_false, if_pos, if_neg, zcd]
          try rfl
        · rcases j with _ | j
          · rw [z_lc_0]
            simp (disch := omega) only [f_X12_common_42, kd_80, r80_6 hR, kd_86, r80_40 hR, kd_106, hb, zl_0, zl_1, zl_9, nI_leI, nI_ltI, nI_eq, nI_clamp, nI_add, pk_mul, gd_t, gd_pos, lt_eq, Option.bind_some, true_and, and_true, not_true, not_false_iff, false_or, or_false, if_true, if_false, if_pos, if_neg, zcd]
          · have e1 := m_hardOf (N := N) hR hso hS2 hw (i := i) (by omega)
            have e2 := m_hardOf (N := N) hR hso hS2 hv (i := j) (by omega)
            have lw := ((hso.2.1 _ hw).2.2.2 i (by omega)).2
            have lv := ((hso.2.1 _ hv).2.2.2 j (by omega)).2
            have v1 := g1 i j (by omega) (by omega)
            have v2 := g1 i (j + 1) (by omega) (by omega)
            have v3 := g2 j (by omega)
            have m1 := z_lc_le S w v i j
            have m2 := z_lc_le S w v i (j + 1)
            have m3 := z_lc_le S w v (i + 1) j
            have t1 : 9 * (i + 1) + (j + 1) - 8 - 2 = 9 * i + j := by omega
            have t2 : 9 * (i + 1) + (j + 1) - 8 - 1 = 9 * i + (j + 1) := by omega
            have t3 : 9 * (i + 1) + (j + 1) - 1 = 9 * (i + 1) + j := by omega
            have t4 : i + 1 - 1 = i := by omega
            have t5 : j + 1 - 1 = j := by omega
            rw [z_lc_s]
            by_cases hc : z_hd S w i = z_hd S v j
            · rw [if_pos hc]
              simp (disch := omega) only [f_X12_common_42, kd_80, r80_6 hR, kd_86, r80_40 hR, kd_106, hb, e1, e2, v1, t1, t4, t5, zl_0, zl_1, zl_2, zl_8, zl_9, nI_leI, nI_ltI, nI_eq, nI_clamp, nI_add, pk_mul, pk_sub, gd_t, gd_pos, lt_eq, Option.bind_some, true_and, and_true, not_true, not_false_iff, false_or, or_false, if_true, if_false, if_pos, if_neg, zcd]
            · rw [if_neg hc, Nat.max_comm]
              simp (disch := omega) only [f_X12_common_42, kd_80, r80_6 hR, kd_86, r80_40 hR, kd_106, hb, e1, e2, v2, v3, t2, t3, t4, t5, mx_nI, zl_0, zl_1, zl_2, zl_8, zl_9, nI_leI, nI_ltI, nI_eq, nI_clamp, nI_add, pk_mul, pk_sub, gd_t, gd_pos, lt_eq, Option.bind_some, true_and, and_true, not_true, not_false_iff, false_or, or_false, if_true, if_false, if_pos, if_neg, zcd]
      · intro i' k h1 h2
        rw [up_s, up_n _ _ (by omega)]
        exact g1 i' k h1 h2
      · intro k hk
        rw [up_s]
        by_cases e : k = j
        · rw [e, up_s]
        · rw [up_n _ _ (by omega)]
          exact g2 k (by omega)) (z_bn S v + 1) 0 s N (by omega) (by omega) ⟨h1, fun j hj => absurd hj (Nat.not_lt_zero j), h3⟩
  obtain ⟨s', k1, k2, k3, k4⟩ := key
  refine ⟨s', k1, fun i' j h1 h2 => ?_, k4⟩
  by_cases e : i' = i
  · rw [e]
    exact k3 j (by omega)
  · exact k2 i' j (by omega) h2
end ZC
theorem zo_common_ok {N : Nat} (hN : 5000 ≤ N) : zo_common N zInv := by
  intro I R a1 a2 hI
  obtain ⟨q, S, nu, pr, T, na, A, ns, sn, st, nt, tp, fp, im, hR, hO, hC, hM⟩ := hI
  have hR : sR R q := hR
  have hC : zCi q S nu T na A ns sn st nt tp fp im I := hC
  have hM : zMi S nu T na A ns sn st nt tp fp im I := hM
  obtain ⟨hso, h7, ⟨hT1, hT2, hT3, hT4⟩, hAk, hNk, hTp, hIm⟩ := id hO
  have h6 := hso.1
  have hpo : ∀ p, p < nu → z_pok S (T.2.2 p) := fun p hp => (hT4 p hp).1
  have haw : ∀ p, p < nu → T.2.2 p 4 < 2 ^ 30 := fun p hp => (hpo p hp).2.2.2.2.1
  obtain ⟨c1, c2, c3, c4, c5, c6, c7, c8, c9, c10⟩ := id hC
  have cS1 := c1.1
  have cV1 := c2.1
  have hq := hR.q
  have ht := q_t hR
  have hM0 := zcd_M hM 0
  obtain ⟨d1, d2, d3, d4, d5, d6, d7, d8, d9, d10⟩ := id hM0
  rcases zrx a1 (z_np S) with ⟨w, hw, rfl⟩ | hx
  · have e1 := c_piece_in (N := N) hR hso c1 hw
    have e2 := m_isPiece (N := N) hR hso d1 (nI w)
    rw [nI_toInt (by omega), if_pos (by omega)] at e2
    rcases zrx a2 (z_np S) with ⟨v, hv, rfl⟩ | hx
    · have e3 := c_piece_in (N := N) hR hso c1 hv
      have b8 := (hso.2.1 _ hv).2.1
      have w8 := (hso.2.1 _ hw).2.1
      obtain ⟨J, j1, j2⟩ := c_lcr hN hR hso c1 hw hv
      have hJ : zfr (zScr q) I J := zfr_mono j2 (fun x hx => by
        unfold zScr
        simp only [List.mem_cons, List.not_mem_nil, or_false] at hx ⊢
        omega)
      have hMJ := zMq hR hM hJ
      have f1 := m_isPiece (N := N) hR hso hMJ.1 (nI w)
      rw [nI_toInt (by omega), if_pos (by omega)] at f1
      have f2 := m_isPiece (N := N) hR hso hMJ.1 (nI v)
      rw [nI_toInt (by omega), if_pos (by omega)] at f2
      have L := zm_loop (fun n i s => f_X12_common_29 N R n 80 (nI w) (nI v) (nI i) s) (fun i s => (∀ i' j, i' < i → j ≤ z_bn S v → s 106 (9 * i' + j) = nI (z_lc S w v i' j)) ∧ zfm [106] [] (zcd J 0) s) (fun y => y.1 = nI (z_lc S w v (z_bn S w) (z_bn S v)) ∧ zfm [106] [] (zcd J 0) y.2) (z_bn S w + 1)
        (fun n s hs => by
          have hS2 := zMS_fr hMJ.1 hs.2 (by decide)
          have b1 := (hS2.2.1 w hw).1
          have b2 := (hS2.2.1 v hv).1
          have g := hs.1 (z_bn S w) (z_bn S v) (by omega) (Nat.le_refl _)
          exact ⟨(nI (z_lc S w v (z_bn S w) (z_bn S v)), s), by simp (disch := omega) only [f_X12_common_29, kd_80, r80_6 hR, kd_86, r80_40 hR, kd_106, b1, b2, g, zl_0, zl_9, nI_leI, nI_ltI, nI_clamp, nI_add, pk_mul, gd_t, gd_pos, true_and, and_true, not_false_iff, false_or, or_false, if_pos], rfl, hs.2⟩)
        (fun n i s hi hs => by
          have hS2 := zMS_fr hMJ.1 hs.2 (by decide)
          have b1 := (hS2.2.1 w hw).1
          obtain ⟨s', e1, e2, e3⟩ := m_lc42 hN hR hso hMJ.1 hw hv (i := i) (by omega) (fun z0 z1 z2 z3 J => f_X12_common_29 N R n z0 z1 z2 z3 J) hs.1 hs.2
          refine ⟨s', Eq.trans ?_ e1, e2, e3⟩
          simp (disch := omega) only [f_X12_common_29, kd_80, r80_6 hR, kd_86, b1, zl_0, nI_leI, nI_ltI, nI_clamp, gd_t, gd_pos, true_and, and_true, not_false_iff, false_or, or_false, if_neg]) (z_bn S w + 1) 0 (zcd J 0) N (by omega) (by omega) ⟨fun i' j h1 _ => absurd h1 (Nat.not_lt_zero i'), zfm_refl _ _ _⟩
      obtain ⟨⟨r, L⟩, l1, l2, l3⟩ := L
      have l2 : r = _ := l2
      subst l2
      have l4 : L 80 3 = nI 0 := (l3.2 3 (by simp)).trans (zcd_3 J 0)
      refine ⟨.inl (nI (z_lc S w v (z_bn S w) (z_bn S v))), J, _, L, ?_, Eq.trans ?_ l1, ag_ok _ _ _ l4, zInv_q hR hO hC hJ (zMi_fr hMJ l3 (fun x hx => by simp at hx; subst hx; simp [zMsc]) (fun x hx => by cases hx)) (fun k hk => (zfm_lo l3 (fun x hx => by simp at hx; omega) k hk).trans (zcd_lo J 0 k hk))⟩
      · simp (disch := omega) only [f_X11_common, kd_0, hR.2.2.1, q_k0 hR, e1, e3, tb_l, j1, gd_t, gd_pos, lt_eq, Option.bind_some, true_and, and_true, not_true, not_false_iff, false_or, or_false, if_true, if_false, if_pos, if_neg, zcd]
      · simp (disch := omega) only [f_X12_common, kd_80, zl_0, zl_1, f1, f2, nI_eq, gd_t, gd_pos, lt_eq, Option.bind_some, true_and, and_true, not_true, not_false_iff, false_or, or_false, if_true, if_false, if_pos, if_neg, zcd]
    · have e3 := c_piece_out (N := N) hR hso c1 hx
      have e4 := m_isPiece (N := N) hR hso d1 a2
      rw [if_neg (by omega)] at e4
      refine ⟨_, I, 0, zcd I 1, ?_, ?_, ag_n _ _ (zcd_3 I 1), zInv_q hR hO hC (zfr_refl _ _) (zcd_M hM 1) (zcd_lo I 1)⟩
      · simp (disch := omega) only [f_X11_common, kd_0, e1, e3, tb_l, tb_r, gd_t, gd_pos, lt_eq, Option.bind_some, true_and, and_true, not_true, not_false_iff, false_or, or_false, if_true, if_false, if_pos, if_neg, zcd]
      · simp (disch := omega) only [f_X12_common, kd_80, zl_0, zl_1, e2, e4, m_fail, gd_t, gd_pos, lt_eq, Option.bind_some, true_and, and_true, not_true, not_false_iff, false_or, or_false, if_true, if_false, if_pos, if_neg, zcd, up_s, up_n, up_uu, nI_eq]
  · have e1 := c_piece_out (N := N) hR hso c1 hx
    have e2 := m_isPiece (N := N) hR hso d1 a1
    rw [if_neg (by omega)] at e2
    refine ⟨_, I, 0, zcd I 1, ?_, ?_, ag_n _ _ (zcd_3 I 1), zInv_q hR hO hC (zfr_refl _ _) (zcd_M hM 1) (zcd_lo I 1)⟩
    · simp (disch := omega) only [f_X11_common, kd_0, hR.2.2.1, q_k0 hR, e1, tb_r, gd_t, gd_pos, lt_eq, Option.bind_some, true_and, and_true, not_true, not_false_iff, false_or, or_false, if_true, if_false, if_pos, if_neg, zcd]
    · simp (disch := omega) only [f_X12_common, kd_80, zl_0, zl_1, e2, m_fail, gd_t, gd_pos, lt_eq, Option.bind_some, true_and, and_true, not_true, not_false_iff, false_or, or_false, if_true, if_false, if_pos, if_neg, zcd, up_s, up_n, up_uu, nI_eq]
