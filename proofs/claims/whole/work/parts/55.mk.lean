/-! ===== PURE PART: what acts leave ===== -/
section ZI
variable {N : Nat} {R : Nat → Nat → Nat} {q : Nat} {S : zS} {nu : Nat} {pr : Nat → Nat} {T T' : zT} {na na' : Nat} {A A' : Nat → zT} {ns ns' : Nat} {sn sn' : Nat → Nat × Nat × Nat} {st st' : Nat → Int32} {nt : Nat} {tp : Nat → Nat} {fp : Int32} {im : Option zIm} {I J K : Nat → Nat → Int32}
theorem zCi_mk (h : zCi q S nu T na A ns sn st nt tp fp im I) (he : ∀ c, (q ≤ c ∧ c ≤ q + 5) ∨ (48 ≤ c ∧ c ≤ 56) ∨ c = 2 → J c = I c) (h0 : J 0 = I 0) (hV : zCV nu T'.2.2 (q + 7) J) (hw : J (q + 7) 2 = nI T'.1) (hp : J (q + 7) 3 = nI T'.2.1) (hA : zCA nu na' A' 41 J) (hs : zCN ns' sn' 43 J) (hst : ∀ j, j < 3 → J 47 j = st' j) : zCi q S nu T' na' A' ns' sn' st' nt tp fp im J := by
  obtain ⟨c1, c2, c3, c4, c5, c6, c7, c8, c9, c10⟩ := h
  exact ⟨zCS_fr c1 (fun c h1 h2 => he c (by omega)), hV, hw, hp, hA, hs, hst, ⟨by rw [h0]; exact c8.1, fun i hi => by rw [he 2 (by omega)]; exact c8.2 i hi⟩, by rw [h0]; exact c9, zCI_fr c10 (fun c h1 h2 => he c (by omega))⟩
theorem zMi_mk (h : zMi S nu T na A ns sn st nt tp fp im I) (he : ∀ c, (84 ≤ c ∧ c ≤ 92) ∨ c = 94 ∨ (114 ≤ c ∧ c ≤ 119) → J c = I c) (h0 : ∀ f, f = 15 ∨ f = 24 ∨ f = 50 ∨ f = 51 ∨ f = 52 → J 80 f = I 80 f) (hV : zMV nu T'.2.2 J) (hw : J 80 31 = nI T'.1) (hp : J 80 32 = nI T'.2.1) (hA : zMA nu na' A' 33 100 J) (hs : zMN ns' sn' 34 107 J) (hst : ∀ j, j < 3 → J 93 j = st' j) : zMi S nu T' na' A' ns' sn' st' nt tp fp im J := by
  obtain ⟨c1, c2, c3, c4, c5, c6, c7, c8, c9, c10⟩ := h
  exact ⟨zMS_eq c1 (fun c h1 h2 => he c (by omega)), hV, hw, hp, hA, hs, hst, ⟨by rw [h0 15 (by omega)]; exact c8.1, fun i hi => by rw [he 94 (by omega)]; exact c8.2 i hi⟩, by rw [h0 24 (by omega)]; exact c9, zMI_eq c10 (fun c h1 h2 => he c (by omega)) (h0 50 (by omega)) (h0 51 (by omega)) (h0 52 (by omega))⟩
/-- another now, another act kept -/
theorem zOk_act (hO : zOk S nu pr T na A ns sn nt tp im) (hT : zTok S nu pr T') : zOk S nu pr T' (z_kn na) (z_kA na A T) ns sn nt tp im := by
  obtain ⟨a1, a2, a3, a4, a5, a6, a7⟩ := hO
  refine ⟨a1, a2, hT, fun i hi => ?_, a5, a6, a7⟩
  unfold z_kn at hi
  unfold z_kA
  by_cases h40 : na < 40
  · rw [if_pos h40] at hi ⊢
    by_cases e : i = na
    · rw [e, up_s]
      exact a3
    · rw [up_n _ _ e]
      exact a4 i (by omega)
  · rw [if_neg h40] at hi ⊢
    try dsimp only
    by_cases e : i = 39
    · rw [if_pos e]
      exact a3
    · rw [if_neg e]
      exact a4 (i + 1) (by omega)
theorem zCi_st (hR : sR R q) (h7 : nu ≤ 7) (h : zCi q S nu T na A ns sn st nt tp fp im I) {j : Nat} (hj : j < 3) : zCi q S nu T na A ns sn (sm_up st j (st j + 1)) nt tp fp im (sm_up I 47 (sm_up (I 47) j (I 47 j + 1))) := by
  have hq := sR_q hR
  have g : ∀ c, c ≠ 47 → sm_up I 47 (sm_up (I 47) j (I 47 j + 1)) c = I c := fun c hc => up_n _ _ hc
  refine zCi_mk h (fun c hc => g c (by omega)) (g 0 (by omega)) (zCV_fr h.2.1 h7 (fun c hc => g c (by omega))) (by rw [g _ (by omega)]; exact h.2.2.1) (by rw [g _ (by omega)]; exact h.2.2.2.1) (zCA_fr h.2.2.2.2.1 (g 41 (by omega)) (g 42 (by omega))) (zCN_fr h.2.2.2.2.2.1 (fun c h1 h2 => g c (by omega))) (fun i hi => ?_)
  have h9 := h.2.2.2.2.2.2.1
  rw [up_s]
  by_cases e : i = j
  · rw [e, up_s, up_s, h9 j hj]
  · rw [up_n _ _ e, up_n _ _ e]
    exact h9 i hi
theorem zMi_st (h : zMi S nu T na A ns sn st nt tp fp im I) {j : Nat} (hj : j < 3) : zMi S nu T na A ns sn (sm_up st j (st j + 1)) nt tp fp im (sm_up I 93 (sm_up (I 93) j (I 93 j + 1))) := by
  have g : ∀ c, c ≠ 93 → sm_up I 93 (sm_up (I 93) j (I 93 j + 1)) c = I c := fun c hc => up_n _ _ hc
  have g8 := g 80 (by omega)
  refine zMi_mk h (fun c hc => g c (by omega)) (fun f _ => by rw [g8]) ?_ (by rw [g8]; exact h.2.2.1) (by rw [g8]; exact h.2.2.2.1) (zMA_eq h.2.2.2.2.1 (by rw [g8]) (g 100 (by omega))) (zMN_eq h.2.2.2.2.2.1 (by rw [g8]) (g 107 (by omega)) (g 108 (by omega)) (g 109 (by omega))) (fun i hi => ?_)
  · have hV := h.2.1
    unfold zMV at hV ⊢
    rw [g 84 (by omega), g 95 (by omega), g 96 (by omega), g 97 (by omega), g 98 (by omega), g 99 (by omega), g 88 (by omega)]
    exact hV
  · have h9 := h.2.2.2.2.2.2.1
    rw [up_s]
    by_cases e : i = j
    · rw [e, up_s, up_s, h9 j hj]
    · rw [up_n _ _ e, up_n _ _ e]
      exact h9 i hi
/-- a call that is refused -/
theorem c_ref (hR : sR R q) (hO : zOk S nu pr T na A ns sn nt tp im) (hC : zCi q S nu T na A ns sn st nt tp fp im I) (hM : zMi S nu T na A ns sn st nt tp fp im I) {j : Nat} (hj : j < 3) : ∃ J, f_X11_refuse N R 0 (nI j) I = some (-1, J) ∧ zCi q S nu T na A ns sn (sm_up st j (st j + 1)) nt tp fp im J ∧ zMi S nu T na A ns sn st nt tp fp im J ∧ ∀ k, k ≠ 47 → J k = I k :=
  ⟨_, c_refuse hR hj, zCi_st hR hO.2.1 hC hj, zMi_lo hM (fun k hk => up_n _ _ (by omega)), fun k hk => up_n _ _ hk⟩
theorem m_ref (hR : sR R q) (hM : zMi S nu T na A ns sn st nt tp fp im I) {j : Nat} (hj : j < 3) : ∃ K, f_X12_refuse N R 80 (nI j) I = some (-1, K) ∧ zMi S nu T na A ns sn (sm_up st j (st j + 1)) nt tp fp im K ∧ K 80 3 = I 80 3 ∧ ∀ k, k < 80 → K k = I k :=
  ⟨_, m_refuse hR hj, zMi_st hM hj, by rw [up_n _ _ (by omega)], fun k hk => up_n _ _ (by omega)⟩
theorem zInv_of (hR : sR R q) (hO : zOk S nu pr T na A ns sn nt tp im) (hC : zCi q S nu T na A ns sn st nt tp fp im J) (hM : zMi S nu T na A ns sn st nt tp fp im K) (hK : ∀ k, k < 80 → K k = J k) : zInv (K, R) :=
  ⟨q, S, nu, pr, T, na, A, ns, sn, st, nt, tp, fp, im, hR, hO, zCi_hi hR hO.2.1 hC hK, hM⟩
end ZI
theorem z_wk_5 (S : zS) (pl : zP) : z_wk S pl 5 = pl 5 := by
  unfold z_wk z_aw z_le z_pr
  split <;> simp (disch := omega) only [up_n]
theorem z_wks_5 (S : zS) : ∀ n pl, z_wks S n pl 5 = pl 5
  | 0, _ => rfl
  | n + 1, pl => (z_wks_5 S n _).trans (z_wk_5 S pl)
theorem z_go_5 (S : zS) (pl : zP) (k : Nat) : z_go S pl k 5 = pl 5 := by
  unfold z_go z_pr
  simp (disch := omega) only [up_n]
section ZC
variable {N : Nat} {R : Nat → Nat → Nat} {q nu : Nat} {S : zS} {I : Nat → Nat → Int32} {V : Nat → zP} {pl : zP}
/-- one pupil is another -/
theorem zCV_one {J : Nat → Nat → Int32} {p : Nat} (h7 : nu ≤ 7) (hp : p < nu) (hV : zCV nu V (q + 7) I) (hn : zPl pl (J (q + 9 + p))) (he : ∀ c, c ≠ q + 9 + p → (c = q + 7 ∨ (q + 9 ≤ c ∧ c ≤ q + 15)) → J c = I c) : zCV nu (sm_up V p pl) (q + 7) J := by
  refine ⟨by rw [he (q + 7) (by omega) (by omega)]; exact hV.1, fun i hi => ?_⟩
  by_cases e : i = p
  · subst e
    rw [up_s, show q + 7 + 2 + i = q + 9 + i by omega]
    exact hn
  · rw [up_n _ _ e, he (q + 7 + 2 + i) (by omega) (by omega)]
    exact hV.2 i hi
set_option maxHeartbeats 4000000 in
theorem c_weeks51 (hN : 5000 ≤ N) (hR : sR R q) (hso : z_sok S) (hS : zCS S q I) (hV : zCV nu V (q + 7) I) (h7 : nu ≤ 7) (ho : ∀ p, p < nu → z_pok S (V p)) {wk k : Nat} (hw : I (q + 7) 2 = nI wk) (hk : k ≤ 60) : ∃ J, f_X11_weeks_51 N R N 0 (nI k) (nI 0) I = some (nI (wk + k), J) ∧ zCV nu (fun p => z_wks S k (V p)) (q + 7) J ∧ J (q + 7) 2 = nI (wk + k) ∧ J (q + 7) 3 = I (q + 7) 3 ∧ ∀ c, c ≠ q + 6 → c ≠ q + 16 → c ≠ q + 7 → ¬ (q + 9 ≤ c ∧ c ≤ q + 15) → J c = I c := by
  have hq3 := hR.2.2.1
  have hq := hR.q
  obtain ⟨⟨k0, k1, k2, k3, k4, k5, k6, k16, k17, k18⟩, ⟨r0, r1, r2, r4, r5, r6, r7, r8, s0, s3⟩, ht⟩ := id hq
  obtain ⟨t0, t1, t2, t3, t4⟩ := id ht
  have hn := hV.1
  have key := zm_loop (fun n i s => f_X11_weeks_51 N R n 0 (nI k) (nI i) s)
    (fun i s => (∀ c, c ≠ q + 6 → c ≠ q + 16 → ¬ (q + 9 ≤ c ∧ c ≤ q + 15) → s c = I c) ∧ ∀ p, p < nu → zPl (if p < i then z_wks S k (V p) else V p) (s (q + 7 + 2 + p)))
    (fun y => y.1 = nI (wk + k) ∧ zCV nu (fun p => z_wks S k (V p)) (q + 7) y.2 ∧ y.2 (q + 7) 2 = nI (wk + k) ∧ y.2 (q + 7) 3 = I (q + 7) 3 ∧ ∀ c, c ≠ q + 6 → c ≠ q + 16 → c ≠ q + 7 → ¬ (q + 9 ≤ c ∧ c ≤ q + 15) → y.2 c = I c) nu
    (fun n s hs => by
      have e7 : s (q + 7) = I (q + 7) := hs.1 _ (by omega) (by omega) (by omega)
      have g1 : s (q + 7) 1 = nI nu := by rw [e7]; exact hn
      have g2 : s (q + 7) 2 = nI wk := by rw [e7]; exact hw
      refine ⟨(nI (wk + k), sm_up s (q + 7) (sm_up (s (q + 7)) 2 (nI (wk + k)))), ?_, rfl, ⟨?_, fun p hp => ?_⟩, ?_, ?_, fun c h1 h2 h3 h4 => ?_⟩
      · simp (disch := omega) only [f_X11_weeks_51, kd_0, hq3, k0, r5, t0, g1, g2, nI_leI, nI_add, gd_t, gd_pos, lt_eq, Option.bind_some, true_and, and_true, not_true, not_false_iff, false_or, or_false, if_true, if_false, if_pos, if_neg, up_s]
      · show sm_up s (q + 7) _ (q + 7) 1 = nI nu
        rw [up_s, up_n _ _ (by omega)]
        exact g1
      · show zPl _ (sm_up s (q + 7) _ (q + 7 + 2 + p))
        rw [up_n _ _ (by omega)]
        have := hs.2 p hp
        rw [if_pos hp] at this
        exact this
      · show sm_up s (q + 7) _ (q + 7) 2 = _
        rw [up_s, up_s]
      · show sm_up s (q + 7) _ (q + 7) 3 = _
        rw [up_s, up_n _ _ (by omega), e7]
      · show sm_up s (q + 7) _ c = _
        rw [up_n _ _ h3]
        exact hs.1 c h1 h2 h4)
    (fun n i s hi hs => by
      have e7 : s (q + 7) = I (q + 7) := hs.1 _ (by omega) (by omega) (by omega)
      have g1 : s (q + 7) 1 = nI nu := by rw [e7]; exact hn
      have hSs : zCS S q s := zCS_fr hS (fun c h1 h2 => hs.1 c (by omega) (by omega) (by omega))
      have hpl := hs.2 i hi
      rw [if_neg (Nat.lt_irrefl i)] at hpl
      obtain ⟨J, j1, j2, j3⟩ := c_pass hN hq hso hSs (t4 i (by omega)) hpl (ho i hi) hk
      refine ⟨J, ?_, fun c h1 h2 h3 => ?_, fun p hp => ?_⟩
      · simp (disch := omega) only [f_X11_weeks_51, kd_0, hq3, k0, r5, t0, t1, t2, t3, t4, g1, j1, gd_t, gd_pos, lt_eq, Option.bind_some, true_and, and_true, not_true, not_false_iff, false_or, or_false, if_true, if_false, if_pos, if_neg, zl_0, zl_1, zl_2, zl_3, zl_4, zl_5, zl_6, zl_7, zl_8, zl_9, zl_10, zl_12, zl_14, zl_16, zl_20, zl_21, zl_28, zl_30, zl_32, zl_37, zl_40, zl_60, zl_64, zl_99, zl_100, zl_680, zl_700, zl_999, zl_9999, zl_10000, zl_20000, zl_20001, zl_20002, zl_20003, zl_20004, zl_20005, zl_20006, zl_20007, zl_ofNat, nI_add, pk_mul, nI_leI, nI_ltI, nI_eq, nI_clamp, mx_nI, mn_nI, pk_sub, zz_m1]
      · rw [j3 c (by simp; omega)]
        exact hs.1 c h1 h2 h3
      · by_cases e : p = i
        · subst e
          rw [if_pos (by omega)]
          exact j2
        · rw [j3 _ (by simp; omega)]
          have := hs.2 p hp
          by_cases h9 : p < i
          · rw [if_pos h9] at this
            rw [if_pos (by omega)]
            exact this
          · rw [if_neg h9] at this
            rw [if_neg (by omega)]
            exact this)
    nu 0 I N (by omega) (by omega) ⟨fun c _ _ _ => rfl, fun p hp => by rw [if_neg (Nat.not_lt_zero _)]; exact hV.2 p hp⟩
  obtain ⟨⟨y, J⟩, h1, h2, h3, h4, h5, h6⟩ := key
  cases h2
  exact ⟨J, h1, h3, h4, h5, h6⟩
end ZC
