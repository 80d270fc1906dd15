/-! ===== PURE PART: school: the call ===== -/
def zMh (K L : Nat → Nat → Int32) : Prop := zfm [84, 85, 86, 87, 88, 89, 90, 91, 92] zMsF K L ∧ (∀ j, j < 4 → L 84 j = K 84 j) ∧ (∀ j, j < 6 → L 85 j = K 85 j) ∧ (∀ j, j < 6 → L 86 j = K 86 j) ∧ (∀ j, j < 48 → L 87 j = K 87 j) ∧ (∀ j, j < 7 → L 88 j = K 88 j) ∧ ∀ j, j < 700 → L 92 j = K 92 j
section ZV
variable {N : Nat} {R Rm Q : Nat → Nat → Nat} {q qm d n m : Nat} {tp : Nat → Nat} {I J K L A F : Nat → Nat → Int32} {P : zK} {cd : Nat → Nat} {X : zX9} {st : Nat → Int32}
theorem r_school (hN : 5000 ≤ N) (hR : sR R q) (hRm : sR Rm qm) (hdq : d = 25 - q) (hn : n ≤ 700) (htp : ∀ i, i < n → tp i < 256) (hA : ∀ i, i < n → A 2 i = sm_i8 (nI (tp i))) {nt : Nat} (hnt : n ≤ nt) (hnt7 : nt ≤ 700) (h15 : K 80 15 = nI nt) (hT : ∀ i, i < n → K 94 i = nI (tp i)) : ∃ J L, f_X5_readSchool N R 1 (nI n) A = some ((), J) ∧ f_X12_school N Rm 80 (nI n) K = f_X12_school_108 N Rm 80 L ∧ zfr (zDls d) A J ∧ zMh K L ∧ zLend d tp n J L ∧ L 80 3 = nI 0 ∧ L 80 15 = nI 0 ∧ L 80 24 = -nI 1 := by
  have hD := sR_dq hR hdq
  obtain ⟨J0, j1, j2, j3, j4, j5, j6⟩ := c_rstart (N := N) hN hR hdq hn htp hA
  obtain ⟨L0, l1, l2, l3, l4, ⟨l5, l6, l7⟩, l8, l9⟩ := m_rstart (N := N) hN hRm hn htp hnt hnt7 h15 hT
  have hl : zLn d tp n (z_scan tp n 0) 0 (fun _ => 0) x_0 J0 L0 := ⟨⟨j2, l2, (zTk_scan tp (Nat.zero_le n)).1, ⟨Nat.zero_le _, j5⟩, ⟨j4, fun i hi => absurd hi (Nat.not_lt_zero i)⟩, ⟨l4, fun i hi => absurd hi (Nat.not_lt_zero i)⟩, rfl⟩, Nat.zero_le _, fun _ => rfl, j3, l3, x_0_ok⟩
  obtain ⟨J, L, a1, a2, a3, a4, a5⟩ := r_lines (N := N) hN hR hRm hD hn htp n 0 (z_scan tp n 0) 0 (fun _ => 0) x_0 J0 L0 N N (by omega) (by omega) (by omega) (by omega) hl
  obtain ⟨b1, b2, b3, b4, b5, b6, b7⟩ := a4
  have g : ∀ c, c ≠ 80 → c ≠ 84 → L0 c = K c := fun c h1 h2 => l8.1 c h1 (by simp; exact h2)
  refine ⟨J, L, j1.trans a1, l1.trans a2, zfr_trans j6 a3, ⟨zfm_trans (zfm_mono l8 (by decide) (fun _ h => h)) (zfm_mono b1 (fun _ h => h) (by decide)), fun j hj => (b2 j hj).trans (l9 j hj), fun j hj => ?_, fun j hj => ?_, fun j hj => ?_, fun j hj => ?_, fun j hj => ?_⟩, a5, ?_, ?_, ?_⟩
  · rw [b3 j hj, g 85 (by omega) (by omega)]
  · rw [b4 j hj, g 86 (by omega) (by omega)]
  · rw [b5 j hj, g 87 (by omega) (by omega)]
  · rw [b6 j hj, g 88 (by omega) (by omega)]
  · rw [b7 j hj, g 92 (by omega) (by omega)]
  · rw [b1.2 3 (by decide)]
    exact l5
  · rw [b1.2 15 (by decide)]
    exact l6
  · rw [b1.2 24 (by decide)]
    exact l7
def z_nsX (X : zX9) (m : Nat) (cd : Nat → Nat) : zS := (x_np X, x_bn X, x_st X, x_hd X, if x_lt X = 1 then some (m, cd) else none)
theorem s_sok (hl : zLn d tp n P m cd X J L) : z_sok (z_nsX X m cd) := by
  obtain ⟨g1, g2, g3, g4, g5, g6⟩ := hl
  refine ⟨g6.1.1, g6.1.2, fun r hr => ?_⟩
  have hr : (if x_lt X = 1 then some (m, cd) else none) = some r := hr
  by_cases h : x_lt X = 1
  · rw [if_pos h] at hr
    obtain rfl := Option.some.inj hr
    have h9 := g1.2.2.2.2.2.2
    rw [h] at h9
    exact ⟨g1.2.2.2.1.1, z_ht_ok m 0 0 h9⟩
  · rw [if_neg h] at hr
    cases hr
theorem s_ok (hl : zLn d tp n P m cd X J L) (tp' : Nat → Nat) (A' : Nat → zT) (sn : Nat → Nat × Nat × Nat) : zOk (z_nsX X m cd) (x_nu X) (fun p => x_V X p 5) (0, x_pn X, x_V X) 0 A' 0 sn 0 tp' none := by
  have hs := s_sok hl
  obtain ⟨g1, g2, g3, g4, g5, g6⟩ := hl
  obtain ⟨o1, ⟨o2, o3⟩, o4, o5, o6, o7⟩ := g6
  refine ⟨hs, o2, ⟨Nat.zero_le _, o4, o5, fun p hp => ⟨?_, rfl⟩⟩, fun i hi => absurd hi (Nat.not_lt_zero i), ⟨Nat.zero_le _, fun i hi => absurd hi (Nat.not_lt_zero i)⟩, ⟨Nat.zero_le _, fun i hi => absurd hi (Nat.not_lt_zero i)⟩, fun x hx => by cases hx⟩
  obtain ⟨v0, v1, v2, v3, v4, v5⟩ := o3 p hp
  refine ⟨v0, v1, v2, ?_, ?_, v5⟩
  · show x_V X p 3 ≤ _
    rw [v3]
    exact Nat.zero_le _
  · show x_V X p 4 < _
    rw [v4]
    decide
theorem s_ci (hl : zLn d tp n P m cd X J L) (hd : d = 3 ∨ d = 22) (hF : ∀ c, d ≤ c → c ≤ d + 15 → F c = J c) (h41 : F 41 1 = nI 0 ∧ F 41 2 = nI 0) (h43 : F 43 3 = nI 0) (h47 : ∀ j, j < 3 → F 47 j = st j) (h0 : F 0 1 = nI 0 ∧ F 0 2 = -nI 1) (h48 : F 48 0 = nI 0) (tp' : Nat → Nat) (A' : Nat → zT) (sn : Nat → Nat × Nat × Nat) : zCi d (z_nsX X m cd) (x_nu X) (0, x_pn X, x_V X) 0 A' 0 sn st 0 tp' (-nI 1) none F := by
  obtain ⟨g1, g2, g3, g4, g5, g6⟩ := hl
  obtain ⟨e1, e2, e3, e4, e5, e6⟩ := g4
  have lt1 := g6.2.2.2.2.2
  have u2 := g6.2.1.1
  refine ⟨⟨?_, fun w hw => ?_, fun hr => ?_, fun r hr => ?_⟩, zCV_fr e2 u2 (fun c hc => hF c (by omega) (by omega)), ?_, ?_, ⟨by omega, 0, by omega, h41.1, h41.2, fun i hi => absurd hi (Nat.not_lt_zero i)⟩, ⟨h43, fun i hi => absurd hi (Nat.not_lt_zero i)⟩, h47, ⟨h0.1, fun i hi => absurd hi (Nat.not_lt_zero i)⟩, h0.2, h48⟩
  · rw [hF d (by omega) (by omega)]
    exact e1.1
  · rw [hF (d + 1) (by omega) (by omega), hF (d + 2) (by omega) (by omega), hF (d + 3) (by omega) (by omega)]
    exact e1.2 w hw
  · rw [hF (d + 4) (by omega) (by omega), e5]
    have hr : (if x_lt X = 1 then some (m, cd) else none) = none := hr
    by_cases h : x_lt X = 1
    · rw [if_pos h] at hr
      cases hr
    · rw [show x_lt X = 0 by omega]
      rfl
  · have hr : (if x_lt X = 1 then some (m, cd) else none) = some r := hr
    by_cases h : x_lt X = 1
    · rw [if_pos h] at hr
      obtain rfl := Option.some.inj hr
      rw [hF (d + 4) (by omega) (by omega), hF (d + 5) (by omega) (by omega), e5, h]
      exact ⟨rfl, g1.2.2.2.2.1⟩
    · rw [if_neg h] at hr
      cases hr
  · rw [hF (d + 7) (by omega) (by omega)]
    exact e3
  · rw [hF (d + 7) (by omega) (by omega)]
    exact e4
theorem s_good (hN : 5000 ≤ N) (hQ : sR Q d) (hd : d = 3 ∨ d = 22) (hl : zLn d tp n P m cd X J L) (hF : ∀ c, d ≤ c → c ≤ d + 15 → F c = J c) (h41 : F 41 1 = nI 0 ∧ F 41 2 = nI 0) (h43 : F 43 3 = nI 0) (h47 : ∀ j, j < 3 → F 47 j = st j) (h0 : F 0 1 = nI 0 ∧ F 0 2 = -nI 1) (h48 : F 48 0 = nI 0) (h93 : ∀ j, j < 3 → F 93 j = st j) (hz : zMh F L) (l3 : L 80 3 = nI 0) (l15 : L 80 15 = nI 0) (l24 : L 80 24 = -nI 1) : ∃ K, f_X12_school_108 N Q 80 L = some (nI 0, K) ∧ K 80 3 = nI 0 ∧ zInv (K, Q) := by
  have k22 : L 80 22 = nI 0 := hl.1.2.1.1.2.2.2
  have hok := s_ok hl tp (fun _ => (0, x_pn X, x_V X)) (fun _ => (0, 0, 0))
  have hci := s_ci hl hd hF h41 h43 h47 h0 h48 tp (fun _ => (0, x_pn X, x_V X)) (fun _ => (0, 0, 0))
  obtain ⟨g1, g2, g3, g4, g5, g6⟩ := hl
  obtain ⟨e1, e2, e3⟩ := g5
  have lt1 := g6.2.2.2.2.2
  have u2 := g6.2.1.1
  have np6 := g6.1.1
  obtain ⟨K, t1, t84, t85, t86, t87, t88, t92, tV, ⟨t31, t32, t33, t34, t50⟩, tf⟩ := m_takeOver (N := N) (K := L) hN hQ u2 e1.2.1
  have f3 : K 80 3 = L 80 3 := tf.2 3 (by simp)
  have f15 : K 80 15 = L 80 15 := tf.2 15 (by simp)
  have f24 : K 80 24 = L 80 24 := tf.2 24 (by simp)
  have f93 : K 93 = F 93 := (tf.1 93 (by omega) (by decide)).trans (hz.1.1 93 (by omega) (by decide))
  have flo : ∀ c, c < 80 → K c = F c := fun c hc => (zfm_lo tf (by decide) c hc).trans (zfm_lo hz.1 (by decide) c hc)
  refine ⟨K, ?_, f3.trans l3, d, z_nsX X m cd, x_nu X, fun p => x_V X p 5, (0, x_pn X, x_V X), 0, fun _ => (0, x_pn X, x_V X), 0, fun _ => (0, 0, 0), st, 0, tp, -nI 1, none, hQ, hok, zCi_hi hQ u2 hci flo, ⟨?_, fun w hw => ?_, fun hr => ?_, fun r hr => ?_⟩, ⟨?_, fun p hp => ?_⟩, t31, ?_, ⟨by omega, t33, fun i hi => absurd hi (Nat.not_lt_zero i)⟩, ⟨t34, fun i hi => absurd hi (Nat.not_lt_zero i)⟩, fun j hj => ?_, ⟨f15.trans l15, fun i hi => absurd hi (Nat.not_lt_zero i)⟩, f24.trans l24, t50⟩
  · simp (disch := omega) only [f_X12_school_108, kd_80, k22, t1, zl_0, gd_t, gd_pos, Option.bind_some, if_true]
  · show K 84 0 = _
    rw [t84 0 (by omega)]
    exact e1.1
  · have hw : w < x_np X := hw
    obtain ⟨w1, w2, w3⟩ := e2 w hw
    have b8 := (g6.1.2 w hw).2.1
    refine ⟨?_, ?_, fun i hi => ?_⟩
    · show K 86 w = _
      rw [t86 w (by omega)]
      exact w2
    · show K 85 w = _
      rw [t85 w (by omega)]
      exact w1
    · have hi : i < x_bn X w := hi
      show K 87 (8 * w + i) = _
      rw [t87 (8 * w + i) (by omega), show 48 + (8 * w + i) = 8 * (6 + w) + i by omega]
      exact w3 i hi
  · have hr : (if x_lt X = 1 then some (m, cd) else none) = none := hr
    by_cases h : x_lt X = 1
    · rw [if_pos h] at hr
      cases hr
    · show K 84 3 = _
      rw [t84 3 (by omega), g1.2.2.2.2.2.1.1, g3 (by omega)]
      rfl
  · have hr : (if x_lt X = 1 then some (m, cd) else none) = some r := hr
    by_cases h : x_lt X = 1
    · rw [if_pos h] at hr
      obtain rfl := Option.some.inj hr
      have m7 := g1.2.2.2.1.1
      refine ⟨?_, fun i hi => ?_⟩
      · show K 84 3 = _
        rw [t84 3 (by omega)]
        exact g1.2.2.2.2.2.1.1
      · have hi : i < m := hi
        show K 92 i = _
        rw [t92 i (by omega)]
        exact g1.2.2.2.2.2.1.2 i hi
    · rw [if_neg h] at hr
      cases hr
  · show K 84 1 = _
    rw [t84 1 (by omega)]
    exact e1.2.1
  · have hp : p < x_nu X := hp
    obtain ⟨v1, v2, v3, v4, v5⟩ := tV p hp
    obtain ⟨w1, w2, w3, w4⟩ := e3 p hp
    obtain ⟨-, -, -, o3, o4, -⟩ := g6.2.1.2 p hp
    refine ⟨v1.trans w2, v2.trans w3, v3.trans w4, ?_, ?_, (t88 p (by omega)).trans w1⟩
    · show K 98 p = nI (x_V X p 3)
      rw [o3]
      exact v4
    · show K 99 p = nI (x_V X p 4)
      rw [o4]
      exact v5
  · show K 80 32 = _
    rw [t32]
    exact e1.2.2
  · show K 93 j = _
    rw [f93]
    exact h93 j hj
variable {S : zS} {nu : Nat} {pr : Nat → Nat} {T : zT} {na : Nat} {A' : Nat → zT} {ns : Nat} {sn : Nat → Nat × Nat × Nat} {nt : Nat} {fp : Int32} {im : Option zIm}
theorem s_bad (hQ : sR Q q) (hO : zOk S nu pr T na A' ns sn nt tp im) (hC : zCi q S nu T na A' ns sn st nt tp fp im I) (hM : zMi S nu T na A' ns sn st nt tp fp im I) {e pl : Nat} (he : 1 ≤ e) (he5 : e ≤ 5) (k22 : L 80 22 = nI e) (k23 : L 80 23 = nI pl) (hF : ∀ c, (q ≤ c ∧ c ≤ q + 15) ∨ (41 ≤ c ∧ c ≤ 56 ∧ c ≠ 47) ∨ c = 2 → F c = I c) (h47 : ∀ j, F 47 j = sm_up (I 47) 0 (I 47 0 + 1) j) (h0 : F 0 1 = nI 0 ∧ F 0 2 = nI pl) (hI : ∀ c, 80 ≤ c → F c = I c) (hz : zMh F L) (l3 : L 80 3 = nI 0) (l15 : L 80 15 = nI 0) : ∃ K, f_X12_school_108 N Q 80 L = some (nI e, K) ∧ K 80 3 = nI 0 ∧ zInv (K, Q) := by
  obtain ⟨hso, h7, hT, hAk, hNk, hTp, hIm⟩ := id hO
  obtain ⟨c1, c2, c3, c4, c5, c6, c7, c8, c9, c10⟩ := id hC
  obtain ⟨d1, d2, d3, d4, d5, d6, d7, d8, d9, d10⟩ := id hM
  obtain ⟨z1, z84, z85, z86, z87, z88, z92⟩ := hz
  have h6 := hso.1
  obtain ⟨K, hK⟩ : ∃ K, K = sm_up (sm_up L 80 (sm_up (L 80) 24 (nI pl))) 93 (sm_up (L 93) 0 (L 93 0 + nI 1)) := ⟨_, rfl⟩
  have kc : ∀ c, c ≠ 80 → c ≠ 93 → K c = L c := fun c h1 h2 => by rw [hK, up_n _ _ h2, up_n _ _ h1]
  have kf : ∀ f, f ≠ 24 → K 80 f = L 80 f := fun f h1 => by rw [hK, up_n _ _ (by omega), up_s, up_n _ _ h1]
  have k24 : K 80 24 = nI pl := by rw [hK, up_n _ _ (by omega), up_s, up_s]
  have kg : ∀ c, 93 < c → K c = I c := fun c h1 => by
    rw [kc c (by omega) (by omega), z1.1 c (by omega) (by simp; omega)]
    exact hI c (by omega)
  have kz : ∀ f, f ∉ zMsF → K 80 f = I 80 f := fun f h1 => by
    rw [kf f (fun h => h1 (by rw [h]; decide)), z1.2 f h1, hI 80 (by omega)]
  have k93 : K 93 = sm_up (I 93) 0 (I 93 0 + 1) := by
    rw [hK, up_s, z1.1 93 (by omega) (by decide), hI 93 (by omega)]
    rfl
  have klo : ∀ c, c < 80 → K c = F c := fun c hc => by
    rw [kc c (by omega) (by omega)]
    exact zfm_lo z1 (by decide) c hc
  have kF : ∀ c, (q ≤ c ∧ c ≤ q + 15) ∨ (41 ≤ c ∧ c ≤ 56 ∧ c ≠ 47) ∨ c = 2 → K c = I c := fun c hc => by
    have := hQ.2.1
    rw [klo c (by omega)]
    exact hF c hc
  refine ⟨K, ?_, (kf 3 (by omega)).trans l3, q, S, nu, pr, T, na, A', ns, sn, sm_up st 0 (st 0 + 1), 0, tp, nI pl, im, hQ, ⟨hso, h7, hT, hAk, hNk, ⟨Nat.zero_le _, fun i hi => absurd hi (Nat.not_lt_zero i)⟩, hIm⟩, ⟨zCS_fr c1 (fun c h1 h2 => kF c (by omega)), zCV_fr c2 h7 (fun c hc => kF c (by omega)), ?_, ?_, zCA_fr c5 (kF 41 (by omega)) (kF 42 (by omega)), zCN_fr c6 (fun c h1 h2 => kF c (by omega)), fun j hj => ?_, ⟨?_, fun i hi => absurd hi (Nat.not_lt_zero i)⟩, ?_, ?_⟩, ⟨?_, ?_, ?_, ?_, zMA_eq d5 (kz 33 (by decide)) (kg 100 (by omega)), zMN_eq d6 (kz 34 (by decide)) (kg 107 (by omega)) (kg 108 (by omega)) (kg 109 (by omega)), fun j hj => ?_, ⟨(kf 15 (by omega)).trans l15, fun i hi => absurd hi (Nat.not_lt_zero i)⟩, k24, zMI_eq d10 (fun c h1 h2 => kg c (by omega)) (kz 50 (by decide)) (kz 51 (by decide)) (kz 52 (by decide))⟩⟩
  · rw [hK]
    simp (disch := omega) only [f_X12_school_108, kd_80, r80_13 hQ, kd_93, k22, k23, zl_0, zl_1, nI_eq, nI_ltI, nI_leI, nI_clamp, up_s, up_n, gd_t, gd_pos, lt_eq, Option.bind_some, true_and, and_true, not_true, not_false_iff, false_or, or_false, if_true, if_false, if_pos, if_neg]
  · show K (q + 7) 2 = _
    rw [kF (q + 7) (by omega)]
    exact c3
  · show K (q + 7) 3 = _
    rw [kF (q + 7) (by omega)]
    exact c4
  · show K 47 j = _
    rw [klo 47 (by omega), h47 j]
    by_cases e : j = 0
    · rw [e, up_s, up_s, c7 0 (by omega)]
    · rw [up_n _ _ e, up_n _ _ e]
      exact c7 j hj
  · show K 0 1 = _
    rw [klo 0 (by omega)]
    exact h0.1
  · show K 0 2 = _
    rw [klo 0 (by omega)]
    exact h0.2
  · rcases im with _ | x
    · show K 48 0 = 0
      rw [kF 48 (by omega)]
      exact c10
    · obtain ⟨h1, h2, h3, h4, h5⟩ := c10
      refine ⟨?_, ?_, zCA_fr h3 (kF 50 (by omega)) (kF 51 (by omega)), zCN_fr h4 (fun c h1 h2 => kF c (by omega)), fun j hj => ?_⟩
      · show K 48 0 = 1
        rw [kF 48 (by omega)]
        exact h1
      · show zRow nu x.1 (K 49) 0
        rw [kF 49 (by omega)]
        exact h2
      · show K 56 j = _
        rw [kF 56 (by omega)]
        exact h5 j hj
  · obtain ⟨m1, m2, m3, m4⟩ := d1
    refine ⟨?_, fun w hw => ?_, fun hr => ?_, fun r hr => ?_⟩
    · show K 84 0 = _
      rw [kc 84 (by omega) (by omega), z84 0 (by omega), hI 84 (by omega)]
      exact m1
    · obtain ⟨w1, w2, w3⟩ := m2 w hw
      have b8 := (hso.2.1 w hw).2.1
      refine ⟨?_, ?_, fun i hi => ?_⟩
      · show K 86 w = _
        rw [kc 86 (by omega) (by omega), z86 w (by omega), hI 86 (by omega)]
        exact w1
      · show K 85 w = _
        rw [kc 85 (by omega) (by omega), z85 w (by omega), hI 85 (by omega)]
        exact w2
      · show K 87 (8 * w + i) = _
        rw [kc 87 (by omega) (by omega), z87 _ (by omega), hI 87 (by omega)]
        exact w3 i hi
    · show K 84 3 = _
      rw [kc 84 (by omega) (by omega), z84 3 (by omega), hI 84 (by omega)]
      exact m3 hr
    · obtain ⟨w1, w2⟩ := m4 r hr
      have r7 := (hso.2.2 r hr).1
      refine ⟨?_, fun i hi => ?_⟩
      · show K 84 3 = _
        rw [kc 84 (by omega) (by omega), z84 3 (by omega), hI 84 (by omega)]
        exact w1
      · show K 92 i = _
        rw [kc 92 (by omega) (by omega), z92 i (by omega), hI 92 (by omega)]
        exact w2 i hi
  · refine ⟨?_, fun p hp => ?_⟩
    · show K 84 1 = _
      rw [kc 84 (by omega) (by omega), z84 1 (by omega), hI 84 (by omega)]
      exact d2.1
    · show K 95 p = _ ∧ K 96 p = _ ∧ K 97 p = _ ∧ K 98 p = _ ∧ K 99 p = _ ∧ K 88 p = _
      rw [kg 95 (by omega), kg 96 (by omega), kg 97 (by omega), kg 98 (by omega), kg 99 (by omega), kc 88 (by omega) (by omega), z88 p (by omega), hI 88 (by omega)]
      exact d2.2 p hp
  · show K 80 31 = _
    rw [kz 31 (by decide)]
    exact d3
  · show K 80 32 = _
    rw [kz 32 (by decide)]
    exact d4
  · show K 93 j = _
    rw [k93]
    by_cases e : j = 0
    · rw [e, up_s, up_s, d7 0 (by omega)]
    · rw [up_n _ _ e, up_n _ _ e]
      exact d7 j hj
end ZV
