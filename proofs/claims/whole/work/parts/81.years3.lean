/-! ===== PURE PART: years: the class ===== -/
section ZC
variable {N : Nat} {R : Nat → Nat → Nat} {q nu pn p d k : Nat} {S : zS} {I I1 I2 I3 : Nat → Nat → Int32} {W : Nat → zP}
theorem zYl_p (h : p < 7) : 59 + 2 + p ∈ zYl q := by
  unfold zYl
  simp only [List.mem_cons, List.not_mem_nil, or_false]
  omega
theorem zYf_p {J : Nat → Nat → Int32} (h : p < 7) (hf : zfr [59 + 2 + p, q + 6, q + 16] I J) : zYf q I J := zYf_fr hf (by simp; omega) (fun x hx => by
  simp only [List.mem_cons, List.not_mem_nil, or_false] at hx
  rcases hx with rfl | rfl | rfl
  · exact zYl_p h
  · unfold zYl
    simp
  · unfold zYl
    simp)
theorem zYf_S (hR : sR R q) {J : Nat → Nat → Int32} (h : zYf q I J) (hS : zCS S q I) : zCS S q J := zCS_fr hS (fun c h1 h2 => h.1 c (by have := sR_q hR; omega) (by
  have := sR_q hR
  unfold zYl
  simp only [List.mem_cons, List.not_mem_nil, or_false]
  omega))
theorem zCV_1 (hR : sR R q) {J : Nat → Nat → Int32} {pl : zP} (h7 : nu ≤ 7) (hp : p < nu) (hV : zCV nu W 59 I) (hf : zfr [59 + 2 + p, q + 6, q + 16] I J) (hpl : zPl pl (J (59 + 2 + p))) : zCV nu (sm_up W p pl) 59 J := by
  have hq9 := sR_q hR
  refine ⟨by rw [hf 59 (by simp; omega)]; exact hV.1, fun p' hp' => ?_⟩
  by_cases e : p' = p
  · rw [e, up_s]
    exact hpl
  · rw [up_n _ _ e, hf (59 + 2 + p') (by simp; omega)]
    exact hV.2 p' hp'
theorem c_ch3 (hR : sR R q) (hd : d < 5) (h2 : 2 < d) (a1 : f_X11_draw N R 0 (nI 5) I = some (nI d, I1)) : f_X11_dreamOfChance N R 0 I = some ((), I1) := by
  simp (disch := omega) only [f_X11_dreamOfChance, kd_0, a1, zl_2, zl_5, nI_leI, gd_t, gd_pos, Option.bind_some, if_neg]
theorem c_ch0 (hN : 5000 ≤ N) (hR : sR R q) (hso : z_sok S) (h7 : nu ≤ 7) (hn : 1 ≤ nu) (h11 : I1 59 1 = nI nu) (hS : zCS S q I3) (hV : zCV nu W 59 I3) (ho : ∀ p, p < nu → z_pok S (W p)) (h32 : I3 59 3 = nI pn) (hp4 : pn ≤ 4) (hp : p < nu) (hk : k < 30) (a1 : f_X11_draw N R 0 (nI 5) I = some (nI 0, I1)) (a2 : f_X11_draw N R 0 (nI nu) I1 = some (nI p, I2)) (a3 : f_X11_draw N R 0 (nI 30) I2 = some (nI k, I3)) : ∃ J, f_X11_dreamOfChance N R 0 I = some ((), J) ∧ zCV nu (z_cw3 S nu pn 0 p k W) 59 J ∧ zfr [59 + 2 + p, q + 6, q + 16] I3 J := by
  have aw : ∀ p, p < nu → W p 4 < 2 ^ 30 := fun p hp => (ho p hp).2.2.2.2.1
  have hq9 := sR_q hR
  have ht := tR_59 hR.1
  have t3 := ht.2.2.2.1 p (by omega)
  have t4 := ht.2.2.2.2 p (by omega)
  have e := c_could (N := N) hN ht hV h7 aw h32 hp4 t4 (hV.2 p hp) (aw p hp) (j := k + 1) (by omega) (by omega)
  unfold z_cw3
  rw [if_neg (by omega), if_pos rfl]
  by_cases hm : z_may nu W pn (W p) (k + 1) = true
  · rw [if_pos hm]
    rw [if_pos hm] at e
    obtain ⟨J, l1, l2, l3⟩ := c_go hN hR.q hso hS t4 (hV.2 p hp) (ho p hp) (j := k + 1) (by omega) (by omega)
    refine ⟨J, ?_, zCV_1 hR h7 hp hV l3 l2, l3⟩
    simp (disch := omega) only [f_X11_dreamOfChance, kd_0, kd_59, ht.2.1, ht.2.2.1, t3, r0_10 hR, hR.2.2.1, q_k0 hR, h11, a1, a2, a3, e, l1, zl_0, zl_1, zl_2, zl_5, zl_7, zl_30, nI_add, nI_ltI, nI_leI, nI_eq, nI_clamp, gd_t, gd_pos, lt_eq, Option.bind_some, true_and, and_true, not_true, not_false_iff, false_or, or_false, if_true, if_false, if_pos, if_neg]
  · rw [if_neg hm]
    rw [if_neg hm] at e
    refine ⟨I3, ?_, hV, zfr_refl _ _⟩
    simp (disch := omega) only [f_X11_dreamOfChance, kd_0, kd_59, ht.2.1, ht.2.2.1, t3, r0_10 hR, hR.2.2.1, q_k0 hR, h11, a1, a2, a3, e, zl_0, zl_1, zl_2, zl_5, zl_7, zl_30, nI_add, nI_ltI, nI_leI, nI_eq, nI_clamp, gd_t, gd_pos, lt_eq, Option.bind_some, true_and, and_true, not_true, not_false_iff, false_or, or_false, if_true, if_false, if_pos, if_neg]
theorem c_ch1 (hR : sR R q) (h7 : nu ≤ 7) (hn : 1 ≤ nu) (h11 : I1 59 1 = nI nu) (hV : zCV nu W 59 I2) (ho : ∀ p, p < nu → z_pok S (W p)) (hp : p < nu) (a1 : f_X11_draw N R 0 (nI 5) I = some (nI 1, I1)) (a2 : f_X11_draw N R 0 (nI nu) I1 = some (nI p, I2)) : ∃ J, f_X11_dreamOfChance N R 0 I = some ((), J) ∧ zCV nu (z_cw3 S nu pn 1 p k W) 59 J ∧ zfr [59 + 2 + p, q + 6, q + 16] I2 J := by
  have ht := tR_59 hR.1
  have t3 := ht.2.2.2.1 p (by omega)
  have t4 := ht.2.2.2.2 p (by omega)
  have o1 := (ho p hp).2.1
  have g1 := c_addSore (N := N) (R := R) (x := nI 3) t4 (hV.2 p hp) (v := min 9 (W p 1 + 3)) (by rw [nI_add]; exact zz_cl_add (by omega) (by omega))
  have hf : zfr [59 + 2 + p, q + 6, q + 16] I2 (sm_up I2 (59 + 2 + p) (sm_up (I2 (59 + 2 + p)) 1 (nI (min 9 (W p 1 + 3))))) := zfr_up (zfr_refl _ _) (by simp) _
  refine ⟨_, ?_, zCV_1 hR h7 hp hV hf (by rw [up_s]; exact zPl_up (hV.2 p hp) 1 _), hf⟩
  simp (disch := omega) only [f_X11_dreamOfChance, kd_0, kd_59, ht.2.1, ht.2.2.1, t3, t4, r0_10 hR, hR.2.2.1, q_k0 hR, h11, a1, a2, g1, zl_0, zl_1, zl_2, zl_3, zl_5, zl_7, nI_ltI, nI_leI, nI_eq, nI_clamp, gd_t, gd_pos, lt_eq, Option.bind_some, true_and, and_true, not_true, not_false_iff, false_or, or_false, if_true, if_false, if_pos, if_neg]
theorem c_ch2 (hR : sR R q) (h7 : nu ≤ 7) (hn : 1 ≤ nu) (h11 : I1 59 1 = nI nu) (hV : zCV nu W 59 I2) (ho : ∀ p, p < nu → z_pok S (W p)) (hp : p < nu) (a1 : f_X11_draw N R 0 (nI 5) I = some (nI 2, I1)) (a2 : f_X11_draw N R 0 (nI nu) I1 = some (nI p, I2)) : ∃ J, f_X11_dreamOfChance N R 0 I = some ((), J) ∧ zCV nu (z_cw3 S nu pn 2 p k W) 59 J ∧ zfr [59 + 2 + p, q + 6, q + 16] I2 J := by
  have ht := tR_59 hR.1
  have t3 := ht.2.2.2.1 p (by omega)
  have t4 := ht.2.2.2.2 p (by omega)
  have o1 := (ho p hp).2.1
  have g1 := c_addSore (N := N) (R := R) (x := -nI 3) t4 (hV.2 p hp) (v := W p 1 - 3) (zz_cl_less o1 (by omega))
  have hf : zfr [59 + 2 + p, q + 6, q + 16] I2 (sm_up I2 (59 + 2 + p) (sm_up (I2 (59 + 2 + p)) 1 (nI (W p 1 - 3)))) := zfr_up (zfr_refl _ _) (by simp) _
  refine ⟨_, ?_, zCV_1 hR h7 hp hV hf (by rw [up_s]; exact zPl_up (hV.2 p hp) 1 _), hf⟩
  simp (disch := omega) only [f_X11_dreamOfChance, kd_0, kd_59, ht.2.1, ht.2.2.1, t3, t4, r0_10 hR, hR.2.2.1, q_k0 hR, h11, a1, a2, g1, zl_m3, zl_0, zl_1, zl_2, zl_3, zl_5, zl_7, nI_ltI, nI_leI, nI_eq, nI_clamp, gd_t, gd_pos, lt_eq, Option.bind_some, true_and, and_true, not_true, not_false_iff, false_or, or_false, if_true, if_false, if_pos, if_neg]
end ZC
section ZC
variable {N : Nat} {R : Nat → Nat → Nat} {q nu pn : Nat} {S : zS} {I : Nat → Nat → Int32} {W : Nat → zP} {nx : Int32 → Int32} {dw : Int32 → Nat}
theorem zYf_V0 {J : Nat → Nat → Int32} {v : Int32} (h : zCV nu W 59 I) (hJ : J = sm_up I 0 (sm_up (I 0) 15 v)) : zCV nu W 59 J := by
  rw [hJ]
  refine ⟨by rw [up_n _ _ (by omega)]; exact h.1, fun p hp => ?_⟩
  rw [up_n _ _ (by omega)]
  exact h.2 p hp
theorem c_chance (hN : 5000 ≤ N) (hR : sR R q) (hso : z_sok S) (h7 : nu ≤ 7) (hn : 1 ≤ nu) (hS : zCS S q I) (hV : zCV nu W 59 I) (ho : ∀ p, p < nu → z_pok S (W p)) (h32 : I 59 3 = nI pn) (hp4 : pn ≤ 4) (hdr : ∀ (I : Nat → Nat → Int32) (m : Nat), 1 ≤ m → m < 2 ^ 31 → f_X11_draw N R 0 (nI m) I = some (nI (dw (nx (I 0 15)) % m), sm_up I 0 (sm_up (I 0) 15 (nx (I 0 15))))) {x : Int32} (hx : I 0 15 = x) : ∃ J, f_X11_dreamOfChance N R 0 I = some ((), J) ∧ zCV nu (z_cw3 S nu pn (dw (nx x) % 5) (dw (nx (nx x)) % nu) (dw (nx (nx (nx x))) % 30) W) 59 J ∧ J 0 15 = z_cx nx (dw (nx x) % 5) x ∧ J 59 3 = nI pn ∧ zYf q I J := by
  have hq9 := sR_q hR
  have a1 := hdr I 5 (by omega) (by omega)
  rw [hx] at a1
  have t5 : dw (nx x) % 5 < 5 := Nat.mod_lt _ (by omega)
  have tn : dw (nx (nx x)) % nu < nu := Nat.mod_lt _ (by omega)
  have tk : dw (nx (nx (nx x))) % 30 < 30 := Nat.mod_lt _ (by omega)
  obtain ⟨I1, hI1⟩ : ∃ J, J = sm_up I 0 (sm_up (I 0) 15 (nx x)) := ⟨_, rfl⟩
  have b1 : zYf q I I1 := by rw [hI1]; exact zYf_s _ _
  have g1 : I1 0 15 = nx x := by rw [hI1, up_s, up_s]
  have p1 : I1 59 3 = nI pn := by rw [hI1, up_n _ _ (by omega)]; exact h32
  have hV1 := zYf_V0 hV hI1
  rw [← hI1] at a1
  have a2 := hdr I1 nu hn (by omega)
  rw [g1] at a2
  obtain ⟨I2, hI2⟩ : ∃ J, J = sm_up I1 0 (sm_up (I1 0) 15 (nx (nx x))) := ⟨_, rfl⟩
  have b2 : zYf q I1 I2 := by rw [hI2]; exact zYf_s _ _
  have g2 : I2 0 15 = nx (nx x) := by rw [hI2, up_s, up_s]
  have p2 : I2 59 3 = nI pn := by rw [hI2, up_n _ _ (by omega)]; exact p1
  have hV2 := zYf_V0 hV1 hI2
  rw [← hI2] at a2
  have b12 := zYf_trans b1 b2
  have a3 := hdr I2 30 (by omega) (by omega)
  rw [g2] at a3
  obtain ⟨I3, hI3⟩ : ∃ J, J = sm_up I2 0 (sm_up (I2 0) 15 (nx (nx (nx x)))) := ⟨_, rfl⟩
  have b3 : zYf q I2 I3 := by rw [hI3]; exact zYf_s _ _
  have g3 : I3 0 15 = nx (nx (nx x)) := by rw [hI3, up_s, up_s]
  have p3 : I3 59 3 = nI pn := by rw [hI3, up_n _ _ (by omega)]; exact p2
  have hV3 := zYf_V0 hV2 hI3
  rw [← hI3] at a3
  have b13 := zYf_trans b12 b3
  have hS3 := zYf_S hR b13 hS
  generalize dw (nx x) % 5 = d at *
  generalize dw (nx (nx x)) % nu = p at *
  generalize dw (nx (nx (nx x))) % 30 = k at *
  have hc : d = 0 ∨ d = 1 ∨ d = 2 ∨ 2 < d := by omega
  rcases hc with rfl | rfl | rfl | h2
  · obtain ⟨J, j1, j2, j3⟩ := c_ch0 (N := N) hN hR hso h7 hn hV1.1 hS3 hV3 ho p3 hp4 tn tk a1 a2 a3
    exact ⟨J, j1, j2, by rw [j3 0 (by simp; omega)]; exact g3, by rw [j3 59 (by simp; omega)]; exact p3, zYf_trans b13 (zYf_p (by omega) j3)⟩
  · obtain ⟨J, j1, j2, j3⟩ := c_ch1 (N := N) (pn := pn) (k := k) hR h7 hn hV1.1 hV2 ho tn a1 a2
    exact ⟨J, j1, j2, by rw [j3 0 (by simp; omega)]; exact g2, by rw [j3 59 (by simp; omega)]; exact p2, zYf_trans b12 (zYf_p (by omega) j3)⟩
  · obtain ⟨J, j1, j2, j3⟩ := c_ch2 (N := N) (pn := pn) (k := k) hR h7 hn hV1.1 hV2 ho tn a1 a2
    exact ⟨J, j1, j2, by rw [j3 0 (by simp; omega)]; exact g2, by rw [j3 59 (by simp; omega)]; exact p2, zYf_trans b12 (zYf_p (by omega) j3)⟩
  · have j1 := c_ch3 (N := N) hR t5 h2 a1
    refine ⟨I1, j1, ?_, ?_, p1, b1⟩
    · unfold z_cw3
      rw [if_pos h2]
      exact hV1
    · unfold z_cx
      rw [if_pos h2]
      exact g1
/-- the dream's pupils live a week -/
theorem c_ywk (hN : 5000 ≤ N) (hR : sR R q) (hso : z_sok S) (h7 : nu ≤ 7) (hS : zCS S q I) (hV : zCV nu W 59 I) (ho : ∀ p, p < nu → z_pok S (W p)) (kk : Nat → Int32 → Int32 → Int32 → (Nat → Nat → Int32) → Option ((Int32 ⊕ String) × (Nat → Nat → Int32))) (x y z : Int32) : ∃ J, f_X11_years_57 N R kk N 0 x y z (nI 0) I = kk 0 x y (z + 1) J ∧ zCV nu (fun p => z_wk S (W p)) 59 J ∧ J 0 = I 0 ∧ J 59 = I 59 ∧ zYf q I J := by
  have hq9 := sR_q hR
  have ht := tR_59 hR.1
  have L := zk_loop (fun n i s => f_X11_years_57 N R kk n 0 x y z (nI i) s) (fun s => kk 0 x y (z + 1) s) (fun i s => zCV nu (fun p => if p < i then z_wk S (W p) else W p) 59 s ∧ s 0 = I 0 ∧ s 59 = I 59 ∧ zYf q I s) nu
    (fun n s hs => by
      have h1 := hs.1.1
      simp (disch := omega) only [f_X11_years_57, kd_0, kd_59, r0_10 hR, h1, nI_leI, gd_t, gd_pos, if_pos])
    (fun n i s hi hs => by
      obtain ⟨h1, h2, h3, h4⟩ := hs
      have hn1 := h1.1
      have t3 := ht.2.2.2.1 i (by omega)
      have t4 := ht.2.2.2.2 i (by omega)
      have hpl : zPl (W i) (s (59 + 2 + i)) := by
        have := h1.2 i hi
        dsimp only at this
        rw [if_neg (by omega)] at this
        exact this
      obtain ⟨K, k1, k2, k3⟩ := c_pass (m := 1) hN hR.q hso (zYf_S hR h4 hS) t4 hpl (ho i hi) (by omega)
      refine ⟨K, ?_, ⟨by rw [k3 59 (by simp; omega)]; exact hn1, fun p hp => ?_⟩, by rw [k3 0 (by simp; omega)]; exact h2, by rw [k3 59 (by simp; omega)]; exact h3, zYf_trans h4 (zYf_p (by omega) k3)⟩
      · simp (disch := omega) only [f_X11_years_57, kd_0, kd_59, r0_10 hR, ht.2.1, ht.2.2.1, t3, hn1, hR.2.2.1, q_k0 hR, k1, zl_0, zl_1, nI_leI, nI_ltI, nI_add, nI_clamp, gd_t, gd_pos, lt_eq, Option.bind_some, true_and, and_true, not_true, not_false_iff, false_or, or_false, if_true, if_false, if_pos, if_neg]
      · dsimp only
        by_cases e : p = i
        · rw [e, if_pos (by omega)]
          exact k2
        · have := h1.2 p hp
          dsimp only at this
          rw [k3 (59 + 2 + p) (by simp; omega)]
          by_cases e2 : p < i
          · rw [if_pos e2] at this
            rw [if_pos (by omega)]
            exact this
          · rw [if_neg e2] at this
            rw [if_neg (by omega)]
            exact this) nu 0 I N (by omega) (by omega) ⟨⟨hV.1, fun p hp => by dsimp only; rw [if_neg (by omega)]; exact hV.2 p hp⟩, rfl, rfl, zYf_refl _ _⟩
  obtain ⟨J, l1, l2, l3, l4, l5⟩ := L
  refine ⟨J, l1, ⟨l2.1, fun p hp => ?_⟩, l3, l4, l5⟩
  have := l2.2 p hp
  dsimp only at this
  rw [if_pos hp] at this
  exact this
theorem c_tbec (hN : 5000 ≤ N) (hR : sR R q) (h7 : nu ≤ 7) (hV : zCV nu W (q + 7) I) (h3 : I (q + 7) 3 = nI pn) : ∃ J, f_X10_become N R 59 (q + 7) I = some ((), J) ∧ zCV nu W 59 J ∧ J 59 3 = nI pn ∧ J 0 = I 0 ∧ zYf q I J := by
  have hq9 := sR_q hR
  have ht := tR_59 hR.1
  have hv1 := hV.1
  obtain ⟨X, hX⟩ : ∃ X, X = sm_up I 59 (sm_up (sm_up (sm_up (I 59) 1 (nI nu)) 2 (I (q + 7) 2)) 3 (nI pn)) := ⟨_, rfl⟩
  have x0 : X 0 = I 0 := by rw [hX, up_n _ _ (by omega)]
  have xf : zYf q I X := ⟨fun c h0 hc => by
    have : c ≠ 59 := fun e => hc (by rw [e]; unfold zYl; simp)
    rw [hX, up_n _ _ this], fun f _ => by rw [x0]⟩
  have fV : ∀ {s : Nat → Nat → Int32}, zYf q I s → zCV nu W (q + 7) s := fun h => zCV_fr hV h7 (fun c hc => h.1 c (by omega) (by
    unfold zYl
    simp only [List.mem_cons, List.not_mem_nil, or_false]
    omega))
  have L := zm_loop (fun n i s => f_X10_become_26 N R n 59 (q + 7) (nI i) s) (fun i s => s 59 1 = nI nu ∧ s 59 3 = nI pn ∧ (∀ p, p < i → zPl (W p) (s (59 + 2 + p))) ∧ s 0 = I 0 ∧ zYf q I s) (fun y => y.1 = () ∧ zCV nu W 59 y.2 ∧ y.2 59 3 = nI pn ∧ y.2 0 = I 0 ∧ zYf q I y.2) nu
    (fun n s hs => by
      have h1 := hs.1
      exact ⟨((), s), by simp (disch := omega) only [f_X10_become_26, kd_59, h1, nI_leI, gd_t, gd_pos, if_pos], rfl, ⟨hs.1, hs.2.2.1⟩, hs.2.1, hs.2.2.2.1, hs.2.2.2.2⟩)
    (fun n i s hi hs => by
      obtain ⟨h1, h2, h5, h6, h8⟩ := hs
      have t3 := ht.2.2.2.1 i (by omega)
      have t4 := ht.2.2.2.2 i (by omega)
      obtain ⟨K, k1, k2, k3⟩ := c_become (N := N) (R := R) (c := 59 + 2 + i) (q_t4 hR i (by omega)) t4 (by omega) ((fV h8).2 i hi)
      have k4 : zfr [59 + 2 + i, q + 6, q + 16] s K := zfr_mono k3 (by simp)
      refine ⟨K, ?_, by rw [k3 59 (by simp; omega)]; exact h1, by rw [k3 59 (by simp; omega)]; exact h2, fun p hp => ?_, by rw [k3 0 (by simp; omega)]; exact h6, zYf_trans h8 (zYf_p (by omega) k4)⟩
      · simp (disch := omega) only [f_X10_become_26, kd_59, ht.2.1, ht.2.2.1, t3, t4, h1, q_t0 hR, q_t1 hR, q_t2 hR, q_t3 hR, k1, zl_0, zl_1, nI_leI, nI_ltI, nI_add, nI_clamp, gd_t, gd_pos, lt_eq, Option.bind_some, true_and, and_true, not_true, not_false_iff, false_or, or_false, if_true, if_false, if_pos, if_neg]
      · by_cases e : p = i
        · rw [e]
          exact k2
        · rw [k3 (59 + 2 + p) (by simp; omega)]
          exact h5 p (by omega)) nu 0 X N (by omega) (by omega) ⟨by rw [hX, up_s, up_n _ _ (by omega), up_n _ _ (by omega), up_s], by rw [hX, up_s, up_s], fun p hp => absurd hp (Nat.not_lt_zero p), x0, xf⟩
  obtain ⟨⟨u, J⟩, l1, l2, l3, l4, l5, l6⟩ := L
  refine ⟨J, Eq.trans ?_ l1, l3, l4, l5, l6⟩
  rw [hX]
  have hne : ¬ q + 7 = 59 := by omega
  simp (disch := omega) only [f_X10_become, kd_59, q_t0 hR, hv1, h3, zl_0, up_s, up_n, up_uu, gd_t, gd_pos, lt_eq]
theorem c_pdone (hN : 5000 ≤ N) (hR : sR R q) (hso : z_sok S) (h7 : nu ≤ 7) (hS : zCS S q I) (hV : zCV nu W 59 I) (ho : ∀ p, p < nu → z_pok S (W p)) : f_X11_piecesDoneInDream N R 0 I = some (nI (zcn (fun p => z_dn S (W p)) nu), I) := by
  have ht := tR_59 hR.1
  have hn1 := hV.1
  exact zu_loop (fun n i a => f_X11_piecesDoneInDream_4 N R n 0 a (nI i) I) (fun i => nI (zcn (fun p => z_dn S (W p)) i)) (nI (zcn (fun p => z_dn S (W p)) nu), I) nu
    (fun n => by simp (disch := omega) only [f_X11_piecesDoneInDream_4, kd_0, kd_59, r0_10 hR, hn1, nI_leI, gd_t, gd_pos, if_pos])
    (fun n i hi => by
      have t3 := ht.2.2.2.1 i (by omega)
      have t4 := ht.2.2.2.2 i (by omega)
      have e := c_isDone (N := N) hR.q hso hS t4 (hV.2 i hi) (ho i hi)
      by_cases hc : W i 3 < z_bn S (W i 2)
      · rw [if_pos hc] at e
        have e2 : zcn (fun p => z_dn S (W p)) (i + 1) = zcn (fun p => z_dn S (W p)) i := zcn_f (fun h => of_decide_eq_true h hc)
        rw [e2]
        simp (disch := omega) only [f_X11_piecesDoneInDream_4, kd_0, kd_59, r0_10 hR, ht.2.1, ht.2.2.1, t3, hn1, hR.2.2.1, q_k0 hR, e, zl_0, zl_1, nI_leI, nI_ltI, nI_eq, nI_add, nI_clamp, gd_t, gd_pos, lt_eq, Option.bind_some, true_and, and_true, not_true, not_false_iff, false_or, or_false, if_true, if_false, if_pos, if_neg]
      · rw [if_neg hc] at e
        have e2 : zcn (fun p => z_dn S (W p)) (i + 1) = zcn (fun p => z_dn S (W p)) i + 1 := zcn_t (decide_eq_true hc)
        rw [e2]
        simp (disch := omega) only [f_X11_piecesDoneInDream_4, kd_0, kd_59, r0_10 hR, ht.2.1, ht.2.2.1, t3, hn1, hR.2.2.1, q_k0 hR, e, zl_0, zl_1, nI_leI, nI_ltI, nI_eq, nI_add, nI_clamp, gd_t, gd_pos, lt_eq, Option.bind_some, true_and, and_true, not_true, not_false_iff, false_or, or_false, if_true, if_false, if_pos, if_neg]) nu 0 N (by omega) (by omega)
end ZC
