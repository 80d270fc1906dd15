/-! ===== PURE PART: years ===== -/
def z_yr (nx : Int32 → Int32) (dw : Int32 → Nat) (S : zS) (nu pn : Nat) (a : (Nat → zP) × Int32) : Nat → (Nat → zP) × Int32
  | 0 => a
  | n + 1 => (fun p => z_wk S (z_cw3 S nu pn (dw (nx (z_yr nx dw S nu pn a n).2) % 5) (dw (nx (nx (z_yr nx dw S nu pn a n).2)) % nu) (dw (nx (nx (nx (z_yr nx dw S nu pn a n).2))) % 30) (z_yr nx dw S nu pn a n).1 p), z_cx nx (dw (nx (z_yr nx dw S nu pn a n).2) % 5) (z_yr nx dw S nu pn a n).2)
theorem z_yr_pok {nx : Int32 → Int32} {dw : Int32 → Nat} {S : zS} {nu pn : Nat} {a : (Nat → zP) × Int32} (h : ∀ p, p < nu → z_pok S (a.1 p)) : ∀ n p, p < nu → z_pok S ((z_yr nx dw S nu pn a n).1 p)
  | 0, p, hp => h p hp
  | n + 1, p, hp => z_pok_wk (z_cw3_pok (Nat.mod_lt _ (by omega)) (Nat.mod_lt _ (by omega)) (z_yr_pok h n) p hp)
def z_yv (S : zS) (nu : Nat) (V W : Nat → zP) (v : Nat) : Int32 := if v = 0 then nI (zsm (fun p => W p 3) nu) - nI (zsm (fun p => V p 3) nu) else if v = 1 then nI (zcn (fun p => z_dn S (W p)) nu) else nI (zsm (fun p => W p 0) nu)
def zLy : List Nat := [95, 96, 97, 98, 99, 101, 102]
def zFy : List Nat := [31, 32, 49]
section ZY
variable {N : Nat} {R : Nat → Nat → Nat} {q : Nat} {S : zS} {nu : Nat} {pr : Nat → Nat} {T : zT} {na : Nat} {A : Nat → zT} {ns : Nat} {sn : Nat → Nat × Nat × Nat} {st : Nat → Int32} {nt : Nat} {tp : Nat → Nat} {fp : Int32} {im : Option zIm} {I J K : Nat → Nat → Int32} {nx : Int32 → Int32} {dw : Int32 → Nat}
theorem c_years (hN : 5000 ≤ N) (hR : sR R q) (hso : z_sok S) (h7 : nu ≤ 7) (hS : zCS S q I) (hV : zCV nu T.2.2 (q + 7) I) (ho : ∀ p, p < nu → z_pok S (T.2.2 p)) (h3 : I (q + 7) 3 = nI T.2.1) (hp4 : T.2.1 ≤ 4) (hdr : ∀ (I : Nat → Nat → Int32) (m : Nat), 1 ≤ m → m < 2 ^ 31 → f_X11_draw N R 0 (nI m) I = some (nI (dw (nx (I 0 15)) % m), sm_up I 0 (sm_up (I 0) 15 (nx (I 0 15))))) {m v : Nat} (hm : m ≤ 60) (hv : v ≤ 2) (x : Int32) : ∃ J, f_X11_years N R 0 x (nI m) (nI v) I = some (.inl (z_yv S nu T.2.2 (z_yr nx dw S nu T.2.1 (T.2.2, x) m).1 v), J) ∧ zYf q I J := by
  have hq9 := sR_q hR
  have ht := tR_59 hR.1
  have e3 := c_what_in (N := N) (R := R) (I := I) (m := 2) (by omega) hv
  have e5 := c_betw_in (N := N) (R := R) (I := I) (m := 60) (by omega) (Nat.zero_le m) hm
  obtain ⟨X, hX⟩ : ∃ X, X = sm_up I 0 (sm_up (I 0) 15 x) := ⟨_, rfl⟩
  have x0 : X 0 15 = x := by rw [hX, up_s, up_s]
  have xf : zYf q I X := by rw [hX]; exact zYf_s _ _
  have fV : ∀ {s : Nat → Nat → Int32}, zYf q I s → zCV nu T.2.2 (q + 7) s := fun h => zCV_fr hV h7 (fun c hc => h.1 c (by omega) (by
    unfold zYl
    simp only [List.mem_cons, List.not_mem_nil, or_false]
    omega))
  obtain ⟨Y, y1, y2, y3, y4, y5⟩ := c_tbec (N := N) (I := X) (pn := T.2.1) hN hR h7 (fV xf) (by rw [hX, up_n _ _ (by omega)]; exact h3)
  have po := z_yr_pok (nx := nx) (dw := dw) (pn := T.2.1) (a := (T.2.2, x)) ho
  have L := zm_loop (fun n i s => f_X11_years_34 N R n 0 (nI m) (nI v) (nI i) s) (fun i s => zCV nu (z_yr nx dw S nu T.2.1 (T.2.2, x) i).1 59 s ∧ s 0 15 = (z_yr nx dw S nu T.2.1 (T.2.2, x) i).2 ∧ s 59 3 = nI T.2.1 ∧ zYf q I s ∨ nu = 0 ∧ s 59 1 = nI 0 ∧ zYf q I s) (fun y => y.1 = .inl (z_yv S nu T.2.2 (z_yr nx dw S nu T.2.1 (T.2.2, x) m).1 v) ∧ zYf q I y.2) m
    (fun n s hs => by
      have hs2 : zCV nu (z_yr nx dw S nu T.2.1 (T.2.2, x) m).1 59 s ∧ zYf q I s := by
        rcases hs with h | h
        · exact ⟨h.1, h.2.2.2⟩
        · exact ⟨⟨by rw [h.1]; exact h.2.1, fun p hp => absurd hp (by omega)⟩, h.2.2⟩
      obtain ⟨g1, g2⟩ := hs2
      refine ⟨(.inl (z_yv S nu T.2.2 (z_yr nx dw S nu T.2.1 (T.2.2, x) m).1 v), s), ?_, rfl, g2⟩
      have b1 := c_barsOfAll (N := N) hN ht g1 h7
      have b2 := c_barsOfAll (N := N) hN (q_t hR) (fV g2) h7
      have b3 := c_pdone (N := N) hN hR hso h7 (zYf_S hR g2 hS) g1 (po m)
      have b4 := c_skillOfAll (N := N) hN ht g1 h7
      have hv3 : v = 0 ∨ v = 1 ∨ v = 2 := by omega
      unfold z_yv
      rcases hv3 with rfl | rfl | rfl
      · rw [if_pos rfl]
        simp (disch := omega) only [f_X11_years_34, kd_0, kd_59, r0_10 hR, hR.2.2.1, q_k0 hR, q_r5 hR, q_t0 hR, b1, b2, zl_0, nI_leI, nI_eq, gd_t, gd_pos, lt_eq, Option.bind_some, true_and, and_true, not_true, not_false_iff, false_or, or_false, if_true, if_false, if_pos, if_neg, zcd]
      · rw [if_neg (by omega), if_pos rfl]
        simp (disch := omega) only [f_X11_years_34, kd_0, kd_59, r0_10 hR, b3, zl_0, zl_1, nI_leI, nI_eq, gd_t, gd_pos, lt_eq, Option.bind_some, true_and, and_true, not_true, not_false_iff, false_or, or_false, if_true, if_false, if_pos, if_neg, zcd]
      · rw [if_neg (by omega), if_neg (by omega)]
        simp (disch := omega) only [f_X11_years_34, kd_0, kd_59, r0_10 hR, b4, zl_0, zl_1, nI_leI, nI_eq, gd_t, gd_pos, lt_eq, Option.bind_some, true_and, and_true, not_true, not_false_iff, false_or, or_false, if_true, if_false, if_pos, if_neg, zcd])
    (fun n i s hi hs => by
      by_cases hn : nu = 0
      · have h1 : s 59 1 = nI 0 ∧ zYf q I s := by
          rcases hs with h | h
          · exact ⟨by have := h.1.1; rw [hn] at this; exact this, h.2.2.2⟩
          · exact h.2
        obtain ⟨g1, g2⟩ := h1
        refine ⟨s, ?_, Or.inr ⟨hn, g1, g2⟩⟩
        have e1 : f_X11_years_57 N R (fun z0 z1 z2 z3 J => f_X11_years_34 N R n z0 z1 z2 z3 J) N 0 (nI m) (nI v) (nI i) (nI 0) s = f_X11_years_34 N R n 0 (nI m) (nI v) (nI (i + 1)) s := by
          obtain ⟨N', hN'⟩ : ∃ N', N = N' + 1 := ⟨N - 1, by omega⟩
          rw [show f_X11_years_57 N R (fun z0 z1 z2 z3 J => f_X11_years_34 N R n z0 z1 z2 z3 J) N = f_X11_years_57 N R (fun z0 z1 z2 z3 J => f_X11_years_34 N R n z0 z1 z2 z3 J) (N' + 1) by rw [← hN']]
          simp (disch := omega) only [f_X11_years_57, kd_0, kd_59, r0_10 hR, g1, zl_1, nI_leI, nI_add, gd_t, gd_pos, if_pos]
        refine Eq.trans ?_ e1
        simp (disch := omega) only [f_X11_years_34, kd_0, kd_59, r0_10 hR, g1, zl_0, nI_leI, gd_t, gd_pos, if_pos, if_neg]
      · rcases hs with ⟨g1, g2, g3, g4⟩ | h
        · obtain ⟨K, k1, k2, k3, k4, k5⟩ := c_chance (N := N) (I := s) hN hR hso h7 (by omega) (zYf_S hR g4 hS) g1 (po i) g3 hp4 hdr g2
          have g6 := zYf_trans g4 k5
          have gn := g1.1
          have k6 : ∀ p, p < nu → z_pok S (z_cw3 S nu T.2.1 (dw (nx (z_yr nx dw S nu T.2.1 (T.2.2, x) i).2) % 5) (dw (nx (nx (z_yr nx dw S nu T.2.1 (T.2.2, x) i).2)) % nu) (dw (nx (nx (nx (z_yr nx dw S nu T.2.1 (T.2.2, x) i).2))) % 30) (z_yr nx dw S nu T.2.1 (T.2.2, x) i).1 p) := z_cw3_pok (Nat.mod_lt _ (by omega)) (Nat.mod_lt _ (by omega)) (po i)
          obtain ⟨L, l1, l2, l3, l4, l5⟩ := c_ywk (N := N) (I := K) hN hR hso h7 (zYf_S hR g6 hS) k2 k6 (fun z0 z1 z2 z3 J => f_X11_years_34 N R n z0 z1 z2 z3 J) (nI m) (nI v) (nI i)
          refine ⟨L, ?_, Or.inl ⟨l2, by rw [l3]; exact k3, by rw [l4]; exact k4, zYf_trans g6 l5⟩⟩
          have l1 : f_X11_years_57 N R (fun z0 z1 z2 z3 J => f_X11_years_34 N R n z0 z1 z2 z3 J) N 0 (nI m) (nI v) (nI i) (nI 0) K = f_X11_years_34 N R n 0 (nI m) (nI v) (nI (i + 1)) L := by
            rw [zl_1, nI_add] at l1
            exact l1
          refine Eq.trans ?_ l1
          simp (disch := omega) only [f_X11_years_34, kd_0, kd_59, r0_10 hR, gn, k1, zl_0, nI_leI, gd_t, gd_pos, Option.bind_some, if_neg]
        · exact absurd h.1 hn) m 0 Y N (by omega) (by omega) (Or.inl ⟨y2, by rw [y4]; exact x0, y3, zYf_trans xf y5⟩)
  obtain ⟨⟨r, J⟩, l1, l2, l3⟩ := L
  have l2 : r = _ := l2
  subst l2
  refine ⟨J, Eq.trans ?_ l1, l3⟩
  simp (disch := omega) only [f_X11_years, kd_0, kd_59, r0_10 hR, hR.2.2.1, q_k0 hR, q_r5 hR, e3, e5, tb_l, ← hX, y1, zl_0, zl_2, zl_60, gd_t, gd_pos, lt_eq, Option.bind_some]
theorem m_backy (hN : 5000 ≤ N) (hR : sR R q) (h7 : nu ≤ 7) (hM : zMi S nu T na A ns sn st nt tp fp im J) (hr : zMRow nu T (J 103) 0) (hf : zfm zLy zFy J K) : ∃ L, f_X12_unpack N R 80 103 (nI 0) K = some ((), L) ∧ zMi S nu T na A ns sn st nt tp fp im L ∧ L 80 3 = J 80 3 ∧ ∀ k, k < 80 → L k = J k := by
  have hV := hM.2.1
  have e84 : K 84 = J 84 := hf.1 84 (by omega) (by decide)
  have e88 : K 88 = J 88 := hf.1 88 (by omega) (by decide)
  have e103 : K 103 = J 103 := hf.1 103 (by omega) (by decide)
  obtain ⟨L, l1, l2, l3, l4, l5⟩ := m_unpack (o := 0) (T := T) hN hR h7 (I := K) (by rw [e84]; exact hV.1) kd_103 (by omega) (by omega) (by omega) (by rw [e103]; exact hr) (fun p hp => by rw [e88]; exact (hV.2 p hp).2.2.2.2.2)
  have hg : zfm zLy zFy J L := zfm_trans hf (zfm_mono l5 (by decide) (by decide))
  exact ⟨L, l1, zMi_now hM hg (by decide) (by decide) l2 l3 l4, hg.2 3 (by decide), zfm_lo hg (by decide)⟩
theorem m_years (hN : 5000 ≤ N) (hR : sR R q) (hO : zOk S nu pr T na A ns sn nt tp im) (hM : zMi S nu T na A ns sn st nt tp fp im (zcd I 0)) (hdr : ∀ (I : Nat → Nat → Int32) (m : Nat), 1 ≤ m → m < 2 ^ 31 → f_X12_drawOf N R 80 (nI m) I = some (nI (dw (nx (I 80 49)) % m), sm_up I 80 (sm_up (I 80) 49 (nx (I 80 49))))) {m v : Nat} (hm : m ≤ 60) (hv : v ≤ 2) (x : Int32) : ∃ J, f_X12_years N R 80 x (nI m) (nI v) I = some (z_yv S nu T.2.2 (z_yr nx dw S nu T.2.1 (T.2.2, x) m).1 v, J) ∧ zMi S nu T na A ns sn st nt tp fp im J ∧ J 80 3 = nI 0 ∧ ∀ k, k < 80 → J k = I k := by
  obtain ⟨hso, h7, ⟨hT1, hT2, hT3, hT4⟩, hAk, hNk, hTp, hIm⟩ := id hO
  have ho : ∀ p, p < nu → z_pok S (T.2.2 p) := fun p hp => (hT4 p hp).1
  have f4 := m_isIn (N := N) (R := R) (I := zcd I 0) (nI v).toInt64 0 2
  rw [z64, zq_0, zq_2, nI_toInt (by omega), if_pos (by omega)] at f4
  have f6 := m_isIn (N := N) (R := R) (I := zcd I 0) (nI m).toInt64 0 60
  rw [z64, zq_0, zq_60, nI_toInt (by omega), if_pos (by omega)] at f6
  obtain ⟨X, x1, x2, x3, x4, x5⟩ := m_pk0 hN hR h7 hM
  obtain ⟨Y, hY⟩ : ∃ Y, Y = sm_up X 80 (sm_up (X 80) 49 x) := ⟨_, rfl⟩
  have yf0 : zfm [] [49] X Y := by rw [hY]; exact zfm_f (zfm_refl _ _ _) (by simp) _
  have yf : zfm zLy zFy X Y := zfm_mono yf0 (by decide) (by decide)
  have y49 : Y 80 49 = x := by rw [hY, up_s, up_s]
  have yV := zMV_fr x2.2.1 yf0 (by decide)
  have b0 := m_allBars (N := N) hN hR yV h7
  have po := z_yr_pok (nx := nx) (dw := dw) (pn := T.2.1) (a := (T.2.2, x)) ho
  have L := zm_loop (fun n i s => f_X12_years_64 N R n 80 (nI m) (nI v) (nI (zsm (fun p => T.2.2 p 3) nu)) (nI i) s) (fun i s => zMV nu (z_yr nx dw S nu T.2.1 (T.2.2, x) i).1 s ∧ (1 ≤ nu → s 80 49 = (z_yr nx dw S nu T.2.1 (T.2.2, x) i).2) ∧ s 80 32 = nI T.2.1 ∧ zfm zLy zFy X s) (fun y => y.1 = z_yv S nu T.2.2 (z_yr nx dw S nu T.2.1 (T.2.2, x) m).1 v ∧ zMi S nu T na A ns sn st nt tp fp im y.2 ∧ y.2 80 3 = X 80 3 ∧ ∀ k, k < 80 → y.2 k = X k) m
    (fun n s hs => by
      obtain ⟨g1, g2, g3, g4⟩ := hs
      obtain ⟨J, j1, j2⟩ := m_backy (N := N) hN hR h7 x2 x3 g4
      have hS2 := zMS_fr x2.1 g4 (by decide)
      refine ⟨(z_yv S nu T.2.2 (z_yr nx dw S nu T.2.1 (T.2.2, x) m).1 v, J), ?_, rfl, j2⟩
      have b1 := m_allBars (N := N) hN hR g1 h7
      have b3 := m_allDone (N := N) hN hR hso hS2 g1 h7 (po m)
      have b4 := m_allSkill (N := N) hN hR g1 h7
      have hl : z_ald S nu (z_yr nx dw S nu T.2.1 (T.2.2, x) m).1 < 2 ^ 31 := Nat.lt_of_lt_of_le (zbt_lt _ nu) (Nat.pow_le_pow_right (by omega) (by omega))
      have b5 := m_bitsOf (N := N) (R := R) (I := s) hN hl
      have b6 : z_pc 32 (z_ald S nu (z_yr nx dw S nu T.2.1 (T.2.2, x) m).1) = zcn (fun p => z_dn S ((z_yr nx dw S nu T.2.1 (T.2.2, x) m).1 p)) nu := z_pc_zbt _ nu (by omega)
      rw [b6] at b5
      have hv3 : v = 0 ∨ v = 1 ∨ v = 2 := by omega
      unfold z_yv
      rcases hv3 with rfl | rfl | rfl
      · rw [if_pos rfl]
        simp (disch := omega) only [f_X12_years_64, kd_80, r80_37 hR, kd_103, b1, j1, zl_0, nI_leI, nI_eq, gd_t, gd_pos, lt_eq, Option.bind_some, true_and, and_true, not_true, not_false_iff, false_or, or_false, if_true, if_false, if_pos, if_neg, zcd]
      · rw [if_neg (by omega), if_pos rfl]
        simp (disch := omega) only [f_X12_years_64, kd_80, r80_37 hR, kd_103, b3, b5, j1, zl_0, zl_1, nI_leI, nI_eq, gd_t, gd_pos, lt_eq, Option.bind_some, true_and, and_true, not_true, not_false_iff, false_or, or_false, if_true, if_false, if_pos, if_neg, zcd]
      · rw [if_neg (by omega), if_neg (by omega)]
        simp (disch := omega) only [f_X12_years_64, kd_80, r80_37 hR, kd_103, b4, j1, zl_0, zl_1, nI_leI, nI_eq, gd_t, gd_pos, lt_eq, Option.bind_some, true_and, and_true, not_true, not_false_iff, false_or, or_false, if_true, if_false, if_pos, if_neg, zcd])
    (fun n i s hi hs => by
      obtain ⟨g1, g2, g3, g4⟩ := hs
      have hS2 := zMS_fr x2.1 g4 (by decide)
      by_cases hn : nu = 0
      · have a1 := hdr s 5 (by omega) (by omega)
        obtain ⟨I1, hI1⟩ : ∃ J, J = sm_up s 80 (sm_up (s 80) 49 (nx (s 80 49))) := ⟨_, rfl⟩
        rw [← hI1] at a1
        have b1 : zfm [] [49] s I1 := by rw [hI1]; exact zfm_f (zfm_refl _ _ _) (by simp) _
        have gn : I1 84 1 = nI 0 := by
          have := g1.1
          rw [hn] at this
          rw [b1.1 84 (by omega) (by simp)]
          exact this
        have e1 := m_chz (N := N) hR gn (Nat.mod_lt _ (by omega)) a1
        obtain ⟨K, k1, k2, k3, k4⟩ := m_week hN hR hso h7 (zMS_fr hS2 b1 (by decide)) (zMV_fr g1 b1 (by decide)) (po i)
        refine ⟨K, ?_, ⟨k2.1, fun p hp => absurd hp (by omega)⟩, fun h => absurd h (by omega), by rw [k4.2 32 (by simp), b1.2 32 (by simp)]; exact g3, zfm_trans g4 (zfm_trans (zfm_mono b1 (by decide) (by decide)) (zfm_mono k4 (by decide) (by decide)))⟩
        simp (disch := omega) only [f_X12_years_64, kd_80, e1, k1, zl_1, nI_leI, nI_add, gd_t, gd_pos, Option.bind_some, if_neg]
      · obtain ⟨J, j1, j2, j3, j4⟩ := m_chance (N := N) (I := s) hN hR hso h7 (by omega) hS2 g1 (po i) g3 hT3 hdr (g2 (by omega))
        have k6 : ∀ p, p < nu → z_pok S (z_cw3 S nu T.2.1 (dw (nx (z_yr nx dw S nu T.2.1 (T.2.2, x) i).2) % 5) (dw (nx (nx (z_yr nx dw S nu T.2.1 (T.2.2, x) i).2)) % nu) (dw (nx (nx (nx (z_yr nx dw S nu T.2.1 (T.2.2, x) i).2))) % 30) (z_yr nx dw S nu T.2.1 (T.2.2, x) i).1 p) := z_cw3_pok (Nat.mod_lt _ (by omega)) (Nat.mod_lt _ (by omega)) (po i)
        obtain ⟨K, k1, k2, k3, k4⟩ := m_week hN hR hso h7 (zMS_fr hS2 j4 (by decide)) j2 k6
        refine ⟨K, ?_, k2, fun _ => by rw [k4.2 49 (by simp)]; exact j3, by rw [k4.2 32 (by simp), j4.2 32 (by simp)]; exact g3, zfm_trans g4 (zfm_trans (zfm_mono j4 (by decide) (by decide)) (zfm_mono k4 (by decide) (by decide)))⟩
        simp (disch := omega) only [f_X12_years_64, kd_80, j1, k1, zl_1, nI_leI, nI_add, gd_t, gd_pos, Option.bind_some, if_neg]) m 0 Y N (by omega) (by omega) ⟨yV, fun _ => y49, by rw [yf0.2 32 (by simp)]; exact x2.2.2.2.1, yf⟩
  obtain ⟨⟨r, J⟩, l1, l2, l3, l4, l5⟩ := L
  have l2 : r = _ := l2
  subst l2
  refine ⟨J, Eq.trans ?_ l1, l3, (l4.trans x4).trans (zcd_3 I 0), fun k hk => ((l5 k hk).trans (x5 k hk)).trans (zcd_lo I 0 k hk)⟩
  simp (disch := omega) only [f_X12_years, kd_80, r80_37 hR, kd_103, f4, f6, x1, ← hY, b0, zl_0, zl_1, zl_2, nI_eq, gd_t, gd_pos, lt_eq, Option.bind_some, if_neg, zcd]
end ZY
theorem zo_years_ok {N : Nat} (hN : 5000 ≤ N) : zo_years N zInv := by
  intro I R a1 a2 a3 hI
  obtain ⟨q, S, nu, pr, T, na, A, ns, sn, st, nt, tp, fp, im, hR, hO, hC, hM⟩ := hI
  have hR : sR R q := hR
  have hC : zCi q S nu T na A ns sn st nt tp fp im I := hC
  have hM : zMi S nu T na A ns sn st nt tp fp im I := hM
  obtain ⟨hso, h7, ⟨hT1, hT2, hT3, hT4⟩, hAk, hNk, hTp, hIm⟩ := id hO
  have h6 := hso.1
  have hpo : ∀ p, p < nu → z_pok S (T.2.2 p) := fun p hp => (hT4 p hp).1
  have haw : ∀ p, p < nu → T.2.2 p 4 < 2 ^ 30 := fun p hp => (hpo p hp).2.2.2.2.1
  obtain ⟨c1, c2, c3, c4, c5, c6, c7, c8, c9, c10⟩ := id hC
  have cS1 := c1.1
  have cV1 := c2.1
  have hq := hR.q
  have ht := q_t hR
  have hM0 := zcd_M hM 0
  obtain ⟨d1, d2, d3, d4, d5, d6, d7, d8, d9, d10⟩ := id hM0
  rcases zrg a3 0 2 with ⟨v, -, hv, rfl⟩ | hx
  · rcases zrg a2 0 60 with ⟨m, -, hm, rfl⟩ | hx
    · obtain ⟨J, j1, j2⟩ := c_years (N := N) (nx := z_nx) (dw := z_dw) hN hR hso h7 c1 c2 hpo c4 hT3 (fun I m h1 h2 => c_draw h1 h2) hm hv a1
      have hq9 := sR_q hR
      have jc : ∀ c, c ≠ 0 → c ∉ zYl q → J c = I c := j2.1
      have hCJ : zCi q S nu T na A ns sn st nt tp fp im J := zCi_eq h7 hC (fun c hc => jc c (by omega) (by
        unfold zYl
        simp only [List.mem_cons, List.not_mem_nil, or_false]
        omega)) ⟨j2.2 1 (by omega), j2.2 2 (by omega)⟩
      have hMJ : zMi S nu T na A ns sn st nt tp fp im (zcd J 0) := zcd_M (zMi_lo hM (fun k hk => jc k (by omega) (by
        unfold zYl
        simp only [List.mem_cons, List.not_mem_nil, or_false]
        omega))) 0
      obtain ⟨K, k1, k2, k3, k4⟩ := m_years (N := N) (nx := z_nx) (dw := z_dw) hN hR hO hMJ (fun I m h1 h2 => m_draw h1 h2) hm hv a1
      exact ⟨_, J, _, K, j1, k1, ag_ok _ _ _ k3, zInv_of hR hO hCJ k2 k4⟩
    · have e3 := c_what_in (N := N) (R := R) (I := I) (m := 2) (by omega) hv
      have e5 := c_betw_out (N := N) (R := R) (I := I) (a := 0) (m := 60) (by omega) (by omega) hx
      have f4 := m_isIn (N := N) (R := R) (I := zcd I 0) (nI v).toInt64 0 2
      rw [z64, zq_0, zq_2, nI_toInt (by omega), if_pos (by omega)] at f4
      have f6 := m_isIn (N := N) (R := R) (I := zcd I 0) a2.toInt64 0 60
      rw [z64, zq_0, zq_60, if_neg (by omega)] at f6
      refine ⟨_, I, 0, zcd I 2, ?_, ?_, ag_i2 _ (zcd_3 I 2), zInv_q hR hO hC (zfr_refl _ _) (zcd_M hM 2) (zcd_lo I 2)⟩
      · simp (disch := omega) only [f_X11_years, kd_0, zl_0, zl_2, zl_60, e3, e5, tb_l, tb_r, gd_t, gd_pos, lt_eq, Option.bind_some, true_and, and_true, not_true, not_false_iff, false_or, or_false, if_true, if_false, if_pos, if_neg, zcd]
      · simp (disch := omega) only [f_X12_years, kd_80, zl_0, zl_1, zl_2, f4, f6, m_fail, gd_t, gd_pos, lt_eq, Option.bind_some, true_and, and_true, not_true, not_false_iff, false_or, or_false, if_true, if_false, if_pos, if_neg, zcd, up_s, up_n, up_uu, nI_eq]
  · have e3 := c_what_out (N := N) (R := R) (I := I) (m := 2) (by omega) hx
    have f4 := m_isIn (N := N) (R := R) (I := zcd I 0) a3.toInt64 0 2
    rw [z64, zq_0, zq_2, if_neg (by omega)] at f4
    refine ⟨_, I, 0, zcd I 1, ?_, ?_, ag_n _ _ (zcd_3 I 1), zInv_q hR hO hC (zfr_refl _ _) (zcd_M hM 1) (zcd_lo I 1)⟩
    · simp (disch := omega) only [f_X11_years, kd_0, zl_2, e3, tb_r, gd_t, gd_pos, lt_eq, Option.bind_some, true_and, and_true, not_true, not_false_iff, false_or, or_false, if_true, if_false, if_pos, if_neg, zcd]
    · simp (disch := omega) only [f_X12_years, kd_80, zl_0, zl_1, zl_2, f4, m_fail, gd_t, gd_pos, lt_eq, Option.bind_some, true_and, and_true, not_true, not_false_iff, false_or, or_false, if_true, if_false, if_pos, if_neg, zcd, up_s, up_n, up_uu, nI_eq]
