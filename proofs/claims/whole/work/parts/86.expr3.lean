/-! ===== PURE PART: school: a part; the loops of the model ===== -/
theorem zn1_zno (o : Option Nat) : zn1 o = zno o := by
  cases o <;> rfl
def z_wv (tp : Nat → Nat) (P : zK) : Option Nat := if z_isw tp P 7 = true then some 0 else if z_isw tp P 8 = true then some 1 else if z_isw tp P 9 = true then some 2 else if z_isw tp P 10 = true then some 3 else if z_isw tp P 11 = true then some 4 else if z_isw tp P 12 = true then some 5 else none
theorem z_wv_fs (tp : Nat → Nat) (P : zK) : zfs (fun k => z_isw tp P (7 + k)) 6 0 = z_wv tp P := rfl
theorem z_wv_lt {tp : Nat → Nat} {P : zK} {v : Nat} (h : z_wv tp P = some v) : v < 6 := by
  rw [← z_wv_fs] at h
  have := zfs_some 6 0 v h
  omega
theorem z_tr_w {v : Nat} (h : v < 6) : z_tr (10000 + v) = -nI 1 - nI v := by
  have hc : v = 0 ∨ v = 1 ∨ v = 2 ∨ v = 3 ∨ v = 4 ∨ v = 5 := by omega
  rcases hc with rfl | rfl | rfl | rfl | rfl | rfl <;> decide
theorem z_tr0 : z_tr 20000 = -27 := by decide
theorem z_tr1 : z_tr 20001 = -26 := by decide
theorem z_tr5 : z_tr 20005 = -20 := by decide
theorem z_tr6 : z_tr 20006 = -21 := by decide
theorem z_tr7 : z_tr 20007 = -22 := by decide
theorem z_tr8 : z_tr 20008 = -23 := by decide
section ZR
variable {N : Nat} {R Rm : Nat → Nat → Nat} {q qm d n m h c D : Nat} {P : zK} {tp cd : Nat → Nat} {I K : Nat → Nat → Int32} {rp : Nat → Int32 → (Nat → Nat → Int32) → Option (Unit × (Nat → Nat → Int32))} {rl : Nat → Int32 → Int32 → (Nat → Nat → Int32) → Option (Unit × (Nat → Nat → Int32))} {rP rS rN rA rE rT : Nat → Int32 → (Nat → Nat → Int32) → Option (Unit × (Nat → Nat → Int32))}
theorem c_value (hN : 5000 ≤ N) (hR : sR R q) (hn : n ≤ 700) (htp : ∀ i, i < n → tp i < 256) (hT : zTk tp n P) (hC : zCT tp n P I) : f_X5_valueHere N R 1 I = some (zno (z_wv tp P), I) := by
  have w7 := c_isWord (N := N) hN hR hn htp hT hC (w := 7) (by omega) (by omega)
  have w8 := c_isWord (N := N) hN hR hn htp hT hC (w := 8) (by omega) (by omega)
  have w9 := c_isWord (N := N) hN hR hn htp hT hC (w := 9) (by omega) (by omega)
  have w10 := c_isWord (N := N) hN hR hn htp hT hC (w := 10) (by omega) (by omega)
  have w11 := c_isWord (N := N) hN hR hn htp hT hC (w := 11) (by omega) (by omega)
  have w12 := c_isWord (N := N) hN hR hn htp hT hC (w := 12) (by omega) (by omega)
  by_cases h7 : z_isw tp P 7 = true
  · rw [if_pos h7] at w7
    have e : z_wv tp P = some 0 := by unfold z_wv; rw [if_pos h7]
    rw [e]
    simp (disch := omega) only [f_X5_valueHere, kd_1, w7, zno, zl_0, zl_1, zl_2, zl_3, zl_4, zl_5, nI_eq, gd_t, gd_pos, Option.bind_some, if_true, if_neg]
  · rw [if_neg h7] at w7
    by_cases h8 : z_isw tp P 8 = true
    · rw [if_pos h8] at w8
      have e : z_wv tp P = some 1 := by unfold z_wv; rw [if_neg h7, if_pos h8]
      rw [e]
      simp (disch := omega) only [f_X5_valueHere, kd_1, w7, w8, zno, zl_0, zl_1, zl_2, zl_3, zl_4, zl_5, nI_eq, gd_t, gd_pos, Option.bind_some, if_true, if_neg]
    · rw [if_neg h8] at w8
      by_cases h9 : z_isw tp P 9 = true
      · rw [if_pos h9] at w9
        have e : z_wv tp P = some 2 := by unfold z_wv; rw [if_neg h7, if_neg h8, if_pos h9]
        rw [e]
        simp (disch := omega) only [f_X5_valueHere, kd_1, w7, w8, w9, zno, zl_0, zl_1, zl_2, zl_3, zl_4, zl_5, nI_eq, gd_t, gd_pos, Option.bind_some, if_true, if_neg]
      · rw [if_neg h9] at w9
        by_cases h10 : z_isw tp P 10 = true
        · rw [if_pos h10] at w10
          have e : z_wv tp P = some 3 := by unfold z_wv; rw [if_neg h7, if_neg h8, if_neg h9, if_pos h10]
          rw [e]
          simp (disch := omega) only [f_X5_valueHere, kd_1, w7, w8, w9, w10, zno, zl_0, zl_1, zl_2, zl_3, zl_4, zl_5, nI_eq, gd_t, gd_pos, Option.bind_some, if_true, if_neg]
        · rw [if_neg h10] at w10
          by_cases h11 : z_isw tp P 11 = true
          · rw [if_pos h11] at w11
            have e : z_wv tp P = some 4 := by unfold z_wv; rw [if_neg h7, if_neg h8, if_neg h9, if_neg h10, if_pos h11]
            rw [e]
            simp (disch := omega) only [f_X5_valueHere, kd_1, w7, w8, w9, w10, w11, zno, zl_0, zl_1, zl_2, zl_3, zl_4, zl_5, nI_eq, gd_t, gd_pos, Option.bind_some, if_true, if_neg]
          · rw [if_neg h11] at w11
            by_cases h12 : z_isw tp P 12 = true
            · rw [if_pos h12] at w12
              have e : z_wv tp P = some 5 := by unfold z_wv; rw [if_neg h7, if_neg h8, if_neg h9, if_neg h10, if_neg h11, if_pos h12]
              rw [e]
              simp (disch := omega) only [f_X5_valueHere, kd_1, w7, w8, w9, w10, w11, w12, zno, zl_0, zl_1, zl_2, zl_3, zl_4, zl_5, nI_eq, gd_t, gd_pos, Option.bind_some, if_true, if_neg]
            · rw [if_neg h12] at w12
              have e : z_wv tp P = none := by unfold z_wv; rw [if_neg h7, if_neg h8, if_neg h9, if_neg h10, if_neg h11, if_neg h12]
              rw [e]
              simp (disch := omega) only [f_X5_valueHere, kd_1, w7, w8, w9, w10, w11, w12, zno, zl_0, zl_1, gd_t, gd_pos, Option.bind_some, if_true]
theorem m_value (hN : 5000 ≤ N) (hR : sR R q) (hn : n ≤ 700) (htp : ∀ i, i < n → tp i < 256) (hT : zTk tp n P) (h : zMT tp n P K) : f_X12_which N R 80 83 K = some (zno (z_wv tp P), K) := by
  have e := m_which (N := N) hN hR hn htp hT h (a := 83) (l := 6) (w0 := 7) kd_83 (by omega) (by omega) (by omega) (fun k hk => by
    have hc : k = 0 ∨ k = 1 ∨ k = 2 ∨ k = 3 ∨ k = 4 ∨ k = 5 := by omega
    rcases hc with rfl | rfl | rfl | rfl | rfl | rfl
    · exact r83_0 hR
    · exact r83_1 hR
    · exact r83_2 hR
    · exact r83_3 hR
    · exact r83_4 hR
    · exact r83_5 hR)
  rw [zn1_zno, z_wv_fs] at e
  exact e
theorem r_part (hN : 5000 ≤ N) (hR : sR R q) (hRm : sR Rm qm) (hD : zDq R q d) (hq : qR R d) (hd : d = 3 ∨ d = 22) (hn : n ≤ 700) (htp : ∀ i, i < n → tp i < 256) (hDl : D < 6) (hh : h < 60) (HE : zTT d tp n h (h + 1) (fun I => rl 1 (nI 0) (nI (D + 1)) I) (fun K => rE 80 (nI (D + 1)) K)) : zTT d tp n h (h + 1) (fun I => f_X5_readPart N R rp rl 1 (nI D) I) (fun K => f_X12_readPart N Rm rP rS rN rA rE rT 80 (nI D) K) := by
  refine ⟨fun I K P m cd c hg hs => ?_, fun I K hb => ?_⟩
  · have hT := hg.2.2.1
    obtain ⟨t1, t2, t3, t4, t5⟩ := id hT
    have i3 : I 1 3 = nI P.1 := hg.1.2.1
    have k18 : K 80 18 = nI (z_tkc tp P) := hg.2.1.2.1
    have k22 : K 80 22 = nI 0 := hg.2.1.1.2.2.2
    have tk4 := z_tkc_le (tp := tp) (P := P)
    by_cases hk1 : P.1 = 1
    · have hk2 : z_tkc tp P = 2 := z_tkc_n.mpr hk1
      rw [hk1] at i3
      rw [hk2] at k18
      obtain ⟨x, J, L, a1, a2, a3, a4, a5⟩ := r_num (N := N) hN hR hRm hd hn htp hg (l := 0) (t := 9999) (by omega) (by omega)
      have key : ∀ J2 L2 : Nat → Nat → Int32, f_X6_add N R (d + 4) x J = some ((), J2) → f_X12_lay N Rm 80 x L = some ((), L2) → f_X5_readPart N R rp rl 1 (nI D) I = some ((), J2) ∧ f_X12_readPart N Rm rP rS rN rA rE rT 80 (nI D) K = some ((), L2) := fun J2 L2 h1 h2 => by
        constructor
        · simp (disch := omega) only [f_X5_readPart, kd_1, i3, hD.1, dk_0 hq, dr_4 hq, dk_4 hq, zl_0, zl_1, zl_9999, a1, h1, gd_t, gd_pos, Option.bind_some, if_true]
        · simp (disch := omega) only [f_X12_readPart, kd_80, k18, k22, zl_0, zl_2, zl_9999, a2, h2, gd_t, gd_pos, Option.bind_some, if_true]
      rcases a3 with ⟨v, P', g1, g2, rfl, g3, g4, -⟩ | ⟨rfl, hb⟩
      · have u3 := g3.2.2.1.2.2.1
        have u2 := g3.2.2.1.2.1
        obtain ⟨J2, L2, l1, l2, l3, l4, l5⟩ := r_lay (N := N) hR hRm hq hd g3 (by omega) (v := v) (z_ht_push (by omega) (by omega))
        rw [z_tr_num (by omega)] at l2
        obtain ⟨r1, r2⟩ := key J2 L2 l1 l2
        exact ⟨J2, L2, r1, r2, zCx_trans (zCx_y hd a4) l4, zMx_trans (zMx_y a5) l5, Or.inl ⟨P', m + 1, _, l3, by omega, by omega⟩⟩
      · obtain ⟨J2, l1, l2, l3⟩ := c_add_f (N := N) hq hd hb (nI 0)
        obtain ⟨r1, r2⟩ := key J2 L l1 (m_lay_f hb (nI 0))
        exact ⟨J2, L, r1, r2, zCx_trans (zCx_y hd a4) l3, zMx_y a5, Or.inr l2⟩
    · have hk1' : ¬ z_tkc tp P = 2 := fun h => hk1 (z_tkc_n.mp h)
      by_cases hk2 : P.1 = 2
      · have hk3 : z_tkc tp P = 1 := z_tkc_w.mpr hk2
        rw [hk2] at i3
        rw [hk3] at k18
        have e1 := c_value (N := N) hN hR hn htp hT hg.1
        have e2 := m_value (N := N) hN hRm hn htp hT hg.2.1
        rcases hv : z_wv tp P with _ | v
        · rw [hv] at e1 e2
          obtain ⟨J, L, s1, s2, s3, s4, s5, s6⟩ := r_stop (N := N) (R := R) (Rm := Rm) hn hd hg (e := 3) (by omega) (by omega)
          have lf := fun x => m_lay_f (N := N) (R := Rm) s3 x
          refine ⟨J, L, ?_, ?_, zCx_y hd s4, zMx_y s5, Or.inr s3⟩
          · simp (disch := omega) only [f_X5_readPart, kd_1, i3, e1, s1, zno, zl_1, zl_2, zl_3, nI_eq, gd_t, gd_pos, Option.bind_some, if_true, if_neg]
          · simp (disch := omega) only [f_X12_readPart, f_X12_readPart_56, kd_80, r80_2 hRm, k18, k22, e2, s2, s6, lf, zno, zl_0, zl_1, zl_2, zl_3, nI_eq, gd_t, gd_pos, Option.bind_some, if_true, if_neg]
        · rw [hv] at e1 e2
          have v6 := z_wv_lt hv
          obtain ⟨J, L, l1, l2, l3, l4, l5⟩ := r_lay (N := N) hR hRm hq hd hg (by omega) (v := 10000 + v) (z_ht_push (by omega) (by omega))
          rw [z_tr_w v6] at l2
          obtain ⟨J2, L2, a1, a2, a3, a4, a5, a6⟩ := r_adv (N := N) hN hR hRm hd hn htp l3
          have L22 : L 80 22 = nI 0 := l3.2.1.1.2.2.2
          refine ⟨J2, L2, ?_, ?_, zCx_trans l4 (zCx_y hd a5), zMx_trans l5 (zMx_y a6), Or.inl ⟨_, m + 1, _, a3, by omega, by omega⟩⟩
          · simp (disch := omega) only [f_X5_readPart, f_X5_readPart_53, kd_1, hD.1, dk_0 hq, dr_4 hq, dk_4 hq, i3, e1, zno, zl_1, zl_2, zl_10000, nI_add, l1, a1, nn_m1, nI_eq, gd_t, gd_pos, Option.bind_some, if_true, if_neg, if_false]
          · simp (disch := omega) only [f_X12_readPart, f_X12_readPart_56, kd_80, r80_2 hRm, k18, k22, L22, e2, zno, zl_0, zl_1, zl_2, l2, a2, nn_m1, nI_eq, gd_t, gd_pos, Option.bind_some, if_true, if_neg, if_false]
      · have hk2' : ¬ z_tkc tp P = 1 := fun h => hk2 (z_tkc_w.mp h)
        have e1 := c_isSign (N := N) (R := R) hT hn htp hg.1 (c := 40) (by omega)
        have e2 := m_isMarked (N := N) hRm hn htp hT hg.2.1 (c := 40) (by omega) (by decide)
        by_cases hs4 : z_sg tp P 40 = true
        · rw [if_pos hs4] at e1 e2
          have hs5 := z_sg_e hs4
          obtain ⟨J, L, a1, a2, a3, a4, a5, a6⟩ := r_adv (N := N) hN hR hRm hd hn htp hg
          obtain ⟨J2, L2, b1, b2, b3, b4, b5⟩ := HE.1 J L _ m cd c a3 (by omega)
          have b1 : rl 1 (nI 0) (nI (D + 1)) J = some ((), J2) := b1
          have b2 : rE 80 (nI (D + 1)) L = some ((), L2) := b2
          have f1 := zCx_trans (zCx_y hd a5) b3
          have f2 := zMx_trans (zMx_y a6) b4
          have key : ∀ J3 L3 : Nat → Nat → Int32, f_X5_skipSign N R 1 (nI 41) J2 = some ((), J3) → f_X12_mark N Rm 80 (nI 41) L2 = some ((), L3) → f_X5_readPart N R rp rl 1 (nI D) I = some ((), J3) ∧ f_X12_readPart N Rm rP rS rN rA rE rT 80 (nI D) K = some ((), L3) := fun J3 L3 h1 h2 => by
            have em : f_X12_mark N Rm 80 (nI 40) K = some ((), L) := by
              simp (disch := omega) only [f_X12_mark, f_X12_mark_20, kd_80, k22, e2, a2, zl_0, nI_eq, gd_t, gd_pos, Option.bind_some, if_true, if_neg]
            constructor
            · simp (disch := omega) only [f_X5_readPart, f_X5_readPart_53, kd_1, i3, e1, a1, b1, h1, zl_0, zl_1, zl_2, zl_40, zl_41, nI_add, nI_eq, gd_t, gd_pos, Option.bind_some, if_neg]
            · simp (disch := omega) only [f_X12_readPart, kd_80, k18, k22, em, b2, h2, zl_0, zl_1, zl_2, zl_40, zl_41, nI_add, nI_eq, gd_t, gd_pos, Option.bind_some, if_true, if_neg]
          rcases b5 with ⟨P', m', cd', g1, g2, g3⟩ | hb
          · obtain ⟨J3, L3, d1, d2, d3, d4, d5⟩ := r_skip (N := N) hN hR hRm hd hn htp g1 (c := 41) (by omega) (by decide)
            obtain ⟨r1, r2⟩ := key J3 L3 d1 d2
            refine ⟨J3, L3, r1, r2, zCx_trans f1 (zCx_y hd d4), zMx_trans f2 (zMx_y d5), ?_⟩
            rcases d3 with ⟨P2, g4, g5⟩ | hb
            · exact Or.inl ⟨P2, m', cd', g4, by omega, by omega⟩
            · exact Or.inr hb
          · obtain ⟨r1, r2⟩ := key J2 L2 (c_skip_f hb (nI 41)) (m_mark_f hb (nI 41))
            exact ⟨J2, L2, r1, r2, f1, f2, Or.inr hb⟩
        · rw [if_neg hs4] at e1 e2
          obtain ⟨J, L, s1, s2, s3, s4, s5, s6⟩ := r_stop (N := N) (R := R) (Rm := Rm) hn hd hg (e := 1) (by omega) (by omega)
          obtain ⟨-, x2⟩ := HE.2 J L s3
          have x2 : rE 80 (nI (D + 1)) L = some ((), L) := x2
          have em : f_X12_mark N Rm 80 (nI 40) K = some ((), L) := by
            simp (disch := omega) only [f_X12_mark, f_X12_mark_20, kd_80, k22, e2, s2, s6, zl_0, zl_1, nI_eq, gd_t, gd_pos, Option.bind_some, if_true, if_neg]
          have em2 := m_mark_f (N := N) (R := Rm) s3 (nI 41)
          refine ⟨J, L, ?_, ?_, zCx_y hd s4, zMx_y s5, Or.inr s3⟩
          · simp (disch := omega) only [f_X5_readPart, f_X5_readPart_53, kd_1, i3, e1, s1, zl_0, zl_1, zl_2, zl_40, nI_eq, gd_t, gd_pos, Option.bind_some, if_true, if_neg]
          · simp (disch := omega) only [f_X12_readPart, kd_80, k18, k22, em, x2, em2, zl_0, zl_1, zl_2, zl_40, zl_41, nI_add, nI_eq, gd_t, gd_pos, Option.bind_some, if_true, if_neg]
  · have b3 := zB_3 hb
    obtain ⟨e, e1, e2, e3⟩ := zB_22 hb
    have s1 := c_isSign_f (N := N) (R := R) b3 (nI 40)
    have s2 := c_stop_f (N := N) (R := R) hb (nI 1)
    constructor
    · simp (disch := omega) only [f_X5_readPart, f_X5_readPart_53, kd_1, b3, s1, s2, zl_0, zl_1, zl_2, zl_40, nI_eq, gd_t, gd_pos, Option.bind_some, if_true, if_neg]
    · simp (disch := omega) only [f_X12_readPart, kd_80, e3, zl_0, nI_eq, gd_t, gd_pos, if_neg]
/-- a start that can't be one: the class -/
def zBd (N : Nat) (R : Nat → Nat → Nat) (d : Nat) (tp : Nat → Nat) (n : Nat) (fc : (Nat → Nat → Int32) → Option (Unit × (Nat → Nat → Int32))) : Prop := ∀ I K P m cd h J L, zG d tp n P m cd h I K → P.1 ≠ 1 → P.1 ≠ 2 → ¬ z_sg tp P 40 = true → f_X5_stop N R 1 (nI 1) I = some ((), J) → zB d J L → fc I = some ((), J)
theorem b_part (hn : n ≤ 700) (htp : ∀ i, i < n → tp i < 256) : zBd N R d tp n (fun I => f_X5_readPart N R rp rl 1 (nI D) I) := by
  intro I K P m cd h J L hg h1 h2 h3 hs hb
  have i3 : I 1 3 = nI P.1 := hg.1.2.1
  have t1 := hg.2.2.1.1
  have e1 := c_isSign (N := N) (R := R) hg.2.2.1 hn htp hg.1 (c := 40) (by omega)
  rw [if_neg h3] at e1
  simp (disch := omega) only [f_X5_readPart, f_X5_readPart_53, kd_1, i3, e1, hs, zl_0, zl_1, zl_2, zl_40, nI_eq, gd_t, gd_pos, Option.bind_some, if_true, if_neg]
theorem b_lvl6 (hDl : D < 6) (hx : zBd N R d tp n (fun I => rp 1 (nI D) I)) : zBd N R d tp n (fun I => f_X5_readLevel N R rp rl 1 (nI 6) (nI D) I) := by
  intro I K P m cd h J L hg h1 h2 h3 hs hb
  have e1 : rp 1 (nI D) I = some ((), J) := hx I K P m cd h J L hg h1 h2 h3 hs hb
  simp (disch := omega) only [f_X5_readLevel, kd_1, e1, zl_6, nI_ltI, gd_t, gd_pos, Option.bind_some, if_pos, if_neg]
theorem b_lvl (hN : 5000 ≤ N) (hR : sR R q) (hn : n ≤ 700) (htp : ∀ i, i < n → tp i < 256) {L : Nat} (hL : L < 6) (hDl : D < 6) (hx : zBd N R d tp n (fun I => rl 1 (nI (L + 1)) (nI D) I)) : zBd N R d tp n (fun I => f_X5_readLevel N R rp rl 1 (nI L) (nI D) I) := by
  intro I K P m cd h J Z hg h1 h2 h3 hs hb
  have e1 : rl 1 (nI (L + 1)) (nI D) I = some ((), J) := hx I K P m cd h J Z hg h1 h2 h3 hs hb
  obtain ⟨N1, hN1⟩ : ∃ k, N = k + 1 := ⟨N - 1, by omega⟩
  have ho := c_oph_f (N := N) (R := R) (zB_3 hb) hL
  have x1 : ∀ M : Nat, M < 1000 → f_X5_readLevel_127 N R rp rl N 1 (nI L) (nI D) (nI M) (-nI 1) (nI 0) J = some ((), J) := fun M hM => by
    rw [show f_X5_readLevel_127 N R rp rl N = f_X5_readLevel_127 N R rp rl (N1 + 1) by rw [← hN1]]
    exact c_127_f (zB_3 hb) (by omega) (by omega)
  have x78 : f_X5_readLevel_78 N R rp rl N 1 (nI L) (nI D) (nI 0) (nI 0) J = some ((), J) := by
    rw [show f_X5_readLevel_78 N R rp rl N = f_X5_readLevel_78 N R rp rl (N1 + 1) by rw [← hN1]]
    by_cases h3 : L = 3
    · have y := x1 1 (by omega)
      rw [h3] at ho y ⊢
      refine Eq.trans ?_ y
      simp (disch := omega) only [f_X5_readLevel_78, kd_1, ho, zl_0, zl_1, zl_3, nI_leI, gd_t, gd_pos, Option.bind_some, if_pos, if_true]
    · refine Eq.trans ?_ (x1 700 (by omega))
      simp (disch := omega) only [f_X5_readLevel_78, kd_1, ho, zl_0, zl_3, zl_700, nI_leI, nI_eq, gd_t, gd_pos, Option.bind_some, if_pos, if_neg]
  refine Eq.trans ?_ x78
  by_cases h2' : L = 2
  · have w13 := c_isWord (N := N) hN hR hn htp hg.2.2.1 hg.1 (w := 13) (by omega) (by omega)
    rw [if_neg (fun hw => h2 (z_isw_e hw).1)] at w13
    have e0 : f_X5_skipNots_2 N R N 1 (nI 0) I = some (nI 0, I) := by
      rw [show f_X5_skipNots_2 N R N = f_X5_skipNots_2 N R (N1 + 1) by rw [← hN1]]
      simp (disch := omega) only [f_X5_skipNots_2, f_X5_skipNots_27, kd_1, w13, zl_0, zl_6, nI_leI, gd_t, gd_pos, Option.bind_some, if_neg, if_true]
    subst h2'
    simp (disch := omega) only [f_X5_readLevel, f_X5_readLevel_66, f_X5_skipNots, kd_1, zl_0, zl_1, zl_2, zl_6, e0, nI_add, e1, nI_ltI, gd_t, gd_pos, Option.bind_some, if_pos, if_true]
  · simp (disch := omega) only [f_X5_readLevel, f_X5_readLevel_66, kd_1, zl_0, zl_1, zl_2, zl_6, nI_add, e1, nI_ltI, nI_eq, gd_t, gd_pos, Option.bind_some, if_pos, if_neg]
/-- an expression at depth D, below 6 -/
theorem r_expr (hN : 5000 ≤ N) (hR : sR R q) (hRm : sR Rm qm) (hd : d = 3 ∨ d = 22) (hn : n ≤ 700) (htp : ∀ i, i < n → tp i < 256) (hDl : D < 6) (hx : zTT d tp n h (h + 1) (fun I => f_X5_readLevel N R rp rl 1 (nI 0) (nI D) I) (fun K => (rA 80 (nI D) K).bind fun p => f_X12_readExpression_67 N Rm rP rS rN rA rE rT N 80 (nI D) p.2)) (hb : zBd N R d tp n (fun I => f_X5_readLevel N R rp rl 1 (nI 0) (nI D) I)) : zTT d tp n h (h + 1) (fun I => f_X5_readLevel N R rp rl 1 (nI 0) (nI D) I) (fun K => f_X12_readExpression N Rm rP rS rN rA rE rT 80 (nI D) K) := by
  refine ⟨fun I K P m cd c hg hs => ?_, fun I K hb => ?_⟩
  · have hT := hg.2.2.1
    have t1 := hT.1
    have k18 : K 80 18 = nI (z_tkc tp P) := hg.2.1.2.1
    have k22 : K 80 22 = nI 0 := hg.2.1.1.2.2.2
    have tk4 := z_tkc_le (tp := tp) (P := P)
    have e2 := m_isMarked (N := N) hRm hn htp hT hg.2.1 (c := 40) (by omega) (by decide)
    by_cases hmay : P.1 = 1 ∨ P.1 = 2 ∨ z_sg tp P 40 = true
    · obtain ⟨J, L, a1, a2, a3, a4, a5⟩ := hx.1 I K P m cd c hg hs
      refine ⟨J, L, a1, Eq.trans ?_ a2, a3, a4, a5⟩
      have e38 : f_X12_readExpression_38 N Rm rP rS rN rA rE rT 80 (nI D) (nI 1) K = (rA 80 (nI D) K).bind fun p => f_X12_readExpression_67 N Rm rP rS rN rA rE rT N 80 (nI D) p.2 := by
        simp (disch := omega) only [f_X12_readExpression_38, kd_80, zl_0, zl_6, nI_eq, gd_t, gd_pos, if_neg]
      refine Eq.trans ?_ e38
      show f_X12_readExpression N Rm rP rS rN rA rE rT 80 (nI D) K = _
      by_cases hk1 : P.1 = 1
      · have := (z_tkc_n (tp := tp)).mpr hk1
        rw [this] at k18
        simp (disch := omega) only [f_X12_readExpression, kd_80, k18, k22, zl_0, zl_1, zl_2, gd_t, gd_pos, if_true]
      · have n1 : ¬ z_tkc tp P = 2 := fun h => hk1 (z_tkc_n.mp h)
        by_cases hk2 : P.1 = 2
        · have := (z_tkc_w (tp := tp)).mpr hk2
          rw [this] at k18
          simp (disch := omega) only [f_X12_readExpression, kd_80, k18, k22, zl_0, zl_1, zl_2, nI_eq, gd_t, gd_pos, if_true, if_neg]
        · have n2 : ¬ z_tkc tp P = 1 := fun h => hk2 (z_tkc_w.mp h)
          have hs4 : z_sg tp P 40 = true := by
            rcases hmay with h | h | h
            · exact absurd h hk1
            · exact absurd h hk2
            · exact h
          rw [if_pos hs4] at e2
          simp (disch := omega) only [f_X12_readExpression, kd_80, k18, k22, e2, zl_0, zl_1, zl_2, zl_40, nI_eq, gd_t, gd_pos, Option.bind_some, if_true, if_neg]
    · have hk1 : ¬ P.1 = 1 := fun h => hmay (Or.inl h)
      have hk2 : ¬ P.1 = 2 := fun h => hmay (Or.inr (Or.inl h))
      have hs4 : ¬ z_sg tp P 40 = true := fun h => hmay (Or.inr (Or.inr h))
      rw [if_neg hs4] at e2
      have n1 : ¬ z_tkc tp P = 2 := fun h => hk1 (z_tkc_n.mp h)
      have n2 : ¬ z_tkc tp P = 1 := fun h => hk2 (z_tkc_w.mp h)
      obtain ⟨J, L, s1, s2, s3, s4, s5, s6⟩ := r_stop (N := N) (R := R) (Rm := Rm) hn hd hg (e := 1) (by omega) (by omega)
      obtain ⟨-, x2⟩ := hx.2 J L s3
      refine ⟨J, L, hb I K P m cd h J L hg hk1 hk2 hs4 s1 s3, Eq.trans ?_ x2, zCx_y hd s4, zMx_y s5, Or.inr s3⟩
      simp (disch := omega) only [f_X12_readExpression, f_X12_readExpression_38, kd_80, k18, k22, e2, s2, zl_0, zl_1, zl_2, zl_40, nI_eq, gd_t, gd_pos, Option.bind_some, if_true, if_neg]
  · obtain ⟨x1, x2⟩ := hx.2 I K hb
    obtain ⟨e, e1, e2, e3⟩ := zB_22 hb
    refine ⟨x1, ?_⟩
    simp (disch := omega) only [f_X12_readExpression, kd_80, e3, zl_0, nI_eq, gd_t, gd_pos, if_neg]
/-- an expression within 6 others -/
theorem r_expr6 (hN : 5000 ≤ N) (hR : sR R q) (hRm : sR Rm qm) (hd : d = 3 ∨ d = 22) (hn : n ≤ 700) (htp : ∀ i, i < n → tp i < 256) (hA : ∀ I K, zB d I K → (rA 80 (nI 6) K).bind (fun p => f_X12_readExpression_67 N Rm rP rS rN rA rE rT N 80 (nI 6) p.2) = some ((), K)) (k : Nat) : zTT d tp n h k (fun I => f_X5_readLevel N R rp rl 1 (nI 0) (nI 6) I) (fun K => f_X12_readExpression N Rm rP rS rN rA rE rT 80 (nI 6) K) := by
  refine ⟨fun I K P m cd c hg hs => ?_, fun I K hb => ?_⟩
  · have hT := hg.2.2.1
    have t1 := hT.1
    have i3 : I 1 3 = nI P.1 := hg.1.2.1
    have k18 : K 80 18 = nI (z_tkc tp P) := hg.2.1.2.1
    have k22 : K 80 22 = nI 0 := hg.2.1.1.2.2.2
    have tk4 := z_tkc_le (tp := tp) (P := P)
    have e1 := c_isSign (N := N) (R := R) hT hn htp hg.1 (c := 40) (by omega)
    have e2 := m_isMarked (N := N) hRm hn htp hT hg.2.1 (c := 40) (by omega) (by decide)
    by_cases hmay : P.1 = 1 ∨ P.1 = 2 ∨ z_sg tp P 40 = true
    · obtain ⟨J, L, s1, s2, s3, s4, s5, s6⟩ := r_stop (N := N) (R := R) (Rm := Rm) hn hd hg (e := 2) (by omega) (by omega)
      have x2 := hA J L s3
      have e38 : f_X12_readExpression_38 N Rm rP rS rN rA rE rT 80 (nI 6) (nI 1) K = some ((), L) := by
        refine Eq.trans ?_ x2
        simp (disch := omega) only [f_X12_readExpression_38, kd_80, s2, zl_0, zl_2, zl_6, nI_eq, gd_t, gd_pos, Option.bind_some, if_true, if_neg]
      refine ⟨J, L, ?_, Eq.trans ?_ e38, zCx_y hd s4, zMx_y s5, Or.inr s3⟩
      · by_cases hk1 : P.1 = 1
        · rw [hk1] at i3
          simp (disch := omega) only [f_X5_readLevel, kd_1, i3, s1, zl_1, zl_2, zl_6, nI_ltI, gd_t, gd_pos, Option.bind_some, if_true, if_neg]
        · by_cases hk2 : P.1 = 2
          · rw [hk2] at i3
            simp (disch := omega) only [f_X5_readLevel, kd_1, i3, s1, zl_1, zl_2, zl_6, nI_ltI, nI_eq, gd_t, gd_pos, Option.bind_some, if_true, if_neg]
          · have hs4 : z_sg tp P 40 = true := by
              rcases hmay with h | h | h
              · exact absurd h hk1
              · exact absurd h hk2
              · exact h
            rw [if_pos hs4] at e1
            simp (disch := omega) only [f_X5_readLevel, kd_1, i3, e1, s1, zl_0, zl_1, zl_2, zl_6, zl_40, nI_ltI, nI_eq, gd_t, gd_pos, Option.bind_some, if_neg]
      · show f_X12_readExpression N Rm rP rS rN rA rE rT 80 (nI 6) K = _
        by_cases hk1 : P.1 = 1
        · have := (z_tkc_n (tp := tp)).mpr hk1
          rw [this] at k18
          simp (disch := omega) only [f_X12_readExpression, kd_80, k18, k22, zl_0, zl_1, zl_2, gd_t, gd_pos, if_true]
        · have n1 : ¬ z_tkc tp P = 2 := fun h => hk1 (z_tkc_n.mp h)
          by_cases hk2 : P.1 = 2
          · have := (z_tkc_w (tp := tp)).mpr hk2
            rw [this] at k18
            simp (disch := omega) only [f_X12_readExpression, kd_80, k18, k22, zl_0, zl_1, zl_2, nI_eq, gd_t, gd_pos, if_true, if_neg]
          · have n2 : ¬ z_tkc tp P = 1 := fun h => hk2 (z_tkc_w.mp h)
            have hs4 : z_sg tp P 40 = true := by
              rcases hmay with h | h | h
              · exact absurd h hk1
              · exact absurd h hk2
              · exact h
            rw [if_pos hs4] at e2
            simp (disch := omega) only [f_X12_readExpression, kd_80, k18, k22, e2, zl_0, zl_1, zl_2, zl_40, nI_eq, gd_t, gd_pos, Option.bind_some, if_true, if_neg]
    · have hk1 : ¬ P.1 = 1 := fun h => hmay (Or.inl h)
      have hk2 : ¬ P.1 = 2 := fun h => hmay (Or.inr (Or.inl h))
      have hs4 : ¬ z_sg tp P 40 = true := fun h => hmay (Or.inr (Or.inr h))
      rw [if_neg hs4] at e1 e2
      have n1 : ¬ z_tkc tp P = 2 := fun h => hk1 (z_tkc_n.mp h)
      have n2 : ¬ z_tkc tp P = 1 := fun h => hk2 (z_tkc_w.mp h)
      obtain ⟨J, L, s1, s2, s3, s4, s5, s6⟩ := r_stop (N := N) (R := R) (Rm := Rm) hn hd hg (e := 1) (by omega) (by omega)
      have x2 := hA J L s3
      refine ⟨J, L, ?_, Eq.trans ?_ x2, zCx_y hd s4, zMx_y s5, Or.inr s3⟩
      · simp (disch := omega) only [f_X5_readLevel, kd_1, i3, e1, s1, zl_0, zl_1, zl_2, zl_6, zl_40, nI_ltI, nI_eq, gd_t, gd_pos, Option.bind_some, if_true, if_neg]
      · simp (disch := omega) only [f_X12_readExpression, f_X12_readExpression_38, kd_80, k18, k22, e2, s2, zl_0, zl_1, zl_2, zl_40, nI_eq, gd_t, gd_pos, Option.bind_some, if_true, if_neg]
  · have b3 := zB_3 hb
    obtain ⟨e, e1, e2, e3⟩ := zB_22 hb
    have s1 := c_isSign_f (N := N) (R := R) b3 (nI 40)
    have s2 := c_stop_f (N := N) (R := R) hb (nI 1)
    constructor
    · simp (disch := omega) only [f_X5_readLevel, kd_1, b3, s1, s2, zl_0, zl_1, zl_2, zl_6, zl_40, nI_ltI, nI_eq, gd_t, gd_pos, Option.bind_some, if_true, if_neg]
    · simp (disch := omega) only [f_X12_readExpression, kd_80, e3, zl_0, nI_eq, gd_t, gd_pos, if_neg]
end ZR
