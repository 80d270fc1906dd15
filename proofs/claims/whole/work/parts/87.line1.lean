/-! ===== PURE PART: school: lines: a piece ===== -/
/-- what is told so far: pieces, pupils, pianos, whether pianos, whether learns -/
abbrev zX9 : Type := (Nat × (Nat → Nat) × (Nat → Nat) × (Nat → Nat → Nat)) × (Nat × (Nat → zP)) × Nat × Nat × Nat
def x_np (X : zX9) : Nat := X.1.1
def x_bn (X : zX9) : Nat → Nat := X.1.2.1
def x_st (X : zX9) : Nat → Nat := X.1.2.2.1
def x_hd (X : zX9) : Nat → Nat → Nat := X.1.2.2.2
def x_nu (X : zX9) : Nat := X.2.1.1
def x_V (X : zX9) : Nat → zP := X.2.1.2
def x_pn (X : zX9) : Nat := X.2.2.1
def x_pt (X : zX9) : Nat := X.2.2.2.1
def x_lt (X : zX9) : Nat := X.2.2.2.2
def zDC (d : Nat) (X : zX9) (I : Nat → Nat → Int32) : Prop := (I d 3 = nI (x_np X) ∧ ∀ w, w < x_np X → I (d + 1) w = nI (x_bn X w) ∧ I (d + 2) w = nI (x_st X w) ∧ ∀ i, i < x_bn X w → I (d + 3) (8 * w + i) = nI (x_hd X w i)) ∧ zCV (x_nu X) (x_V X) (d + 7) I ∧ I (d + 7) 2 = nI 0 ∧ I (d + 7) 3 = nI (x_pn X) ∧ I (d + 4) 2 = nI (x_lt X) ∧ I 1 10 = nI (x_pt X)
def zDM (X : zX9) (K : Nat → Nat → Int32) : Prop := (K 84 4 = nI (x_np X) ∧ K 84 5 = nI (x_nu X) ∧ K 84 6 = nI (x_pn X)) ∧ (∀ w, w < x_np X → K 85 (6 + w) = nI (x_st X w) ∧ K 86 (6 + w) = nI (x_bn X w) ∧ ∀ i, i < x_bn X w → K 87 (8 * (6 + w) + i) = nI (x_hd X w i)) ∧ ∀ p, p < x_nu X → K 88 (7 + p) = nI (x_V X p 5) ∧ K 89 (7 + p) = nI (x_V X p 0) ∧ K 90 (7 + p) = nI (x_V X p 1) ∧ K 91 (7 + p) = nI (x_V X p 2)
def zDO (X : zX9) : Prop := (x_np X ≤ 6 ∧ ∀ w, w < x_np X → 1 ≤ x_bn X w ∧ x_bn X w ≤ 8 ∧ x_st X w ≤ 1 ∧ ∀ i, i < x_bn X w → 1 ≤ x_hd X w i ∧ x_hd X w i ≤ 99) ∧ (x_nu X ≤ 7 ∧ ∀ p, p < x_nu X → x_V X p 0 ≤ 99 ∧ x_V X p 1 ≤ 9 ∧ x_V X p 2 < x_np X ∧ x_V X p 3 = 0 ∧ x_V X p 4 = 0 ∧ x_V X p 5 ≤ 1) ∧ 1 ≤ x_pn X ∧ x_pn X ≤ 4 ∧ x_pt X ≤ 1 ∧ x_lt X ≤ 1
/-! frames of a whole line -/
def zDls (d : Nat) : List Nat := [1, d, d + 1, d + 2, d + 3, d + 4, d + 5, d + 7, d + 9, d + 10, d + 11, d + 12, d + 13, d + 14, d + 15]
def zMg (K L : Nat → Nat → Int32) : Prop := zfm [84, 85, 86, 87, 88, 89, 90, 91, 92] zMxf K L ∧ (∀ j, j < 4 → L 84 j = K 84 j) ∧ (∀ j, j < 6 → L 85 j = K 85 j) ∧ (∀ j, j < 6 → L 86 j = K 86 j) ∧ (∀ j, j < 48 → L 87 j = K 87 j) ∧ (∀ j, j < 7 → L 88 j = K 88 j) ∧ ∀ j, j < 700 → L 92 j = K 92 j
theorem zMg_refl (K : Nat → Nat → Int32) : zMg K K := ⟨zfm_refl _ _ _, fun _ _ => rfl, fun _ _ => rfl, fun _ _ => rfl, fun _ _ => rfl, fun _ _ => rfl, fun _ _ => rfl⟩
theorem zMg_trans {K L M : Nat → Nat → Int32} (h : zMg K L) (g : zMg L M) : zMg K M := ⟨zfm_trans h.1 g.1, fun j hj => (g.2.1 j hj).trans (h.2.1 j hj), fun j hj => (g.2.2.1 j hj).trans (h.2.2.1 j hj), fun j hj => (g.2.2.2.1 j hj).trans (h.2.2.2.1 j hj), fun j hj => (g.2.2.2.2.1 j hj).trans (h.2.2.2.2.1 j hj), fun j hj => (g.2.2.2.2.2.1 j hj).trans (h.2.2.2.2.2.1 j hj), fun j hj => (g.2.2.2.2.2.2 j hj).trans (h.2.2.2.2.2.2 j hj)⟩
theorem zMg_y {K L : Nat → Nat → Int32} (h : zfm [] zMxf K L) : zMg K L := by
  have g : ∀ c, c ≠ 80 → L c = K c := fun c hc => h.1 c hc (by simp)
  refine ⟨zfm_mono h (by simp) (fun _ h => h), ?_, ?_, ?_, ?_, ?_, ?_⟩ <;> intro j _ <;> rw [g _ (by omega)]
theorem zMg_x {K L : Nat → Nat → Int32} (h : zMx K L) : zMg K L := by
  have g : ∀ c, c ≠ 80 → c ≠ 84 → c ≠ 92 → L c = K c := fun c hc h1 h2 => h.1.1 c hc (by simp; omega)
  refine ⟨zfm_mono h.1 (by simp) (fun _ h => h), fun j hj => h.2.1 j (by omega), ?_, ?_, ?_, ?_, h.2.2⟩ <;> intro j _ <;> rw [g _ (by omega) (by omega) (by omega)]
theorem zCl_y {d : Nat} {I J : Nat → Nat → Int32} (h : zCy I J) : zfr (zDls d) I J := fun c hc => h.1 c (fun e => hc (by rw [e]; unfold zDls; simp))
theorem zCl_x {d : Nat} {I J : Nat → Nat → Int32} (h : zCx d I J) : zfr (zDls d) I J := zfr_mono h.1 (fun x hx => by
  unfold zDls
  simp only [List.mem_cons, List.not_mem_nil, or_false] at hx ⊢
  omega)
section ZR
variable {N : Nat} {R Rm : Nat → Nat → Nat} {q qm d n m h : Nat} {P : zK} {tp cd : Nat → Nat} {I J K L : Nat → Nat → Int32} {X : zX9}
theorem zDC_y (hd : d = 3 ∨ d = 22) (hx : zDC d X I) (h7 : x_nu X ≤ 7) (h : zCy I J) : zDC d X J := by
  have g : ∀ c, c ≠ 1 → J c = I c := h.1
  obtain ⟨a, b, c, e, f, k⟩ := hx
  refine ⟨?_, zCV_fr b h7 (fun c hc => g c (by omega)), ?_, ?_, ?_, ?_⟩
  · rw [g d (by omega), g (d + 1) (by omega), g (d + 2) (by omega), g (d + 3) (by omega)]
    exact a
  · rw [g (d + 7) (by omega)]
    exact c
  · rw [g (d + 7) (by omega)]
    exact e
  · rw [g (d + 4) (by omega)]
    exact f
  · rw [h.2.1]
    exact k
theorem zDM_y (hx : zDM X K) (h : zfm [] zMxf K L) : zDM X L := by
  have g : ∀ c, c ≠ 80 → L c = K c := fun c hc => h.1 c hc (by simp)
  unfold zDM at hx ⊢
  rw [g 84 (by omega), g 85 (by omega), g 86 (by omega), g 87 (by omega), g 88 (by omega), g 89 (by omega), g 90 (by omega), g 91 (by omega)]
  exact hx
theorem zG_c (hg : zG d tp n P m cd h I K) (h40 : J 1 = I 1) (h1 : J 2 = I 2) (h4 : J (d + 4) = I (d + 4)) (h5 : J (d + 5) = I (d + 5)) : zG d tp n P m cd h J K := by
  unfold zG zCT zCT0 at hg ⊢
  rw [h40, h1, h4, h5]
  exact hg
theorem zG_m (hg : zG d tp n P m cd h I K) (h80 : L 80 = K 80) (h94 : L 94 = K 94) (h7 : L 84 7 = K 84 7) (h92 : L 92 = K 92) : zG d tp n P m cd h I L := by
  unfold zG zMT zMT0 at hg ⊢
  rw [h80, h94, h7, h92]
  exact hg
theorem zB_c (hb : zB d I K) (h40 : J 1 = I 1) (h4 : J (d + 4) = I (d + 4)) : zB d J K := by
  unfold zB at hb ⊢
  rw [h40, h4]
  exact hb
theorem zB_m (hb : zB d I K) (h80 : L 80 = K 80) : zB d I L := by
  unfold zB at hb ⊢
  rw [h80]
  exact hb
/-- the bars of the piece that is being told -/
def zPc (d np t k : Nat) (hv : Nat → Nat) (I K : Nat → Nat → Int32) : Prop := I (d + 1) np = nI t ∧ I (d + 2) np = nI k ∧ ∀ i, i < t → I (d + 3) (8 * np + i) = nI (hv i) ∧ K 87 (8 * (6 + np) + i) = nI (hv i) ∧ 1 ≤ hv i ∧ hv i ≤ 99
theorem c_bar (hD : zDq R q d) (hq : qR R d) (hd : d = 3 ∨ d = 22) {x : Int32} {I1 : Nat → Nat → Int32} (a1 : f_X5_readNumber N R 1 (nI 1) (nI 99) I = some (x, I1)) (a4 : zCy I I1) {np t : Nat} (hnp : np < 6) (ht : t < 8) (p1 : I (d + 1) np = nI t) : f_X5_readBar N R 1 (nI np) I = some ((), sm_up (sm_up I1 (d + 3) (sm_up (I1 (d + 3)) (8 * np + t) x)) (d + 1) (sm_up (I1 (d + 1)) np (nI (t + 1)))) := by
  have q1 : I1 (d + 1) np = nI t := by rw [a4.1 _ (by omega)]; exact p1
  have e30 : f_X5_readBar_30 N R 1 (nI np) (nI t) I = some ((), sm_up (sm_up I1 (d + 3) (sm_up (I1 (d + 3)) (8 * np + t) x)) (d + 1) (sm_up (I1 (d + 1)) np (nI (t + 1)))) := by
    have e8 : np * 8 + t = 8 * np + t := by omega
    simp (disch := omega) only [f_X5_readBar_30, kd_1, hD.1, dk_0 hq, dr_0 hq, dr_2 hq, dk_1 hq, dk_3 hq, zl_0, zl_1, zl_8, zl_99, a1, q1, pk_mul, nI_add, nI_leI, nI_ltI, nI_clamp, e8, up_s, up_n, gd_t, gd_pos, lt_eq, Option.bind_some, true_and, and_true, not_true, not_false_iff, false_or, or_false, if_true, if_false, if_pos, if_neg]
  refine Eq.trans ?_ e30
  by_cases hk : I 1 3 = nI 1
  · simp (disch := omega) only [f_X5_readBar, kd_1, hD.1, dk_0 hq, dr_0 hq, dk_1 hq, hk, p1, zl_0, zl_1, zl_8, nI_leI, nI_ltI, nI_clamp, gd_t, gd_pos, lt_eq, Option.bind_some, true_and, and_true, not_true, not_false_iff, false_or, or_false, if_true, if_false, if_pos, if_neg]
  · simp (disch := omega) only [f_X5_readBar, kd_1, hD.1, dk_0 hq, dr_0 hq, dk_1 hq, hk, p1, zl_0, zl_1, zl_8, nI_leI, nI_ltI, nI_clamp, gd_t, gd_pos, lt_eq, Option.bind_some, true_and, and_true, not_true, not_false_iff, false_or, or_false, if_true, if_false, if_pos, if_neg]
/-- a bar -/
theorem r_bar (hN : 5000 ≤ N) (hR : sR R q) (hRm : sR Rm qm) (hD : zDq R q d) (hn : n ≤ 700) (htp : ∀ i, i < n → tp i < 256) (hg : zG d tp n P m cd h I K) (hX : zDC d X I) (hY : zDM X K) (hO : zDO X) (h6 : x_np X < 6) {t k : Nat} {hv : Nat → Nat} (hp : zPc d (x_np X) t k hv I K) (ht : t < 8) : ∃ x J L, f_X5_readBar N R 1 (nI (x_np X)) I = some ((), J) ∧ f_X12_readNumber N Rm 80 (nI 1) (nI 99) K = some (x, L) ∧ zfr (zDls d) I J ∧ J d = I d ∧ zfm [] zMxf K L ∧ ((∃ v P', x = nI v ∧ zG d tp n P' m cd h J L ∧ P.2.1 < P'.2.1 ∧ zDC d X J ∧ zPc d (x_np X) (t + 1) k (sm_up hv t v) J (sm_up L 87 (sm_up (L 87) (8 * (6 + x_np X) + t) (nI v)))) ∨ zB d J L) := by
  have hq := dq_q hR hD
  have hd := dq_d hR hD
  obtain ⟨p1, p2, p3⟩ := id hp
  obtain ⟨x, I1, L, a1, a2, a3, a4, a5⟩ := r_num (N := N) hN hR hRm hd hn htp hg (l := 1) (t := 99) (by omega) (by omega)
  have g : ∀ c, c ≠ 1 → I1 c = I c := a4.1
  have q1 : I1 (d + 1) (x_np X) = nI t := by rw [g _ (by omega)]; exact p1
  obtain ⟨J, hJ⟩ : ∃ J, J = sm_up (sm_up I1 (d + 3) (sm_up (I1 (d + 3)) (8 * x_np X + t) x)) (d + 1) (sm_up (I1 (d + 1)) (x_np X) (nI (t + 1))) := ⟨_, rfl⟩
  have gJ : ∀ c, c ≠ d + 1 → c ≠ d + 3 → J c = I1 c := fun c h1 h2 => by rw [hJ, up_n _ _ h1, up_n _ _ h2]
  have ej : f_X5_readBar N R 1 (nI (x_np X)) I = some ((), J) := by
    rw [hJ]
    exact c_bar hD hq hd a1 a4 h6 ht p1
  have fJ : zfr (zDls d) I J := by
    rw [hJ]
    exact zfr_up (zfr_up (zCl_y a4) (by unfold zDls; simp) _) (by unfold zDls; simp) _
  refine ⟨x, J, L, ej, a2, fJ, by rw [gJ d (by omega) (by omega)]; exact g d (by omega), a5, ?_⟩
  rcases a3 with ⟨v, P', v1, v2, rfl, g1, g2, -⟩ | ⟨rfl, hb⟩
  · refine Or.inl ⟨v, P', rfl, zG_c g1 (gJ 1 (by omega) (by omega)) (gJ 2 (by omega) (by omega)) (gJ (d + 4) (by omega) (by omega)) (gJ (d + 5) (by omega) (by omega)), g2, ?_, ?_, ?_, ?_⟩
    · obtain ⟨⟨b0, b1⟩, b2, b3, b4, b5, b6⟩ := zDC_y hd hX hO.2.1.1 a4
      refine ⟨⟨by rw [gJ d (by omega) (by omega)]; exact b0, fun w hw => ?_⟩, zCV_fr b2 hO.2.1.1 (fun c hc => gJ c (by omega) (by omega)), by rw [gJ _ (by omega) (by omega)]; exact b3, by rw [gJ _ (by omega) (by omega)]; exact b4, by rw [gJ _ (by omega) (by omega)]; exact b5, by rw [gJ _ (by omega) (by omega)]; exact b6⟩
      obtain ⟨c1, c2, c3⟩ := b1 w hw
      have w8 := (hO.1.2 w hw).2.1
      refine ⟨by rw [hJ, up_s, up_n _ _ (by omega)]; exact c1, by rw [gJ _ (by omega) (by omega)]; exact c2, fun i hi => ?_⟩
      rw [hJ, up_n _ _ (by omega), up_s, up_n _ _ (by omega)]
      exact c3 i hi
    · rw [hJ, up_s, up_s]
    · rw [gJ _ (by omega) (by omega), g _ (by omega)]
      exact p2
    · intro i hi
      by_cases e : i = t
      · rw [e, hJ, up_n _ _ (by omega), up_s, up_s, up_s, up_s, up_s]
        exact ⟨rfl, rfl, v1, v2⟩
      · obtain ⟨c1, c2, c3⟩ := p3 i (by omega)
        refine ⟨?_, ?_, ?_⟩
        · rw [hJ, up_n _ _ (by omega), up_s, up_n _ _ (by omega), up_n _ _ e, g _ (by omega)]
          exact c1
        · rw [up_s, up_n _ _ (by omega), up_n _ _ e, a5.1 87 (by omega) (by simp)]
          exact c2
        · rw [up_n _ _ e]
          exact c3
  · exact Or.inr (zB_c hb (gJ 1 (by omega) (by omega)) (gJ (d + 4) (by omega) (by omega)))
/-- the last steps of a piece -/
theorem c_pend (hD : zDq R q d) (hq : qR R d) {i : Nat} (hi : i ≤ 9) (hk : 8 < i ∨ ¬ I 1 3 = nI 1) {np : Nat} (hnp : I d 3 = nI np) (k : Nat) (a : Int32) : f_X5_readPiece_64 N R (k + 1) 1 a (nI i) I = some ((), sm_up I d (sm_up (I d) 3 (nI (np + 1)))) := by
  by_cases h8 : 8 < i
  · simp (disch := omega) only [f_X5_readPiece_64, kd_1, hD.1, dk_0 hq, hnp, zl_1, zl_8, nI_ltI, nI_add, gd_t, gd_pos, lt_eq, if_pos]
  · have hk : ¬ I 1 3 = nI 1 := by
      rcases hk with h | h
      · exact absurd h h8
      · exact h
    simp (disch := omega) only [f_X5_readPiece_64, kd_1, hD.1, dk_0 hq, hnp, zl_1, zl_8, hk, nI_ltI, nI_add, gd_t, gd_pos, lt_eq, if_neg, if_false]
theorem m_pend (hR : sR R q) {np k t : Nat} (hnp : np < 6) (hk : k ≤ 1) (ht : t ≤ 8) (h4 : K 84 4 = nI np) : f_X12_sayPiece_100 N R 80 (nI k) (nI (6 + np)) (nI t) K = some ((), sm_up (sm_up (sm_up K 85 (sm_up (K 85) (6 + np) (nI k))) 86 (sm_up (K 86) (6 + np) (nI t))) 84 (sm_up (K 84) 4 (nI (np + 1)))) := by
  simp (disch := omega) only [f_X12_sayPiece_100, kd_80, r80_4 hR, kd_84, r80_5 hR, kd_85, r80_6 hR, kd_86, h4, zl_0, zl_1, zl_4, nI_leI, nI_ltI, nI_add, nI_clamp, up_s, up_n, gd_t, gd_pos, lt_eq, Option.bind_some, true_and, and_true, not_true, not_false_iff, false_or, or_false, if_true, if_false, if_pos, if_neg]
def x_piece (X : zX9) (t k : Nat) (hv : Nat → Nat) : zX9 := ((x_np X + 1, sm_up (x_bn X) (x_np X) t, sm_up (x_st X) (x_np X) k, sm_up (x_hd X) (x_np X) hv), X.2)
/-- a piece is told -/
theorem r_pfin (hR : sR R q) (hRm : sR Rm qm) (hD : zDq R q d) (hg : zG d tp n P m cd h I K) (hX : zDC d X I) (hY : zDM X K) (hO : zDO X) (h6 : x_np X < 6) {t k : Nat} {hv : Nat → Nat} (hp : zPc d (x_np X) t k hv I K) (ht : t ≤ 8) (ht1 : 1 ≤ t) (hk : k ≤ 1) {J L : Nat → Nat → Int32} (hJ : J = sm_up I d (sm_up (I d) 3 (nI (x_np X + 1)))) (hL : L = sm_up (sm_up (sm_up K 85 (sm_up (K 85) (6 + x_np X) (nI k))) 86 (sm_up (K 86) (6 + x_np X) (nI t))) 84 (sm_up (K 84) 4 (nI (x_np X + 1)))) : zG d tp n P m cd h J L ∧ zDC d (x_piece X t k hv) J ∧ zDM (x_piece X t k hv) L ∧ zDO (x_piece X t k hv) := by
  have hd := dq_d hR hD
  obtain ⟨p1, p2, p3⟩ := hp
  have gJ : ∀ c, c ≠ d → J c = I c := fun c h1 => by rw [hJ, up_n _ _ h1]
  have gL : ∀ c, c ≠ 84 → c ≠ 85 → c ≠ 86 → L c = K c := fun c h1 h2 h3 => by rw [hL, up_n _ _ h1, up_n _ _ h3, up_n _ _ h2]
  obtain ⟨⟨b0, b1⟩, b2, b3, b4, b5, b6⟩ := hX
  obtain ⟨⟨c1, c2, c3⟩, c4, c5⟩ := hY
  obtain ⟨⟨o1, o2⟩, ⟨o3, o4⟩, o5⟩ := hO
  refine ⟨zG_m (zG_c hg (gJ 1 (by omega)) (gJ 2 (by omega)) (gJ (d + 4) (by omega)) (gJ (d + 5) (by omega))) (gL 80 (by omega) (by omega) (by omega)) (gL 94 (by omega) (by omega) (by omega)) (by rw [hL, up_s, up_n _ _ (by omega)]) (gL 92 (by omega) (by omega) (by omega)), ⟨⟨by rw [hJ, up_s, up_s]; rfl, fun w hw => ?_⟩, zCV_fr b2 o3 (fun c hc => gJ c (by omega)), by rw [gJ _ (by omega)]; exact b3, by rw [gJ _ (by omega)]; exact b4, by rw [gJ _ (by omega)]; exact b5, by rw [gJ _ (by omega)]; exact b6⟩, ⟨⟨by rw [hL, up_s, up_s]; rfl, by rw [hL, up_s, up_n _ _ (by omega)]; exact c2, by rw [hL, up_s, up_n _ _ (by omega)]; exact c3⟩, fun w hw => ?_, fun p hp => ?_⟩, ⟨by show x_np X + 1 ≤ 6; omega, fun w hw => ?_⟩, ⟨o3, fun p hp => ?_⟩, o5⟩
  · show J (d + 1) w = nI (sm_up (x_bn X) (x_np X) t w) ∧ J (d + 2) w = nI (sm_up (x_st X) (x_np X) k w) ∧ ∀ i, i < sm_up (x_bn X) (x_np X) t w → J (d + 3) (8 * w + i) = nI (sm_up (x_hd X) (x_np X) hv w i)
    have hw : w < x_np X + 1 := hw
    rw [gJ _ (by omega), gJ _ (by omega), gJ _ (by omega)]
    by_cases e : w = x_np X
    · rw [e, up_s, up_s, up_s]
      exact ⟨p1, p2, fun i hi => (p3 i hi).1⟩
    · rw [up_n _ _ e, up_n _ _ e, up_n _ _ e]
      exact b1 w (by omega)
  · show L 85 (6 + w) = nI (sm_up (x_st X) (x_np X) k w) ∧ L 86 (6 + w) = nI (sm_up (x_bn X) (x_np X) t w) ∧ ∀ i, i < sm_up (x_bn X) (x_np X) t w → L 87 (8 * (6 + w) + i) = nI (sm_up (x_hd X) (x_np X) hv w i)
    have hw : w < x_np X + 1 := hw
    rw [gL 87 (by omega) (by omega) (by omega)]
    by_cases e : w = x_np X
    · rw [e, up_s, up_s, up_s]
      exact ⟨by rw [hL, up_n _ _ (by omega), up_n _ _ (by omega), up_s, up_s], by rw [hL, up_n _ _ (by omega), up_s, up_s], fun i hi => (p3 i hi).2.1⟩
    · rw [up_n _ _ e, up_n _ _ e, up_n _ _ e]
      obtain ⟨f1, f2, f3⟩ := c4 w (by omega)
      exact ⟨by rw [hL, up_n _ _ (by omega), up_n _ _ (by omega), up_s, up_n _ _ (by omega)]; exact f1, by rw [hL, up_n _ _ (by omega), up_s, up_n _ _ (by omega)]; exact f2, f3⟩
  · rw [gL 88 (by omega) (by omega) (by omega), gL 89 (by omega) (by omega) (by omega), gL 90 (by omega) (by omega) (by omega), gL 91 (by omega) (by omega) (by omega)]
    exact c5 p hp
  · show 1 ≤ sm_up (x_bn X) (x_np X) t w ∧ sm_up (x_bn X) (x_np X) t w ≤ 8 ∧ sm_up (x_st X) (x_np X) k w ≤ 1 ∧ ∀ i, i < sm_up (x_bn X) (x_np X) t w → 1 ≤ sm_up (x_hd X) (x_np X) hv w i ∧ sm_up (x_hd X) (x_np X) hv w i ≤ 99
    have hw : w < x_np X + 1 := hw
    by_cases e : w = x_np X
    · rw [e, up_s, up_s, up_s]
      exact ⟨ht1, ht, hk, fun i hi => (p3 i hi).2.2⟩
    · rw [up_n _ _ e, up_n _ _ e, up_n _ _ e]
      exact o2 w (by omega)
  · obtain ⟨f1, f2, f3, f4⟩ := o4 p hp
    exact ⟨f1, f2, by show x_V X p 2 < x_np X + 1; omega, f4⟩
end ZR
