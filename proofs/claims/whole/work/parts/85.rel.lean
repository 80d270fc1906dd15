/-! ===== PURE PART: school: the two readers side by side ===== -/
def z_ht (cd : Nat → Nat) : Nat → Nat → Nat → Option Nat
  | 0, _, h => some h
  | d + 1, i, h => if cd i < 20000 then (if cd i < 10006 ∧ h < 64 then z_ht cd d (i + 1) (h + 1) else none) else if cd i = 20002 then (if 1 ≤ h then z_ht cd d (i + 1) h else none) else (if cd i ≤ 20008 ∧ 2 ≤ h then z_ht cd d (i + 1) (h - 1) else none)
theorem z_ht_ok {cd : Nat → Nat} : ∀ d i h, z_ht cd d i h = some 1 → z_ok cd d i h
  | 0, i, h, e => by
    have e : some h = some 1 := e
    exact Option.some.inj e
  | d + 1, i, h, e => by
    unfold z_ht at e
    by_cases h1 : cd i < 20000
    · rw [if_pos h1] at e
      by_cases h2 : cd i < 10006 ∧ h < 64
      · rw [if_pos h2] at e
        exact ⟨fun _ => ⟨h2.1, h2.2, z_ht_ok d _ _ e⟩, fun h3 => absurd h3 (by omega), fun h3 => absurd h3 (by omega)⟩
      · rw [if_neg h2] at e
        cases e
    · rw [if_neg h1] at e
      by_cases h2 : cd i = 20002
      · rw [if_pos h2] at e
        by_cases h3 : 1 ≤ h
        · rw [if_pos h3] at e
          exact ⟨fun h4 => absurd h4 h1, fun _ => ⟨h3, z_ht_ok d _ _ e⟩, fun _ h4 => absurd h2 h4⟩
        · rw [if_neg h3] at e
          cases e
      · rw [if_neg h2] at e
        by_cases h3 : cd i ≤ 20008 ∧ 2 ≤ h
        · rw [if_pos h3] at e
          exact ⟨fun h4 => absurd h4 h1, fun h4 => absurd h4 h2, fun _ _ => ⟨h3.1, h3.2, z_ht_ok d _ _ e⟩⟩
        · rw [if_neg h3] at e
          cases e
theorem z_ht_cong {cd ce : Nat → Nat} : ∀ d i h, (∀ j, i ≤ j → j < i + d → cd j = ce j) → z_ht cd d i h = z_ht ce d i h
  | 0, _, _, _ => rfl
  | d + 1, i, h, e => by
    unfold z_ht
    rw [e i (by omega) (by omega), z_ht_cong d (i + 1) (h + 1) (fun j h1 h2 => e j (by omega) (by omega)), z_ht_cong d (i + 1) h (fun j h1 h2 => e j (by omega) (by omega)), z_ht_cong d (i + 1) (h - 1) (fun j h1 h2 => e j (by omega) (by omega))]
theorem z_ht_add {cd : Nat → Nat} : ∀ n m i h k, z_ht cd n i h = some k → z_ht cd (n + m) i h = z_ht cd m (i + n) k
  | 0, m, i, h, k, e => by
    have e : some h = some k := e
    rw [Option.some.inj e, Nat.zero_add, Nat.add_zero]
  | n + 1, m, i, h, k, e => by
    rw [Nat.add_right_comm]
    unfold z_ht at e
    show z_ht cd (n + m + 1) i h = _
    unfold z_ht
    rw [show i + (n + 1) = i + 1 + n by omega]
    by_cases h1 : cd i < 20000
    · rw [if_pos h1] at e ⊢
      by_cases h2 : cd i < 10006 ∧ h < 64
      · rw [if_pos h2] at e ⊢
        rw [z_ht_add n m _ _ k e]
        cases m <;> rfl
      · rw [if_neg h2] at e
        cases e
    · rw [if_neg h1] at e ⊢
      by_cases h2 : cd i = 20002
      · rw [if_pos h2] at e ⊢
        by_cases h3 : 1 ≤ h
        · rw [if_pos h3] at e ⊢
          rw [z_ht_add n m _ _ k e]
          cases m <;> rfl
        · rw [if_neg h3] at e
          cases e
      · rw [if_neg h2] at e ⊢
        by_cases h3 : cd i ≤ 20008 ∧ 2 ≤ h
        · rw [if_pos h3] at e ⊢
          rw [z_ht_add n m _ _ k e]
          cases m <;> rfl
        · rw [if_neg h3] at e
          cases e
/-- one code more -/
theorem z_ht_1 {cd : Nat → Nat} {m h v k : Nat} (h1 : z_ht cd m 0 0 = some h) (h2 : z_ht (sm_up cd m v) 1 m h = some k) : z_ht (sm_up cd m v) (m + 1) 0 0 = some k := by
  have e : z_ht (sm_up cd m v) m 0 0 = some h := by
    rw [← h1]
    exact z_ht_cong m 0 0 (fun j _ hj => up_n _ _ (by omega))
  rw [z_ht_add m 1 0 0 h e, Nat.zero_add]
  exact h2
theorem z_ht_push {cd : Nat → Nat} {m h v : Nat} (hv : v < 10006) (hh : h < 64) : z_ht (sm_up cd m v) 1 m h = some (h + 1) := by
  unfold z_ht
  rw [up_s, if_pos (by omega), if_pos ⟨hv, hh⟩]
  rfl
theorem z_ht_not {cd : Nat → Nat} {m h : Nat} (hh : 1 ≤ h) : z_ht (sm_up cd m 20002) 1 m h = some h := by
  unfold z_ht
  rw [up_s, if_neg (by omega), if_pos rfl, if_pos hh]
  rfl
theorem z_ht_two {cd : Nat → Nat} {m h v : Nat} (h1 : 20000 ≤ v) (h2 : v ≤ 20008) (h3 : v ≠ 20002) : z_ht (sm_up cd m v) 1 m (h + 2) = some (h + 1) := by
  unfold z_ht
  rw [up_s, if_neg (by omega), if_neg h3, if_pos ⟨h2, by omega⟩]
  rfl
def zDq (R : Nat → Nat → Nat) (q d : Nat) : Prop := R 1 2 = d ∧ d = 25 - q
section ZQ
variable {R : Nat → Nat → Nat} {q d : Nat}
theorem dq_q (hR : sR R q) (hD : zDq R q d) : qR R d := by
  rw [hD.2]
  exact hR.d
theorem dq_d (hR : sR R q) (hD : zDq R q d) : d = 3 ∨ d = 22 := by
  have := hR.2.1
  have := hD.2
  omega
theorem dk_0 (h : qR R d) : sm_kd d = (7, 9) := h.1.1
theorem dk_1 (h : qR R d) : sm_kd (d + 1) = (13, 6) := h.1.2.1
theorem dk_2 (h : qR R d) : sm_kd (d + 2) = (13, 6) := h.1.2.2.1
theorem dk_3 (h : qR R d) : sm_kd (d + 3) = (13, 48) := h.1.2.2.2.1
theorem dk_4 (h : qR R d) : sm_kd (d + 4) = (6, 4) := h.1.2.2.2.2.1
theorem dk_5 (h : qR R d) : sm_kd (d + 5) = (13, 700) := h.1.2.2.2.2.2.1
theorem dr_0 (h : qR R d) : R d 0 = d + 1 := h.2.1.1
theorem dr_1 (h : qR R d) : R d 1 = d + 2 := h.2.1.2.1
theorem dr_2 (h : qR R d) : R d 2 = d + 3 := h.2.1.2.2.1
theorem dr_4 (h : qR R d) : R d 4 = d + 4 := h.2.1.2.2.2.1
theorem dr_5 (h : qR R d) : R d 5 = d + 7 := h.2.1.2.2.2.2.1
theorem dr_40 (h : qR R d) : R (d + 4) 0 = d + 5 := h.2.1.2.2.2.2.2.2.2.2.1
theorem dt_0 (h : qR R d) : sm_kd (d + 7) = (10, 4) := h.2.2.1
end ZQ
/-! frames -/
def zMxf : List Nat := [16, 18, 19, 20, 21, 22, 23]
/-- only the readers' own fields -/
def zCy (I J : Nat → Nat → Int32) : Prop := (∀ c, c ≠ 1 → J c = I c) ∧ J 1 10 = I 1 10 ∧ J 1 1 = I 1 1
theorem zCy_refl (I : Nat → Nat → Int32) : zCy I I := ⟨fun _ _ => rfl, rfl, rfl⟩
theorem zCy_trans {I J K : Nat → Nat → Int32} (h : zCy I J) (h2 : zCy J K) : zCy I K := ⟨fun c hc => (h2.1 c hc).trans (h.1 c hc), h2.2.1.trans h.2.1, h2.2.2.trans h.2.2⟩
theorem zCy_a {I J : Nat → Nat → Int32} (h : zCa I J) : zCy I J := ⟨h.1, h.2 10 (by omega), h.2 1 (by omega)⟩
theorem zMy_a {I J : Nat → Nat → Int32} (h : zfm [] zMal I J) : zfm [] zMxf I J := zfm_mono h (by decide) (by decide)
def zCx (d : Nat) (I J : Nat → Nat → Int32) : Prop := zfr [1, d + 4, d + 5] I J ∧ J (d + 4) 2 = I (d + 4) 2 ∧ J 1 10 = I 1 10 ∧ J 1 1 = I 1 1
theorem zCx_refl (d : Nat) (I : Nat → Nat → Int32) : zCx d I I := ⟨zfr_refl _ _, rfl, rfl, rfl⟩
theorem zCx_trans {d : Nat} {I J K : Nat → Nat → Int32} (h : zCx d I J) (h2 : zCx d J K) : zCx d I K := ⟨zfr_trans h.1 h2.1, h2.2.1.trans h.2.1, h2.2.2.1.trans h.2.2.1, h2.2.2.2.trans h.2.2.2⟩
theorem zCx_y {d : Nat} (hd : d = 3 ∨ d = 22) {I J : Nat → Nat → Int32} (h : zCy I J) : zCx d I J := ⟨fun c hc => h.1 c (fun e => hc (by rw [e]; simp)), by rw [h.1 (d + 4) (by omega)], h.2.1, h.2.2⟩
def zMx (K L : Nat → Nat → Int32) : Prop := zfm [84, 92] zMxf K L ∧ (∀ j, j ≠ 7 → L 84 j = K 84 j) ∧ ∀ j, j < 700 → L 92 j = K 92 j
theorem zMx_refl (K : Nat → Nat → Int32) : zMx K K := ⟨zfm_refl _ _ _, fun _ _ => rfl, fun _ _ => rfl⟩
theorem zMx_trans {K L M : Nat → Nat → Int32} (h : zMx K L) (h2 : zMx L M) : zMx K M := ⟨zfm_trans h.1 h2.1, fun j hj => (h2.2.1 j hj).trans (h.2.1 j hj), fun j hj => (h2.2.2 j hj).trans (h.2.2 j hj)⟩
theorem zMx_y {K L : Nat → Nat → Int32} (h : zfm [] zMxf K L) : zMx K L := ⟨zfm_mono h (by simp) (fun _ h => h), fun j _ => by rw [h.1 84 (by omega) (by simp)], fun j _ => by rw [h.1 92 (by omega) (by simp)]⟩
/-! the states: no fault yet; a fault -/
def zG (d : Nat) (tp : Nat → Nat) (n : Nat) (P : zK) (m : Nat) (cd : Nat → Nat) (h : Nat) (I K : Nat → Nat → Int32) : Prop := zCT tp n P I ∧ zMT tp n P K ∧ zTk tp n P ∧ (m ≤ 700 ∧ I 1 9 = -nI 1) ∧ (I (d + 4) 1 = nI m ∧ ∀ i, i < m → I (d + 5) i = nI (cd i)) ∧ (K 84 7 = nI m ∧ ∀ i, i < m → K 92 (700 + i) = z_tr (cd i)) ∧ z_ht cd m 0 0 = some h
def zB (d : Nat) (I K : Nat → Nat → Int32) : Prop := ∃ e pl m, (1 ≤ e ∧ e ≤ 5 ∧ pl ≤ 700 ∧ m ≤ 700) ∧ (I 1 8 = nI e ∧ I 1 9 = nI pl ∧ I 1 3 = nI 4 ∧ I (d + 4) 1 = nI m) ∧ K 80 22 = nI e ∧ K 80 23 = nI pl
section ZR
variable {N : Nat} {R Rm : Nat → Nat → Nat} {q qm d n m h c : Nat} {P : zK} {tp cd : Nat → Nat} {I J K L : Nat → Nat → Int32}
theorem zG_y (hd : d = 3 ∨ d = 22) {P' : zK} (hg : zG d tp n P m cd h I K) (hI : zCy I J) (hK : zfm [] zMxf K L) (h1 : zCT tp n P' J) (h2 : zMT tp n P' L) (h3 : zTk tp n P') (h9 : J 1 9 = I 1 9) : zG d tp n P' m cd h J L := by
  obtain ⟨-, -, -, g4, g5, g6, g7⟩ := hg
  refine ⟨h1, h2, h3, ⟨g4.1, h9.trans g4.2⟩, ?_, ?_, g7⟩
  · rw [hI.1 (d + 4) (by omega), hI.1 (d + 5) (by omega)]
    exact g5
  · rw [hK.1 84 (by omega) (by simp), hK.1 92 (by omega) (by simp)]
    exact g6
/-- the next token -/
theorem r_adv (hN : 5000 ≤ N) (hR : sR R q) (hRm : sR Rm qm) (hd : d = 3 ∨ d = 22) (hn : n ≤ 700) (htp : ∀ i, i < n → tp i < 256) (hg : zG d tp n P m cd h I K) : ∃ J L, f_X5_advance N R 1 I = some ((), J) ∧ f_X12_stepOn N Rm 80 K = some ((), L) ∧ zG d tp n (z_scan tp n P.2.2) m cd h J L ∧ P.2.2 ≤ (z_scan tp n P.2.2).2.1 ∧ zCy I J ∧ zfm [] zMxf K L := by
  have hT := hg.2.2.1
  obtain ⟨J, j1, j2, j3⟩ := c_adv (N := N) hN hR hn htp hT.2.2.1 hg.1.1
  obtain ⟨L, l1, l2, l3⟩ := m_step (N := N) hN hRm hn htp hT.2.2.1 hg.2.1.1
  obtain ⟨t1, t2⟩ := zTk_scan tp hT.2.2.1
  exact ⟨J, L, j1, l1, zG_y hd hg (zCy_a j3) (zMy_a l3) j2 l2 t1 (j3.2 9 (by omega)), t2, zCy_a j3, zMy_a l3⟩
/-- a fault -/
theorem r_stop (hn : n ≤ 700) (hd : d = 3 ∨ d = 22) (hg : zG d tp n P m cd h I K) {e : Nat} (he : 1 ≤ e) (he5 : e ≤ 5) : ∃ J L, f_X5_stop N R 1 (nI e) I = some ((), J) ∧ f_X12_wrong N Rm 80 (nI e) K = some ((), L) ∧ zB d J L ∧ zCy I J ∧ zfm [] zMxf K L ∧ L 80 22 = nI e := by
  obtain ⟨⟨⟨h1, ht, h5, h8⟩, h3, h4, -, -⟩, ⟨⟨-, -, -, k22⟩, -, k20, -, -⟩, hT, g4, g5, -, -⟩ := hg
  have t2 := hT.2.1
  have t3 := hT.2.2.1
  refine ⟨sm_up I 1 (sm_up (sm_up (sm_up (I 1) 8 (nI e)) 9 (nI P.2.1)) 3 (nI 4)), sm_up K 80 (sm_up (sm_up (K 80) 22 (nI e)) 23 (nI P.2.1)), ?_, ?_, ⟨e, P.2.1, m, ⟨he, he5, by omega, g4.1⟩, ⟨?_, ?_, ?_, ?_⟩, ?_, ?_⟩, ⟨fun c hc => up_n _ _ hc, ?_, ?_⟩, ?_, ?_⟩
  · simp (disch := omega) only [f_X5_stop, kd_1, h4, h8, zl_0, zl_4, up_s, up_n, up_uu, gd_t, gd_pos, lt_eq, if_true]
  · simp (disch := omega) only [f_X12_wrong, kd_80, k20, k22, zl_0, up_s, up_n, up_uu, gd_t, gd_pos, lt_eq, if_true]
  · rw [up_s, up_n _ _ (by omega), up_n _ _ (by omega), up_s]
  · rw [up_s, up_n _ _ (by omega), up_s]
  · rw [up_s, up_s]
  · rw [up_n _ _ (by omega)]
    exact g5.1
  · rw [up_s, up_n _ _ (by omega), up_s]
  · rw [up_s, up_s]
  · rw [up_s, up_n _ _ (by omega), up_n _ _ (by omega), up_n _ _ (by omega)]
  · rw [up_s, up_n _ _ (by omega), up_n _ _ (by omega), up_n _ _ (by omega)]
  · have h1 := zfm_f (zfm_f (zfm_refl [] zMxf K) (i := 22) (by decide) (nI e)) (i := 23) (by decide) (nI P.2.1)
    rw [up_s, up_uu] at h1
    exact h1
  · rw [up_s, up_n _ _ (by omega), up_s]
/-! behind a fault nothing more happens -/
theorem c_stop_f (hb : zB d I K) (x : Int32) : f_X5_stop N R 1 x I = some ((), I) := by
  obtain ⟨e, pl, m, ⟨he, he5, -, -⟩, ⟨b8, b9, b3, -⟩, -, -⟩ := hb
  have e1 : sm_up I 1 (sm_up (I 1) 3 (nI 4)) = I := by
    rw [← b3, up_id, up_id]
  simp (disch := omega) only [f_X5_stop, kd_1, b8, zl_0, zl_4, nI_eq, e1, gd_t, gd_pos, lt_eq, if_neg]
theorem m_wrong_f (hb : zB d I K) (x : Int32) : f_X12_wrong N R 80 x K = some ((), K) := by
  obtain ⟨e, pl, m, ⟨he, he5, -, -⟩, -, k22, -⟩ := hb
  simp (disch := omega) only [f_X12_wrong, kd_80, k22, zl_0, nI_eq, gd_t, gd_pos, if_neg]
theorem zB_3 (hb : zB d I K) : I 1 3 = nI 4 := hb.choose_spec.choose_spec.choose_spec.2.1.2.2.1
theorem zB_22 (hb : zB d I K) : ∃ e, 1 ≤ e ∧ e ≤ 5 ∧ K 80 22 = nI e := by
  obtain ⟨e, pl, m, ⟨he, he5, -, -⟩, -, k22, -⟩ := hb
  exact ⟨e, he, he5, k22⟩
theorem zB_8 (hb : zB d I K) : ∃ e, 1 ≤ e ∧ e ≤ 5 ∧ I 1 8 = nI e := by
  obtain ⟨e, pl, m, ⟨he, he5, -, -⟩, ⟨b8, -⟩, -, -⟩ := hb
  exact ⟨e, he, he5, b8⟩
theorem c_adv_f (hb : zB d I K) : f_X5_advance N R 1 I = some ((), I) := by
  obtain ⟨e, he, he5, b8⟩ := zB_8 hb
  simp (disch := omega) only [f_X5_advance, kd_1, b8, zl_0, nI_eq, gd_t, gd_pos, if_neg]
theorem c_skip_f (hb : zB d I K) (x : Int32) : f_X5_skipSign N R 1 x I = some ((), I) := by
  have e1 := c_isSign_f (N := N) (R := R) (zB_3 hb) x
  have e2 := c_stop_f (N := N) (R := R) hb (nI 1)
  simp (disch := omega) only [f_X5_skipSign, kd_1, e1, e2, zl_0, zl_1, gd_t, gd_pos, Option.bind_some, if_true]
theorem m_mark_f (hb : zB d I K) (x : Int32) : f_X12_mark N R 80 x K = some ((), K) := by
  obtain ⟨e, he, he5, k22⟩ := zB_22 hb
  simp (disch := omega) only [f_X12_mark, f_X12_mark_20, kd_80, k22, zl_0, nI_eq, gd_t, gd_pos, if_neg]
theorem c_num_f (hb : zB d I K) (x y : Int32) : f_X5_readNumber N R 1 x y I = some (nI 0, I) := by
  have b3 := zB_3 hb
  have e2 := c_stop_f (N := N) (R := R) hb (nI 1)
  simp (disch := omega) only [f_X5_readNumber, kd_1, b3, e2, zl_0, zl_1, nI_eq, gd_t, gd_pos, Option.bind_some, if_neg]
theorem m_now_f (hb : zB d I K) (x y : Int32) : f_X12_numberNow N R 80 x y K = some (nI 0, K) := by
  obtain ⟨e, he, he5, k22⟩ := zB_22 hb
  simp (disch := omega) only [f_X12_numberNow, kd_80, k22, zl_0, nI_eq, gd_t, gd_pos, if_neg]
theorem m_num_f (hb : zB d I K) (x y : Int32) : f_X12_readNumber N R 80 x y K = some (nI 0, K) := by
  have e1 := m_now_f (N := N) (R := R) hb x y
  obtain ⟨e, he, he5, k22⟩ := zB_22 hb
  simp (disch := omega) only [f_X12_readNumber, kd_80, e1, k22, zl_0, nI_eq, gd_t, gd_pos, Option.bind_some, if_neg]
theorem m_lay_f (hb : zB d I K) (x : Int32) : f_X12_lay N R 80 x K = some ((), K) := by
  obtain ⟨e, he, he5, k22⟩ := zB_22 hb
  simp (disch := omega) only [f_X12_lay, kd_80, k22, zl_0, nI_eq, gd_t, gd_pos, if_neg]
theorem c_add_f (hq : qR R d) (hd : d = 3 ∨ d = 22) (hb : zB d I K) (x : Int32) : ∃ J, f_X6_add N R (d + 4) x I = some ((), J) ∧ zB d J K ∧ zCx d I J := by
  obtain ⟨e, pl, m, ⟨he, he5, hpl, hm⟩, ⟨b8, b9, b3, b4⟩, k22, k23⟩ := hb
  by_cases h7 : m = 700
  · refine ⟨I, ?_, ⟨e, pl, m, ⟨he, he5, hpl, hm⟩, ⟨b8, b9, b3, b4⟩, k22, k23⟩, zCx_refl d I⟩
    simp (disch := omega) only [f_X6_add, dk_4 hq, dk_5 hq, dr_40 hq, b4, zl_ofNat, nI_leI, gd_t, gd_pos, if_pos]
  · refine ⟨sm_up (sm_up I (d + 5) (sm_up (I (d + 5)) m x)) (d + 4) (sm_up (I (d + 4)) 1 (nI (m + 1))), ?_, ⟨e, pl, m + 1, ⟨he, he5, hpl, by omega⟩, ⟨?_, ?_, ?_, ?_⟩, k22, k23⟩, zfr_up (zfr_up (zfr_refl _ _) (by simp) _) (by simp) _, ?_, ?_, ?_⟩
    · simp (disch := omega) only [f_X6_add, dk_4 hq, dk_5 hq, dr_40 hq, b4, zl_0, zl_1, zl_ofNat, nI_leI, nI_ltI, nI_add, nI_clamp, up_s, up_n, gd_t, gd_pos, lt_eq, Option.bind_some, true_and, and_true, not_true, not_false_iff, false_or, or_false, if_true, if_false, if_pos, if_neg]
    · rw [up_n _ _ (by omega), up_n _ _ (by omega)]
      exact b8
    · rw [up_n _ _ (by omega), up_n _ _ (by omega)]
      exact b9
    · rw [up_n _ _ (by omega), up_n _ _ (by omega)]
      exact b3
    · rw [up_s, up_s]
    · rw [up_s, up_n _ _ (by omega)]
    · rw [up_n _ _ (by omega), up_n _ _ (by omega)]
    · rw [up_n _ _ (by omega), up_n _ _ (by omega)]
/-- a code is laid -/
theorem r_lay (hR : sR R q) (hRm : sR Rm qm) (hq : qR R d) (hd : d = 3 ∨ d = 22) (hg : zG d tp n P m cd h I K) (hm : m < 700) {v k : Nat} (hk : z_ht (sm_up cd m v) 1 m h = some k) : ∃ J L, f_X6_add N R (d + 4) (nI v) I = some ((), J) ∧ f_X12_lay N Rm 80 (z_tr v) K = some ((), L) ∧ zG d tp n P (m + 1) (sm_up cd m v) k J L ∧ zCx d I J ∧ zMx K L := by
  obtain ⟨g1, g2, g3, g4, ⟨g5, g6⟩, ⟨g7, g8⟩, g9⟩ := hg
  have k22 : K 80 22 = nI 0 := g2.1.2.2.2
  refine ⟨sm_up (sm_up I (d + 5) (sm_up (I (d + 5)) m (nI v))) (d + 4) (sm_up (I (d + 4)) 1 (nI (m + 1))), sm_up (sm_up K 92 (sm_up (K 92) (700 + m) (z_tr v))) 84 (sm_up (K 84) 7 (nI (m + 1))), ?_, ?_, ⟨?_, ?_, g3, ⟨by omega, by rw [up_n _ _ (by omega), up_n _ _ (by omega)]; exact g4.2⟩, ⟨?_, ?_⟩, ⟨?_, ?_⟩, z_ht_1 g9 hk⟩, ⟨zfr_up (zfr_up (zfr_refl _ _) (by simp) _) (by simp) _, ?_, ?_, ?_⟩, ⟨zfm_up (zfm_up (zfm_refl _ _ _) (by simp) (by omega) _) (by simp) (by omega) _, ?_, ?_⟩⟩
  · simp (disch := omega) only [f_X6_add, dk_4 hq, dk_5 hq, dr_40 hq, g5, zl_0, zl_1, zl_ofNat, nI_leI, nI_ltI, nI_add, nI_clamp, up_s, up_n, gd_t, gd_pos, lt_eq, Option.bind_some, true_and, and_true, not_true, not_false_iff, false_or, or_false, if_true, if_false, if_pos, if_neg]
  · simp (disch := omega) only [f_X12_lay, kd_80, r80_4 hRm, kd_84, r80_12 hRm, kd_92, k22, g7, zl_0, zl_1, zl_7, zl_700, nI_leI, nI_ltI, nI_add, nI_clamp, up_s, up_n, gd_t, gd_pos, lt_eq, Option.bind_some, true_and, and_true, not_true, not_false_iff, false_or, or_false, if_true, if_false, if_pos, if_neg]
  · unfold zCT zCT0 at g1 ⊢
    rw [up_n _ _ (show (1 : Nat) ≠ d + 4 by omega), up_n _ _ (show (1 : Nat) ≠ d + 5 by omega), up_n _ _ (show (2 : Nat) ≠ d + 4 by omega), up_n _ _ (show (2 : Nat) ≠ d + 5 by omega)]
    exact g1
  · unfold zMT zMT0 at g2 ⊢
    rw [up_n _ _ (show (80 : Nat) ≠ 84 by omega), up_n _ _ (show (80 : Nat) ≠ 92 by omega), up_n _ _ (show (94 : Nat) ≠ 84 by omega), up_n _ _ (show (94 : Nat) ≠ 92 by omega)]
    exact g2
  · rw [up_s, up_s]
  · intro i hi
    rw [up_n _ _ (by omega), up_s]
    by_cases e : i = m
    · rw [e, up_s, up_s]
    · rw [up_n _ _ e, up_n _ _ e]
      exact g6 i (by omega)
  · rw [up_s, up_s]
  · intro i hi
    rw [up_n _ _ (by omega), up_s]
    by_cases e : i = m
    · rw [e, up_s, up_s]
    · rw [up_n _ _ (by omega), up_n _ _ e]
      exact g8 i (by omega)
  · rw [up_s, up_n _ _ (by omega)]
  · rw [up_n _ _ (by omega), up_n _ _ (by omega)]
  · rw [up_n _ _ (by omega), up_n _ _ (by omega)]
  · intro j hj
    rw [up_s, up_n _ _ hj]
  · intro j hj
    rw [up_n _ _ (by omega), up_s, up_n _ _ (by omega)]
/-- a number -/
theorem r_num (hN : 5000 ≤ N) (hR : sR R q) (hRm : sR Rm qm) (hd : d = 3 ∨ d = 22) (hn : n ≤ 700) (htp : ∀ i, i < n → tp i < 256) (hg : zG d tp n P m cd h I K) {l t : Nat} (hl : l ≤ 1) (ht : t ≤ 9999) : ∃ x J L, f_X5_readNumber N R 1 (nI l) (nI t) I = some (x, J) ∧ f_X12_readNumber N Rm 80 (nI l) (nI t) K = some (x, L) ∧ ((∃ v P', l ≤ v ∧ v ≤ t ∧ x = nI v ∧ zG d tp n P' m cd h J L ∧ P.2.1 < P'.2.1 ∧ P.1 = 1) ∨ (x = nI 0 ∧ zB d J L)) ∧ zCy I J ∧ zfm [] zMxf K L := by
  have hT := hg.2.2.1
  obtain ⟨t1, t2, t3, t4, t5⟩ := id hT
  have i3 : I 1 3 = nI P.1 := hg.1.2.1
  have i4 : I 1 4 = nI P.2.1 := hg.1.2.2.1
  have i5 : I 1 5 = nI P.2.2 := hg.1.1.2.2.1
  have k18 : K 80 18 = nI (z_tkc tp P) := hg.2.1.2.1
  have k20 : K 80 20 = nI P.2.1 := hg.2.1.2.2.1
  have k21 : K 80 21 = nI P.2.2 := hg.2.1.2.2.2.1
  have k22 : K 80 22 = nI 0 := hg.2.1.1.2.2.2
  have tk4 := z_tkc_le (tp := tp) (P := P)
  by_cases hk : P.1 = 1
  · have hk2 : z_tkc tp P = 2 := z_tkc_n.mpr hk
    rw [hk] at i3
    rw [hk2] at k18
    obtain ⟨J1, L1, s1, s2, s3, s4, s5, s6⟩ := r_stop (N := N) (R := R) (Rm := Rm) hn hd hg (e := 2) (by omega) (by omega)
    by_cases h4 : P.2.2 - P.2.1 ≤ 4
    · have i6 := hg.1.2.2.2.1 hk h4
      have k19 := hg.2.1.2.2.2.2 hk h4
      have hv := z_nv_4 (tp := tp) (a := P.2.1) (j := P.2.2 - P.2.1) h4 (fun i h1 h2 => t5 hk i h1 (by omega))
      by_cases hr : l ≤ z_nv tp P.2.1 (P.2.2 - P.2.1) ∧ z_nv tp P.2.1 (P.2.2 - P.2.1) ≤ t
      · obtain ⟨J, L, a1, a2, a3, a4, a5, a6⟩ := r_adv (N := N) hN hR hRm hd hn htp hg
        refine ⟨nI (z_nv tp P.2.1 (P.2.2 - P.2.1)), J, L, ?_, ?_, Or.inl ⟨_, _, hr.1, hr.2, rfl, a3, by omega, hk⟩, a5, a6⟩
        · simp (disch := omega) only [f_X5_readNumber, kd_1, i3, i4, i5, i6, a1, pk_sub, zl_1, zl_4, nI_eq, nI_ltI, nI_leI, gd_t, gd_pos, Option.bind_some, if_true, if_pos, if_neg]
        · simp (disch := omega) only [f_X12_readNumber, f_X12_numberNow, f_X12_numberNow_59, kd_80, k18, k19, k20, k21, k22, a2, pk_sub, zl_0, zl_2, zl_4, nI_eq, nI_ltI, nI_leI, gd_t, gd_pos, Option.bind_some, if_true, if_pos, if_neg]
      · refine ⟨nI 0, J1, L1, ?_, ?_, Or.inr ⟨rfl, s3⟩, s4, s5⟩
        · by_cases hr2 : z_nv tp P.2.1 (P.2.2 - P.2.1) < l
          · simp (disch := omega) only [f_X5_readNumber, kd_1, i3, i4, i5, i6, s1, pk_sub, zl_0, zl_1, zl_2, zl_4, nI_eq, nI_ltI, nI_leI, gd_t, gd_pos, Option.bind_some, if_true, if_pos, if_neg]
          · simp (disch := omega) only [f_X5_readNumber, kd_1, i3, i4, i5, i6, s1, pk_sub, zl_0, zl_1, zl_2, zl_4, nI_eq, nI_ltI, nI_leI, gd_t, gd_pos, Option.bind_some, if_true, if_pos, if_neg]
        · by_cases hr2 : z_nv tp P.2.1 (P.2.2 - P.2.1) < l
          · simp (disch := omega) only [f_X12_readNumber, f_X12_numberNow, f_X12_numberNow_59, kd_80, k18, k19, k20, k21, k22, s2, s6, pk_sub, zl_0, zl_2, zl_4, nI_eq, nI_ltI, nI_leI, gd_t, gd_pos, Option.bind_some, if_true, if_pos, if_neg]
          · simp (disch := omega) only [f_X12_readNumber, f_X12_numberNow, f_X12_numberNow_59, kd_80, k18, k19, k20, k21, k22, s2, s6, pk_sub, zl_0, zl_2, zl_4, nI_eq, nI_ltI, nI_leI, gd_t, gd_pos, Option.bind_some, if_true, if_pos, if_neg]
    · refine ⟨nI 0, J1, L1, ?_, ?_, Or.inr ⟨rfl, s3⟩, s4, s5⟩
      · simp (disch := omega) only [f_X5_readNumber, kd_1, i3, i4, i5, s1, pk_sub, zl_0, zl_1, zl_2, zl_4, nI_eq, nI_ltI, nI_leI, gd_t, gd_pos, Option.bind_some, if_true, if_pos]
      · simp (disch := omega) only [f_X12_readNumber, f_X12_numberNow, f_X12_numberNow_59, kd_80, k18, k20, k21, k22, s2, s6, pk_sub, zl_0, zl_2, zl_4, nI_eq, nI_ltI, nI_leI, gd_t, gd_pos, Option.bind_some, if_true, if_pos, if_neg]
  · have hk2 : ¬ z_tkc tp P = 2 := fun h => hk (z_tkc_n.mp h)
    obtain ⟨J1, L1, s1, s2, s3, s4, s5, s6⟩ := r_stop (N := N) (R := R) (Rm := Rm) hn hd hg (e := 1) (by omega) (by omega)
    refine ⟨nI 0, J1, L1, ?_, ?_, Or.inr ⟨rfl, s3⟩, s4, s5⟩
    · simp (disch := omega) only [f_X5_readNumber, kd_1, i3, s1, zl_0, zl_1, nI_eq, gd_t, gd_pos, Option.bind_some, if_neg]
    · simp (disch := omega) only [f_X12_readNumber, f_X12_numberNow, f_X12_numberNow_59, kd_80, k18, k22, s2, s6, zl_0, zl_1, zl_2, nI_eq, gd_t, gd_pos, Option.bind_some, if_true, if_neg]
/-- a sign that must stand there -/
theorem r_skip (hN : 5000 ≤ N) (hR : sR R q) (hRm : sR Rm qm) (hd : d = 3 ∨ d = 22) (hn : n ≤ 700) (htp : ∀ i, i < n → tp i < 256) (hg : zG d tp n P m cd h I K) {c : Nat} (hc : c < 128) (hm : z_mk c = true) : ∃ J L, f_X5_skipSign N R 1 (nI c) I = some ((), J) ∧ f_X12_mark N Rm 80 (nI c) K = some ((), L) ∧ ((∃ P', zG d tp n P' m cd h J L ∧ P.2.1 < P'.2.1) ∨ zB d J L) ∧ zCy I J ∧ zfm [] zMxf K L := by
  have hT := hg.2.2.1
  obtain ⟨t1, t2, t3, t4, t5⟩ := id hT
  have e1 := c_isSign (N := N) (R := R) hT hn htp hg.1 hc
  have e2 := m_isMarked (N := N) hRm hn htp hT hg.2.1 hc hm
  have k22 : K 80 22 = nI 0 := hg.2.1.1.2.2.2
  by_cases hs : z_sg tp P c = true
  · rw [if_pos hs] at e1 e2
    have hs2 := z_sg_e hs
    obtain ⟨J, L, a1, a2, a3, a4, a5, a6⟩ := r_adv (N := N) hN hR hRm hd hn htp hg
    refine ⟨J, L, ?_, ?_, Or.inl ⟨_, a3, by omega⟩, a5, a6⟩
    · simp (disch := omega) only [f_X5_skipSign, kd_1, e1, a1, zl_0, nI_eq, gd_t, gd_pos, Option.bind_some, if_neg]
    · simp (disch := omega) only [f_X12_mark, f_X12_mark_20, kd_80, k22, e2, a2, zl_0, nI_eq, gd_t, gd_pos, Option.bind_some, if_true, if_neg]
  · rw [if_neg hs] at e1 e2
    obtain ⟨J1, L1, s1, s2, s3, s4, s5, s6⟩ := r_stop (N := N) (R := R) (Rm := Rm) hn hd hg (e := 1) (by omega) (by omega)
    refine ⟨J1, L1, ?_, ?_, Or.inr s3, s4, s5⟩
    · simp (disch := omega) only [f_X5_skipSign, kd_1, e1, s1, zl_0, zl_1, gd_t, gd_pos, Option.bind_some, if_true]
    · simp (disch := omega) only [f_X12_mark, f_X12_mark_20, kd_80, k22, e2, s2, s6, zl_0, zl_1, nI_eq, gd_t, gd_pos, Option.bind_some, if_true, if_neg]
end ZR
