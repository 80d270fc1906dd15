/-! ===== PURE PART: school: words and signs ===== -/
def z_chr (w i : Nat) : Nat := zX ((sm_byt.getD w []).getD i 0)
theorem z_wl : ∀ w, w < 16 → 1 ≤ w → sm_len.getD w 0 ≤ 7 ∧ ∀ i, i < sm_len.getD w 0 → z_chr w i < 128 := by decide +kernel
def z_wx (tp : Nat → Nat) (a w : Nat) : Option Nat := zfs (fun i => decide (¬ tp (a + i) = z_chr w i)) (sm_len.getD w 0) 0
def z_isw (tp : Nat → Nat) (P : zK) (w : Nat) : Bool := decide (P.1 = 2 ∧ P.2.2 - P.2.1 = sm_len.getD w 0 ∧ z_wx tp P.2.1 w = none)
def z_sg (tp : Nat → Nat) (P : zK) (c : Nat) : Bool := decide (P.1 = 3 ∧ tp P.2.1 = c)
theorem z_isw_t {tp : Nat → Nat} {P : zK} {w : Nat} (h1 : P.1 = 2) (h2 : P.2.2 - P.2.1 = sm_len.getD w 0) (h3 : z_wx tp P.2.1 w = none) : z_isw tp P w = true := decide_eq_true ⟨h1, h2, h3⟩
theorem z_isw_e {tp : Nat → Nat} {P : zK} {w : Nat} (h : z_isw tp P w = true) : P.1 = 2 ∧ P.2.2 - P.2.1 = sm_len.getD w 0 ∧ z_wx tp P.2.1 w = none := of_decide_eq_true h
theorem z_sg_t {tp : Nat → Nat} {P : zK} {c : Nat} (h1 : P.1 = 3) (h2 : tp P.2.1 = c) : z_sg tp P c = true := decide_eq_true ⟨h1, h2⟩
theorem z_sg_e {tp : Nat → Nat} {P : zK} {c : Nat} (h : z_sg tp P c = true) : P.1 = 3 ∧ tp P.2.1 = c := of_decide_eq_true h
theorem z_sln (w : Nat) : sm_sln (1000 + w) = nI (sm_len.getD w 0) := by
  unfold sm_sln
  rw [Nat.add_sub_cancel_left]
  rfl
theorem z_schr {w i : Nat} (hi : i < 2 ^ 31) : sm_sch (1000 + w) (nI i) = nI (z_chr w i) := by
  unfold sm_sch
  rw [Nat.add_sub_cancel_left, nI_clamp hi]
  exact zX_eq _
theorem z_ns : sm_NS = 26 := rfl
theorem z_tkc_w {tp : Nat → Nat} {P : zK} : z_tkc tp P = 1 ↔ P.1 = 2 := by
  unfold z_tkc
  by_cases h0 : P.1 = 0
  · rw [if_pos h0]
    omega
  · rw [if_neg h0]
    by_cases h2 : P.1 = 2
    · rw [if_pos h2]
      omega
    · rw [if_neg h2]
      by_cases h1 : P.1 = 1
      · rw [if_pos h1]
        omega
      · rw [if_neg h1]
        by_cases hm : z_mk (tp P.2.1) = true
        · rw [if_pos hm]
          omega
        · rw [if_neg hm]
          omega
theorem z_tkc_n {tp : Nat → Nat} {P : zK} : z_tkc tp P = 2 ↔ P.1 = 1 := by
  unfold z_tkc
  by_cases h0 : P.1 = 0
  · rw [if_pos h0]
    omega
  · rw [if_neg h0]
    by_cases h2 : P.1 = 2
    · rw [if_pos h2]
      omega
    · rw [if_neg h2]
      by_cases h1 : P.1 = 1
      · rw [if_pos h1]
        omega
      · rw [if_neg h1]
        by_cases hm : z_mk (tp P.2.1) = true
        · rw [if_pos hm]
          omega
        · rw [if_neg hm]
          omega
theorem z_tkc_e {tp : Nat → Nat} {P : zK} : z_tkc tp P = 0 ↔ P.1 = 0 := by
  unfold z_tkc
  by_cases h0 : P.1 = 0
  · rw [if_pos h0]
    omega
  · rw [if_neg h0]
    by_cases h2 : P.1 = 2
    · rw [if_pos h2]
      omega
    · rw [if_neg h2]
      by_cases h1 : P.1 = 1
      · rw [if_pos h1]
        omega
      · rw [if_neg h1]
        by_cases hm : z_mk (tp P.2.1) = true
        · rw [if_pos hm]
          omega
        · rw [if_neg hm]
          omega
theorem z_tkc_s {tp : Nat → Nat} {P : zK} (h3 : P.1 ≤ 3) : z_tkc tp P = 3 ↔ P.1 = 3 ∧ z_mk (tp P.2.1) = true := by
  unfold z_tkc
  by_cases h0 : P.1 = 0
  · rw [if_pos h0]
    omega
  · rw [if_neg h0]
    by_cases h2 : P.1 = 2
    · rw [if_pos h2]
      omega
    · rw [if_neg h2]
      by_cases h1 : P.1 = 1
      · rw [if_pos h1]
        omega
      · rw [if_neg h1]
        by_cases hm : z_mk (tp P.2.1) = true
        · rw [if_pos hm]
          exact ⟨fun _ => ⟨by omega, hm⟩, fun _ => rfl⟩
        · rw [if_neg hm]
          exact ⟨fun h => absurd h (by omega), fun h => absurd h.2 hm⟩
theorem z_tkc_le {tp : Nat → Nat} {P : zK} : z_tkc tp P ≤ 4 := by
  unfold z_tkc
  split
  · omega
  · split
    · omega
    · split
      · omega
      · split <;> omega
section ZC
variable {N : Nat} {R : Nat → Nat → Nat} {q n w c : Nat} {P : zK} {tp : Nat → Nat} {I K : Nat → Nat → Int32}
theorem c_isWord (hN : 5000 ≤ N) (hR : sR R q) (hn : n ≤ 700) (htp : ∀ i, i < n → tp i < 256) (hT : zTk tp n P) (h : zCT tp n P I) (hw : w < 16) (hw1 : 1 ≤ w) : f_X5_isWord N R 1 (1000 + w) I = some ((if z_isw tp P w = true then nI 1 else nI 0), I) := by
  obtain ⟨⟨h1, ht, h5, h8⟩, h3, h4, -, -⟩ := h
  obtain ⟨t1, t2, t3, -, -⟩ := hT
  obtain ⟨l7, lc⟩ := z_wl w hw hw1
  have e0 := z_sln w
  by_cases hk : P.1 = 2
  · by_cases hl : P.2.2 - P.2.1 = sm_len.getD w 0
    · have L := zfs_loop (fun m j (_ : Unit) => f_X5_isWord_31 N R m 1 (1000 + w) (nI (P.2.1 + j)) I) (fun i => decide (¬ tp (P.2.1 + i) = z_chr w i)) (fun _ _ => True) (fun o y => y = ((if o = none then nI 1 else nI 0), I)) (sm_len.getD w 0)
        (fun m s _ => ⟨(nI 1, I), by simp (disch := omega) only [f_X5_isWord_31, kd_1, h5, zl_1, nI_leI, gd_t, gd_pos, if_pos], rfl⟩)
        (fun m j s hj _ hc => by
          have hc := of_decide_eq_true hc
          have hb := htp (P.2.1 + j) (by omega)
          have hx := ht (P.2.1 + j) (by omega)
          have hz := lc j hj
          have e1 := z_schr (w := w) (i := j) (by omega)
          refine ⟨(nI 0, I), ?_, rfl⟩
          simp (disch := omega) only [f_X5_isWord_31, kd_1, kd_2, r1_0 hR, h4, h5, hx, z_ns, Nat.add_sub_cancel_left, pk_sub, e1, zl_0, zl_1, z_i8eq, nI_leI, nI_ltI, nI_clamp, Nat.le_add_right, Nat.add_lt_add_left, gd_t, gd_pos, lt_eq, Option.bind_some, true_and, and_true, not_true, not_false_iff, false_or, or_false, if_true, if_false, if_pos, if_neg])
        (fun m j s hj _ hc => by
          have hc : tp (P.2.1 + j) = z_chr w j := Decidable.of_not_not (fun h => hc (decide_eq_true h))
          have hb := htp (P.2.1 + j) (by omega)
          have hx := ht (P.2.1 + j) (by omega)
          have hz := lc j hj
          have e1 := z_schr (w := w) (i := j) (by omega)
          refine ⟨(), ?_, trivial⟩
          simp (disch := omega) only [f_X5_isWord_31, kd_1, kd_2, r1_0 hR, h4, h5, hx, z_ns, Nat.add_sub_cancel_left, pk_sub, e1, zl_0, zl_1, z_i8eq, nI_leI, nI_ltI, nI_clamp, nI_add, Nat.add_assoc, Nat.le_add_right, Nat.add_lt_add_left, gd_t, gd_pos, lt_eq, Option.bind_some, true_and, and_true, not_true, not_false_iff, false_or, or_false, if_true, if_false, if_pos, if_neg]) (sm_len.getD w 0) 0 () N (by omega) (by omega) trivial
      obtain ⟨y, l1, l2⟩ := L
      rw [l2] at l1
      have e2 : (if z_isw tp P w = true then nI 1 else nI 0) = (if z_wx tp P.2.1 w = none then nI 1 else nI 0) := by
        by_cases hx : z_wx tp P.2.1 w = none
        · rw [if_pos (z_isw_t hk hl hx), if_pos hx]
        · rw [if_neg (fun h => hx (z_isw_e h).2.2), if_neg hx]
      rw [e2]
      refine Eq.trans ?_ l1
      simp (disch := omega) only [f_X5_isWord, kd_1, h3, h4, h5, hk, e0, hl, z_ns, zl_2, pk_sub, nI_eq, Nat.le_add_right, Nat.add_lt_add_left, Nat.add_zero, gd_t, gd_pos, lt_eq, Option.bind_some, true_and, and_true, not_true, not_false_iff, false_or, or_false, if_true, if_false, if_pos, if_neg]
    · rw [if_neg (fun h => hl (z_isw_e h).2.1)]
      simp (disch := omega) only [f_X5_isWord, kd_1, h3, h4, h5, hk, e0, z_ns, zl_0, zl_2, pk_sub, nI_eq, Nat.le_add_right, Nat.add_lt_add_left, gd_t, gd_pos, lt_eq, Option.bind_some, true_and, and_true, not_true, not_false_iff, false_or, or_false, if_true, if_false, if_pos, if_neg]
  · rw [if_neg (fun h => hk (z_isw_e h).1)]
    simp (disch := omega) only [f_X5_isWord, kd_1, h3, zl_0, zl_2, nI_eq, gd_t, gd_pos, if_neg]
theorem c_isWord_f (h3 : I 1 3 = nI 4) : f_X5_isWord N R 1 (1000 + w) I = some (nI 0, I) := by
  simp (disch := omega) only [f_X5_isWord, kd_1, h3, zl_0, zl_2, nI_eq, gd_t, gd_pos, if_neg]
theorem c_isSign (hT : zTk tp n P) (hn : n ≤ 700) (htp : ∀ i, i < n → tp i < 256) (h : zCT tp n P I) (hc : c < 128) : f_X5_isSign N R 1 (nI c) I = some ((if z_sg tp P c = true then nI 1 else nI 0), I) := by
  obtain ⟨⟨h1, ht, h5, h8⟩, h3, h4, -, h7⟩ := h
  obtain ⟨t1, t2, t3, t4, -⟩ := hT
  by_cases hk : P.1 = 3
  · have hb := htp P.2.1 (by omega)
    have g7 := h7 hk
    by_cases hx : tp P.2.1 = c
    · rw [if_pos (z_sg_t hk hx)]
      simp (disch := omega) only [f_X5_isSign, kd_1, h3, hk, g7, z_i8eq, zl_0, zl_1, zl_3, gd_t, gd_pos, if_true, if_pos]
    · rw [if_neg (fun h => hx (z_sg_e h).2)]
      simp (disch := omega) only [f_X5_isSign, kd_1, h3, hk, g7, z_i8eq, zl_0, zl_1, zl_3, gd_t, gd_pos, if_true, if_neg]
  · rw [if_neg (fun h => hk (z_sg_e h).1)]
    simp (disch := omega) only [f_X5_isSign, kd_1, h3, zl_0, zl_3, nI_eq, gd_t, gd_pos, if_neg]
theorem c_isSign_f (h3 : I 1 3 = nI 4) (x : Int32) : f_X5_isSign N R 1 x I = some (nI 0, I) := by
  simp (disch := omega) only [f_X5_isSign, kd_1, h3, zl_0, zl_3, nI_eq, gd_t, gd_pos, if_neg]
end ZC
section ZM
variable {N : Nat} {R : Nat → Nat → Nat} {q n w c e : Nat} {P : zK} {tp : Nat → Nat} {K : Nat → Nat → Int32}
theorem m_is0 (hN : 5000 ≤ N) : f_X12_is_39 N R N 80 w (nI 0) (nI 0) K = some (nI 0, K) := by
  obtain ⟨m, hm⟩ : ∃ m, N = m + 1 := ⟨N - 1, by omega⟩
  rw [show f_X12_is_39 N R N = f_X12_is_39 N R (m + 1) by rw [← hm]]
  simp (disch := omega) only [f_X12_is_39, zl_0, zl_1, true_or, gd_t, gd_pos, if_true]
theorem m_is (hN : 5000 ≤ N) (hR : sR R q) (hn : n ≤ 700) (htp : ∀ i, i < n → tp i < 256) (hT : zTk tp n P) (h : zMT tp n P K) (hw : w < 16) (hw1 : 1 ≤ w) : f_X12_is N R 80 (1000 + w) K = some ((if z_isw tp P w = true then nI 1 else nI 0), K) := by
  obtain ⟨⟨h17, ht, h16, h22⟩, h18, h20, h21, -⟩ := h
  obtain ⟨t1, t2, t3, -, -⟩ := hT
  obtain ⟨l7, lc⟩ := z_wl w hw hw1
  have e0 := z_sln w
  have k4 := z_tkc_le (tp := tp) (P := P)
  have z0 := m_is0 (N := N) (R := R) (w := 1000 + w) (K := K) hN
  by_cases hk : P.1 = 2
  · have hk1 : z_tkc tp P = 1 := z_tkc_w.mpr hk
    rw [hk1] at h18
    by_cases hl : P.2.2 - P.2.1 = sm_len.getD w 0
    · have L := zfs_loop (fun m j (_ : Unit) => f_X12_is_39 N R m 80 (1000 + w) (nI 1) (nI j) K) (fun i => decide (¬ tp (P.2.1 + i) = z_chr w i)) (fun _ _ => True) (fun o y => y = ((if o = none then nI 1 else nI 0), K)) (sm_len.getD w 0)
        (fun m s _ => ⟨(nI 1, K), by simp (disch := omega) only [f_X12_is_39, e0, z_ns, zl_0, zl_1, nI_eq, nI_leI, or_true, Nat.le_add_right, Nat.add_lt_add_left, gd_t, gd_pos, and_true, if_pos, if_neg], rfl⟩)
        (fun m j s hj _ hc => by
          have hc := of_decide_eq_true hc
          have hb := htp (P.2.1 + j) (by omega)
          have hx := ht (P.2.1 + j) (by omega)
          have hz := lc j hj
          have e1 := z_schr (w := w) (i := j) (by omega)
          have hc2 : ¬ z_chr w j = tp (P.2.1 + j) := fun h => hc h.symm
          refine ⟨(nI 0, K), ?_, rfl⟩
          simp (disch := omega) only [f_X12_is_39, kd_80, r80_14 hR, kd_94, h20, hx, e0, e1, z_ns, Nat.add_sub_cancel_left, zl_0, zl_1, nI_leI, nI_ltI, nI_eq, nI_add, nI_clamp, true_or, Nat.le_add_right, Nat.add_lt_add_left, gd_t, gd_pos, lt_eq, Option.bind_some, true_and, and_true, not_true, not_false_iff, false_or, or_false, if_true, if_false, if_pos, if_neg])
        (fun m j s hj _ hc => by
          have hc : tp (P.2.1 + j) = z_chr w j := Decidable.of_not_not (fun h => hc (decide_eq_true h))
          have hb := htp (P.2.1 + j) (by omega)
          have hx := ht (P.2.1 + j) (by omega)
          rw [hc] at hx
          have hz := lc j hj
          have e1 := z_schr (w := w) (i := j) (by omega)
          refine ⟨(), ?_, trivial⟩
          simp (disch := omega) only [f_X12_is_39, kd_80, r80_14 hR, kd_94, h20, hx, e0, e1, z_ns, Nat.add_sub_cancel_left, zl_0, zl_1, nI_leI, nI_ltI, nI_eq, nI_add, nI_clamp, Nat.le_add_right, Nat.add_lt_add_left, gd_t, gd_pos, lt_eq, Option.bind_some, true_and, and_true, not_true, not_false_iff, false_or, or_false, if_true, if_false, if_pos, if_neg]) (sm_len.getD w 0) 0 () N (by omega) (by omega) trivial
      obtain ⟨y, l1, l2⟩ := L
      rw [l2] at l1
      have e2 : (if z_isw tp P w = true then nI 1 else nI 0) = (if z_wx tp P.2.1 w = none then nI 1 else nI 0) := by
        by_cases hx : z_wx tp P.2.1 w = none
        · rw [if_pos (z_isw_t hk hl hx), if_pos hx]
        · rw [if_neg (fun h => hx (z_isw_e h).2.2), if_neg hx]
      rw [e2]
      refine Eq.trans ?_ l1
      simp (disch := omega) only [f_X12_is, kd_80, h18, h20, h21, h22, e0, hl, z_ns, zl_0, zl_1, pk_sub, nI_eq, Nat.le_add_right, Nat.add_lt_add_left, gd_t, gd_pos, lt_eq, Option.bind_some, true_and, and_true, not_true, not_false_iff, false_or, or_false, if_true, if_false, if_pos, if_neg]
    · rw [if_neg (fun h => hl (z_isw_e h).2.1)]
      have hl2 : ¬ sm_len.getD w 0 = P.2.2 - P.2.1 := fun h => hl h.symm
      simp (disch := omega) only [f_X12_is, kd_80, h18, h20, h21, h22, e0, z0, z_ns, zl_0, zl_1, pk_sub, nI_eq, Nat.le_add_right, Nat.add_lt_add_left, gd_t, gd_pos, lt_eq, Option.bind_some, true_and, and_true, not_true, not_false_iff, false_or, or_false, if_true, if_false, if_pos, if_neg]
  · rw [if_neg (fun h => hk (z_isw_e h).1)]
    have hk1 : ¬ z_tkc tp P = 1 := fun h => hk (z_tkc_w.mp h)
    simp (disch := omega) only [f_X12_is, kd_80, h18, h22, z0, zl_0, zl_1, nI_eq, gd_t, gd_pos, if_true, if_neg]
theorem m_is_f (hN : 5000 ≤ N) (h22 : K 80 22 = nI e) (he : 1 ≤ e) (he5 : e ≤ 5) : f_X12_is N R 80 (1000 + w) K = some (nI 0, K) := by
  have z0 := m_is0 (N := N) (R := R) (w := 1000 + w) (K := K) hN
  simp (disch := omega) only [f_X12_is, kd_80, h22, z0, zl_0, nI_eq, gd_t, gd_pos, if_neg]
theorem m_isMarked (hR : sR R q) (hn : n ≤ 700) (htp : ∀ i, i < n → tp i < 256) (hT : zTk tp n P) (h : zMT tp n P K) (hc : c < 128) (hm : z_mk c = true) : f_X12_isMarked N R 80 (nI c) K = some ((if z_sg tp P c = true then nI 1 else nI 0), K) := by
  obtain ⟨⟨h17, ht, h16, h22⟩, h18, h20, h21, -⟩ := h
  obtain ⟨t1, t2, t3, t4, -⟩ := hT
  have k4 := z_tkc_le (tp := tp) (P := P)
  by_cases hk : z_tkc tp P = 3
  · obtain ⟨hk3, hk4⟩ := (z_tkc_s t1).mp hk
    rw [hk] at h18
    have hb := htp P.2.1 (by omega)
    have hx := ht P.2.1 (by omega)
    by_cases hy : tp P.2.1 = c
    · rw [if_pos (z_sg_t hk3 hy)]
      simp (disch := omega) only [f_X12_isMarked, kd_80, r80_14 hR, kd_94, h18, h20, h22, hx, zl_0, zl_1, zl_3, nI_leI, nI_ltI, nI_eq, nI_clamp, gd_t, gd_pos, lt_eq, Option.bind_some, true_and, and_true, not_true, not_false_iff, false_or, or_false, if_true, if_false, if_pos, if_neg]
    · rw [if_neg (fun h => hy (z_sg_e h).2)]
      simp (disch := omega) only [f_X12_isMarked, kd_80, r80_14 hR, kd_94, h18, h20, h22, hx, zl_0, zl_1, zl_3, nI_leI, nI_ltI, nI_eq, nI_clamp, gd_t, gd_pos, lt_eq, Option.bind_some, true_and, and_true, not_true, not_false_iff, false_or, or_false, if_true, if_false, if_pos, if_neg]
  · rw [if_neg (fun h => hk ((z_tkc_s t1).mpr ⟨(z_sg_e h).1, by rw [(z_sg_e h).2]; exact hm⟩))]
    simp (disch := omega) only [f_X12_isMarked, kd_80, h18, h22, zl_0, zl_3, nI_eq, gd_t, gd_pos, if_true, if_neg]
theorem m_isMarked_f (h22 : K 80 22 = nI e) (he : 1 ≤ e) (he5 : e ≤ 5) (x : Int32) : f_X12_isMarked N R 80 x K = some (nI 0, K) := by
  simp (disch := omega) only [f_X12_isMarked, kd_80, h22, zl_0, nI_eq, gd_t, gd_pos, if_neg]
theorem m_which (hN : 5000 ≤ N) (hR : sR R q) (hn : n ≤ 700) (htp : ∀ i, i < n → tp i < 256) (hT : zTk tp n P) (h : zMT tp n P K) {a l w0 : Nat} (ha : sm_kd a = (17, l)) (hl : l ≤ 6) (hw : w0 + l ≤ 16) (hw1 : 1 ≤ w0) (hr : ∀ k, k < l → R a k = 1000 + (w0 + k)) : f_X12_which N R 80 a K = some (zn1 (zfs (fun k => z_isw tp P (w0 + k)) l 0), K) := by
  have L := zfs_loop (fun m k (_ : Unit) => f_X12_which_2 N R m 80 a (nI k) K) (fun k => z_isw tp P (w0 + k)) (fun _ _ => True) (fun o y => y = (zn1 o, K)) l
    (fun m s _ => ⟨_, by simp (disch := omega) only [f_X12_which_2, ha, zl_ofNat, nI_leI, gd_t, gd_pos, if_pos]; rfl, rfl⟩)
    (fun m k s hk _ hc => by
      have e := m_is (N := N) hN hR hn htp hT h (w := w0 + k) (by omega) (by omega)
      rw [if_pos hc] at e
      have e2 := hr k hk
      refine ⟨(nI k, K), ?_, rfl⟩
      simp (disch := omega) only [f_X12_which_2, kd_80, ha, e2, e, zl_0, zl_1, zl_ofNat, nI_leI, nI_ltI, nI_eq, nI_clamp, gd_t, gd_pos, lt_eq, Option.bind_some, true_and, and_true, not_true, not_false_iff, false_or, or_false, if_true, if_false, if_pos, if_neg])
    (fun m k s hk _ hc => by
      have e := m_is (N := N) hN hR hn htp hT h (w := w0 + k) (by omega) (by omega)
      rw [if_neg hc] at e
      have e2 := hr k hk
      refine ⟨(), ?_, trivial⟩
      simp (disch := omega) only [f_X12_which_2, kd_80, ha, e2, e, zl_0, zl_1, zl_ofNat, nI_leI, nI_ltI, nI_add, nI_clamp, gd_t, gd_pos, lt_eq, Option.bind_some, true_and, and_true, not_true, not_false_iff, false_or, or_false, if_true, if_false, if_pos, if_neg]) l 0 () N (by omega) (by omega) trivial
  obtain ⟨y, l1, l2⟩ := L
  rw [l2] at l1
  exact l1
end ZM
