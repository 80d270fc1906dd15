/-! ===== PURE PART: listen: the model ===== -/
def zNl : List Nat := [95, 96, 97, 98, 99, 101, 102, 112]
def zNf : List Nat := [31, 32]
theorem zl_ten2 : (100 : Int32) = nI 100 := rfl
section ZM
variable {N : Nat} {R : Nat → Nat → Nat} {q nu wk pn : Nat} {S : zS} {I : Nat → Nat → Int32} {V : Nat → zP}
theorem m_l81 (hN : 5000 ≤ N) (hR : sR R q) {i v : Nat} (hi : i < 140) (kk : Nat → Int32 → Int32 → (Nat → Nat → Int32) → Option (Int32 × (Nat → Nat → Int32))) : ∃ J, f_X12_listen_81 N R kk N 80 (nI v) (nI i) (nI 0) I = ((f_X12_unpack N R 80 103 (nI 0) J).bind fun p3 => kk 80 (nI v) (nI i + 1) p3.2) ∧ (∀ p, p < 7 → J 112 (7 * i + p) = I 95 p) ∧ (∀ x, x < 7 * i ∨ 7 * i + 7 ≤ x → J 112 x = I 112 x) ∧ zfm [112] [] I J := by
  have L := zk_loop (fun n p s => f_X12_listen_81 N R kk n 80 (nI v) (nI i) (nI p) s) (fun s => (f_X12_unpack N R 80 103 (nI 0) s).bind fun p3 => kk 80 (nI v) (nI i + 1) p3.2) (fun p s => (∀ p', p' < p → s 112 (7 * i + p') = I 95 p') ∧ (∀ x, x < 7 * i ∨ 7 * i + 7 ≤ x → s 112 x = I 112 x) ∧ zfm [112] [] I s) 7
    (fun n s hs => by simp (disch := omega) only [f_X12_listen_81, kd_80, r80_37 hR, kd_103, zl_0, zl_7, nI_leI, gd_t, gd_pos, if_pos])
    (fun n p s hp hs => by
      obtain ⟨h1, h2, h3⟩ := hs
      have g95 : s 95 = I 95 := h3.1 95 (by omega) (by simp)
      refine ⟨sm_up s 112 (sm_up (s 112) (7 * i + p) (I 95 p)), ?_, fun p' hp' => ?_, fun x hx => ?_, zfm_up h3 (by simp) (by omega) _⟩
      · simp (disch := omega) only [f_X12_listen_81, kd_80, r80_25 hR, kd_95, r80_46 hR, kd_112, g95, zl_0, zl_1, zl_7, pk_mul, nI_leI, nI_ltI, nI_add, nI_clamp, gd_t, gd_pos, lt_eq, Option.bind_some, true_and, and_true, not_true, not_false_iff, false_or, or_false, if_true, if_false, if_pos, if_neg]
      · rw [up_s]
        by_cases e : p' = p
        · rw [e, up_s]
        · rw [up_n _ _ (by omega)]
          exact h1 p' (by omega)
      · rw [up_s, up_n _ _ (by omega)]
        exact h2 x hx) 7 0 I N (by omega) (by omega) ⟨fun p' h => absurd h (Nat.not_lt_zero p'), fun _ _ => rfl, zfm_refl _ _ _⟩
  obtain ⟨J, l1, l2, l3, l4⟩ := L
  exact ⟨J, l1, l2, l3, l4⟩
theorem m_unl18 (hR : sR R q) {p i tot : Nat} (hp : p < 7) (hi : i < tot) (ht : tot ≤ 140) {w : Nat → Nat} (hw : ∀ k, k < tot → I 112 (7 * k + p) = nI (w k)) (hw9 : ∀ k, k < tot → w k ≤ 99) (kk : Nat → Int32 → Int32 → Int32 → (Nat → Nat → Int32) → Option (Int32 × (Nat → Nat → Int32))) (a : Int32) : ∀ (d k n : Nat), k + d = i → d + 1 < n → (∀ k', k' < k → w i ≠ w k') → f_X12_unlike_18 N R kk n 80 (nI p) a (nI i) (nI 1) (nI k) I = f_X12_unlike_68 N R kk 80 (nI p) a (nI i) (if z_vb w i (w i) = true then nI 0 else nI 1) I
  | 0, k, n + 1, h1, h2, hk => by
    have e : ¬ z_vb w i (w i) = true := fun h => by
      obtain ⟨k', a1, a2⟩ := (z_vb_iff i).mp h
      exact hk k' (by omega) a2
    rw [if_neg e]
    simp (disch := omega) only [f_X12_unlike_18, nI_leI, if_pos]
  | d + 1, k, n + 2, h1, h2, hk => by
    have g1 := hw k (by omega)
    have g2 := hw i hi
    have o1 := hw9 k (by omega)
    have o2 := hw9 i hi
    by_cases hc : w k = w i
    · have e : z_vb w i (w i) = true := (z_vb_iff i).mpr ⟨k, by omega, hc.symm⟩
      rw [if_pos e]
      have e2 : f_X12_unlike_18 N R kk (n + 1) 80 (nI p) a (nI i) (nI 0) (nI (k + 1)) I = f_X12_unlike_68 N R kk 80 (nI p) a (nI i) (nI 0) I := by
        by_cases h : i ≤ k + 1
        · simp (disch := omega) only [f_X12_unlike_18, nI_leI, if_pos]
        · simp (disch := omega) only [f_X12_unlike_18, zl_0, nI_leI, if_neg, if_true]
      refine Eq.trans ?_ e2
      simp (disch := omega) only [f_X12_unlike_18, kd_80, r80_46 hR, kd_112, g1, g2, zl_0, zl_1, zl_7, pk_mul, nI_leI, nI_ltI, nI_eq, nI_add, nI_clamp, gd_t, gd_pos, lt_eq, Option.bind_some, true_and, and_true, not_true, not_false_iff, false_or, or_false, if_true, if_false, if_pos, if_neg]
    · have ih := m_unl18 hR hp hi ht hw hw9 kk a d (k + 1) (n + 1) (by omega) (by omega) (fun k' hk' => by
        by_cases e : k' = k
        · rw [e]
          exact fun h => hc h.symm
        · exact hk k' (by omega))
      refine Eq.trans ?_ ih
      simp (disch := omega) only [f_X12_unlike_18, kd_80, r80_46 hR, kd_112, g1, g2, zl_0, zl_1, zl_7, pk_mul, nI_leI, nI_ltI, nI_eq, nI_add, nI_clamp, gd_t, gd_pos, lt_eq, Option.bind_some, true_and, and_true, not_true, not_false_iff, false_or, or_false, if_true, if_false, if_pos, if_neg]
  | 0, _, 0, _, h2, _ => absurd h2 (Nat.not_lt_zero _)
  | d + 1, _, 0, _, h2, _ => absurd h2 (Nat.not_lt_zero _)
  | d + 1, _, 1, _, h2, _ => absurd h2 (by omega)
theorem m_unlike (hN : 5000 ≤ N) (hR : sR R q) {p tot : Nat} (hp : p < 7) (ht : tot ≤ 140) (h47 : I 80 47 = nI tot) {w : Nat → Nat} (hw : ∀ k, k < tot → I 112 (7 * k + p) = nI (w k)) (hw9 : ∀ k, k < tot → w k ≤ 99) : f_X12_unlike N R 80 (nI p) I = some (nI (zcn (z_vb w tot) 100), I) := by
  have e0 : zcn (z_vb w 0) 100 = 0 := zcn_0 100 (fun j _ h => by cases h)
  have L := zu_loop (fun n i a => f_X12_unlike_4 N R n 80 (nI p) a (nI i) I) (fun i => nI (zcn (z_vb w i) 100)) (nI (zcn (z_vb w tot) 100), I) tot
    (fun n => by simp (disch := omega) only [f_X12_unlike_4, kd_80, h47, nI_leI, gd_t, gd_pos, if_pos])
    (fun n i hi => by
      have e1 := m_unl18 (N := N) (I := I) hR hp hi ht hw hw9 (fun z0 z1 z2 z3 J => f_X12_unlike_4 N R n z0 z1 z2 z3 J) (nI (zcn (z_vb w i) 100)) i 0 N (by omega) (by omega) (fun k' h => absurd h (Nat.not_lt_zero k'))
      have e2 : zcn (z_vb w (i + 1)) 100 = zcn (z_vb w i) 100 + (if z_vb w i (w i) = true then 0 else 1) := zcn_ad (by have := hw9 i hi; omega)
      have e3 : f_X12_unlike_4 N R (n + 1) 80 (nI p) (nI (zcn (z_vb w i) 100)) (nI i) I = f_X12_unlike_18 N R (fun z0 z1 z2 z3 J => f_X12_unlike_4 N R n z0 z1 z2 z3 J) N 80 (nI p) (nI (zcn (z_vb w i) 100)) (nI i) (nI 1) (nI 0) I := by
        simp (disch := omega) only [f_X12_unlike_4, kd_80, h47, zl_0, zl_1, nI_leI, gd_t, gd_pos, if_neg]
      rw [e2]
      refine e3.trans (e1.trans ?_)
      by_cases hc : z_vb w i (w i) = true
      · rw [if_pos hc, if_pos hc]
        simp (disch := omega) only [f_X12_unlike_68, zl_0, zl_1, nI_add, nI_eq, if_true]
      · rw [if_neg hc, if_neg hc]
        simp (disch := omega) only [f_X12_unlike_68, zl_0, zl_1, nI_add, nI_eq, if_neg]) tot 0 N (by omega) (by omega)
  rw [e0] at L
  exact L
end ZM
