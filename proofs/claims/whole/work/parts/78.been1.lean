/-! ===== PURE PART: been: what was seen of a pupil ===== -/
def z_sx (ns : Nat) (sn : Nat → Nat × Nat × Nat) (p w b : Nat) : Option Nat := zfs (fun i => decide ((sn i).1 = p ∧ (sn i).2.1 = w ∧ ¬ (sn i).2.2 = b)) ns 0
def z_lw (sn : Nat → Nat × Nat × Nat) (p : Nat) : Nat → Nat
  | 0 => 0
  | n + 1 => if (sn n).1 = p then max (z_lw sn p n) (sn n).2.1 else z_lw sn p n
def z_ga (pl : zP) (w : Nat) : zP := if w = 0 then pl else sm_up pl 4 (pl 4 ||| 2 ^ (w - 1))
section ZC
variable {N : Nat} {R : Nat → Nat → Nat} {q nu ns : Nat} {sn : Nat → Nat × Nat × Nat} {I : Nat → Nat → Int32}
theorem z_lw_le (hk : zNok nu ns sn) (p : Nat) : ∀ n, n ≤ ns → z_lw sn p n ≤ 20
  | 0, _ => Nat.zero_le _
  | n + 1, h => by
    have h1 := z_lw_le hk p n (by omega)
    have h2 := (hk.2 n (by omega)).2.2.1
    unfold z_lw
    split <;> omega
theorem c_spk (hN : 5000 ≤ N) (hR : sR R q) (hk : zNok nu ns sn) (h7 : nu ≤ 7) (h : zCN ns sn 43 I) {p w b : Nat} (hp : p < 7) (hw : w ≤ 20) (hb : b ≤ 8) : f_X9_speaksAgainst N R 43 (nI p) (nI w) (nI b) I = some ((if z_sx ns sn p w b = none then 0 else 1), I) := by
  have h3 := h.1
  have h8 := hk.1
  have L := zfs_loop (fun n i (_ : Unit) => f_X9_speaksAgainst_3 N R n 43 (nI p) (nI w) (nI b) (nI i) I) (fun i => decide ((sn i).1 = p ∧ (sn i).2.1 = w ∧ ¬ (sn i).2.2 = b)) (fun _ _ => True) (fun o y => y = ((if o = none then 0 else 1), I)) ns
    (fun n s _ => ⟨(0, I), by simp (disch := omega) only [f_X9_speaksAgainst_3, kd_43, h3, nI_leI, gd_t, gd_pos, if_pos], rfl⟩)
    (fun n i s hi _ hc => by
      obtain ⟨h1, h2, h4⟩ := of_decide_eq_true hc
      obtain ⟨g1, g2, g3⟩ := h.2 i hi
      obtain ⟨o1, o2, o3, o4⟩ := hk.2 i hi
      refine ⟨(1, I), ?_, rfl⟩
      simp (disch := omega) only [f_X9_speaksAgainst_3, kd_43, kd_44, kd_45, kd_46, r43_0 hR, r43_1 hR, r43_2 hR, h3, g1, g2, g3, zl_0, nI_leI, nI_ltI, nI_eq, nI_clamp, gd_t, gd_pos, lt_eq, Option.bind_some, true_and, and_true, not_true, not_false_iff, false_or, or_false, if_true, if_false, if_pos, if_neg])
    (fun n i s hi _ hc => by
      have hc : ¬ ((sn i).1 = p ∧ (sn i).2.1 = w ∧ ¬ (sn i).2.2 = b) := fun h => hc (decide_eq_true h)
      obtain ⟨g1, g2, g3⟩ := h.2 i hi
      obtain ⟨o1, o2, o3, o4⟩ := hk.2 i hi
      refine ⟨(), ?_, trivial⟩
      by_cases h1 : (sn i).1 = p
      · by_cases h2 : (sn i).2.1 = w
        · have h4 : (sn i).2.2 = b := Decidable.of_not_not (fun h => hc ⟨h1, h2, h⟩)
          simp (disch := omega) only [f_X9_speaksAgainst_3, kd_43, kd_44, kd_45, kd_46, r43_0 hR, r43_1 hR, r43_2 hR, h3, g1, g2, g3, zl_0, zl_1, nI_add, nI_leI, nI_ltI, nI_eq, nI_clamp, gd_t, gd_pos, lt_eq, Option.bind_some, true_and, and_true, not_true, not_false_iff, false_or, or_false, if_true, if_false, if_pos, if_neg]
        · simp (disch := omega) only [f_X9_speaksAgainst_3, kd_43, kd_44, kd_45, kd_46, r43_0 hR, r43_1 hR, r43_2 hR, h3, g1, g2, g3, zl_0, zl_1, nI_add, nI_leI, nI_ltI, nI_eq, nI_clamp, gd_t, gd_pos, lt_eq, Option.bind_some, true_and, and_true, not_true, not_false_iff, false_or, or_false, if_true, if_false, if_pos, if_neg]
      · simp (disch := omega) only [f_X9_speaksAgainst_3, kd_43, kd_44, kd_45, kd_46, r43_0 hR, r43_1 hR, r43_2 hR, h3, g1, g2, g3, zl_0, zl_1, nI_add, nI_leI, nI_ltI, nI_eq, nI_clamp, gd_t, gd_pos, lt_eq, Option.bind_some, true_and, and_true, not_true, not_false_iff, false_or, or_false, if_true, if_false, if_pos, if_neg]) ns 0 () N (by omega) (by omega) trivial
  obtain ⟨y, l1, l2⟩ := L
  rw [l2] at l1
  exact l1
theorem c_lastWeek (hN : 5000 ≤ N) (hR : sR R q) (hk : zNok nu ns sn) (h7 : nu ≤ 7) (h : zCN ns sn 43 I) {p : Nat} (hp : p < 7) : f_X9_lastWeekOf N R 43 (nI p) I = some (nI (z_lw sn p ns), I) := by
  have h3 := h.1
  have h8 := hk.1
  exact zu_loop (fun n i a => f_X9_lastWeekOf_4 N R n 43 (nI p) a (nI i) I) (fun i => nI (z_lw sn p i)) (nI (z_lw sn p ns), I) ns
    (fun n => by simp (disch := omega) only [f_X9_lastWeekOf_4, kd_43, h3, nI_leI, gd_t, gd_pos, if_pos])
    (fun n i hi => by
      obtain ⟨g1, g2, g3⟩ := h.2 i hi
      obtain ⟨o1, o2, o3, o4⟩ := hk.2 i hi
      have m1 := z_lw_le hk p i (by omega)
      by_cases h1 : (sn i).1 = p
      · have e9 : z_lw sn p (i + 1) = max (z_lw sn p i) (sn i).2.1 := if_pos h1
        rw [e9]
        simp (disch := omega) only [f_X9_lastWeekOf_4, kd_43, kd_44, kd_45, r43_0 hR, r43_1 hR, h3, g1, g2, mx_nI, zl_0, zl_1, nI_add, nI_leI, nI_ltI, nI_eq, nI_clamp, gd_t, gd_pos, lt_eq, Option.bind_some, true_and, and_true, not_true, not_false_iff, false_or, or_false, if_true, if_false, if_pos, if_neg]
      · have e9 : z_lw sn p (i + 1) = z_lw sn p i := if_neg h1
        rw [e9]
        simp (disch := omega) only [f_X9_lastWeekOf_4, kd_43, kd_44, kd_45, r43_0 hR, r43_1 hR, h3, g1, g2, zl_0, zl_1, nI_add, nI_leI, nI_ltI, nI_eq, nI_clamp, gd_t, gd_pos, lt_eq, Option.bind_some, true_and, and_true, not_true, not_false_iff, false_or, or_false, if_true, if_false, if_pos, if_neg]) ns 0 N (by omega) (by omega)
end ZC
