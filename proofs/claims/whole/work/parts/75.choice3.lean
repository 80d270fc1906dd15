/-! ===== PURE PART: choice: the model's table ===== -/
theorem z_cl6q : ∀ l, l < 64 → ∀ w, w < 6 → (l / 2 ^ w % 2 = 1 → nI l &&& (nI (2 ^ w) ^^^ (-nI 1)) = nI (l - 2 ^ w)) := by decide +kernel
theorem z_sl6 : ∀ p, p < 9 → nI p <<< (nI 6 &&& 31) = nI (p * 64) := by decide +kernel
theorem z_bl6 : ∀ np, np < 7 → ∀ l, l < 64 → ∀ w, w < 6 → (l < 2 ^ np → l - 2 ^ w < 2 ^ np) := by decide +kernel
section ZM
variable {N : Nat} {R : Nat → Nat → Nat} {q : Nat} {S : zS} {nu : Nat} {V : Nat → zP} {I : Nat → Nat → Int32}
/-- what the model's table holds from pupil p on -/
def zTb (np : Nat) (ft : Nat → Nat → Nat) (nu p : Nat) (f : Nat → Int32) : Prop := ∀ a, p ≤ a → a ≤ nu → ∀ l, l < 2 ^ np → f (a * 64 + l) = nI (z_me np ft (nu - a) a l)
theorem m_with (hN : 5000 ≤ N) (hR : sR R q) (hso : z_sok S) (hS : zMS S I) (hV : zMV nu V I) (h7 : nu ≤ 7) (h9 : ∀ p, p < nu → V p 0 ≤ 99) {p l w : Nat} (hp : p < nu) (hl : l < 2 ^ z_np S) (hw : w < z_np S) (hb : l / 2 ^ w % 2 = 1) (ht : zTb (z_np S) (z_fw S V) nu (p + 1) (I 105)) : f_X12_with N R 80 (nI p) (nI l) (nI w) I = some (nI (z_fw S V p w + z_me (z_np S) (z_fw S V) (nu - (p + 1)) (p + 1) (l - 2 ^ w)), I) := by
  have h6 := hso.1
  have h64 : 2 ^ z_np S ≤ 2 ^ 6 := Nat.pow_le_pow_right (by omega) h6
  have e1 := m_fitOf (N := N) hN hR hso hS hV h7 hp (h9 p hp) hw
  have e2 := z_cl6q l (by omega) w (by omega) hb
  have e3 := z_sl6 (p + 1) (by omega)
  have e4 := z_bl6 (z_np S) (by omega) l (by omega) w (by omega) hl
  have e5 := ht (p + 1) (by omega) (by omega) (l - 2 ^ w) e4
  unfold z_fw
  unfold z_fw at e5
  simp (disch := omega) only [f_X12_with, kd_80, r80_39 hR, kd_105, e1, e2, e3, e5, nn_m1, if_false, zb_shl, zl_0, zl_1, zl_6, nI_add, nI_ltI, nI_leI, nI_clamp, gd_t, gd_pos, lt_eq, Option.bind_some, true_and, and_true, not_true, not_false_iff, false_or, or_false, if_true, if_false, if_pos, if_neg]
theorem m_with0 (hR : sR R q) (h6 : z_np S ≤ 6) (h7 : nu ≤ 7) {p l : Nat} (hp : p < nu) (hl : l < 2 ^ z_np S) (ht : zTb (z_np S) (z_fw S V) nu (p + 1) (I 105)) : f_X12_with N R 80 (nI p) (nI l) (-nI 1) I = some (nI (z_me (z_np S) (z_fw S V) (nu - (p + 1)) (p + 1) l), I) := by
  have h64 : 2 ^ z_np S ≤ 2 ^ 6 := Nat.pow_le_pow_right (by omega) h6
  have e3 := z_sl6 (p + 1) (by omega)
  have e5 := ht (p + 1) (by omega) (by omega) l hl
  simp (disch := omega) only [f_X12_with, kd_80, r80_39 hR, kd_105, e3, e5, zl_0, zl_1, zl_6, nI_add, nI_ltI, nI_leI, nI_clamp, gd_t, gd_pos, lt_eq, Option.bind_some, true_and, and_true, not_true, not_false_iff, false_or, or_false, if_true, if_false, if_pos, if_neg]
theorem m_t71 (hN : 5000 ≤ N) (hR : sR R q) (hso : z_sok S) (hS : zMS S I) (hV : zMV nu V I) (h7 : nu ≤ 7) (h9 : ∀ p, p < nu → V p 0 ≤ 99) {p l : Nat} (hp : p < nu) (hl : l < 2 ^ z_np S) (ht : zTb (z_np S) (z_fw S V) nu (p + 1) (I 105)) (kk : Nat → Int32 → Int32 → Int32 → (Nat → Nat → Int32) → Option (Unit × (Nat → Nat → Int32))) (a1 : Int32) : f_X12_tellMost_71 N R kk N 80 a1 (nI p) (nI l) (nI (z_me (z_np S) (z_fw S V) (nu - (p + 1)) (p + 1) l)) (nI 0) I = kk 80 a1 (nI p) (nI (l + 1)) (sm_up I 105 (sm_up (I 105) (p * 64 + l) (nI (z_me (z_np S) (z_fw S V) (nu - p) p l)))) := by
  have h6 := hso.1
  have h64 : 2 ^ z_np S ≤ 2 ^ 6 := Nat.pow_le_pow_right (by omega) h6
  have c1 := hS.1
  have e3 := z_sl6 p (by omega)
  have hd : nu - p = nu - (p + 1) + 1 := by omega
  have hf := z_fw_le hso (V := V)
  exact zu_loop2 (fun n i a => f_X12_tellMost_71 N R kk n 80 a1 (nI p) (nI l) a (nI i) I) (fun i => nI (z_mi (z_me (z_np S) (z_fw S V) (nu - (p + 1)) (p + 1) l) (fun w => z_fw S V p w + z_me (z_np S) (z_fw S V) (nu - (p + 1)) (p + 1) (l - 2 ^ w)) (fun w => decide (l / 2 ^ w % 2 = 1)) i)) (kk 80 a1 (nI p) (nI (l + 1)) (sm_up I 105 (sm_up (I 105) (p * 64 + l) (nI (z_me (z_np S) (z_fw S V) (nu - p) p l))))) (z_np S)
    (fun n => by
      have e9 : z_mi (z_me (z_np S) (z_fw S V) (nu - (p + 1)) (p + 1) l) (fun w => z_fw S V p w + z_me (z_np S) (z_fw S V) (nu - (p + 1)) (p + 1) (l - 2 ^ w)) (fun w => decide (l / 2 ^ w % 2 = 1)) (z_np S) = z_me (z_np S) (z_fw S V) (nu - p) p l := by rw [hd]; rfl
      rw [e9]
      simp (disch := omega) only [f_X12_tellMost_71, kd_80, r80_4 hR, kd_84, r80_39 hR, kd_105, c1, e3, zl_0, zl_1, zl_6, nI_add, nI_ltI, nI_leI, nI_clamp, gd_t, gd_pos, lt_eq, Option.bind_some, true_and, and_true, not_true, not_false_iff, false_or, or_false, if_true, if_false, if_pos, if_neg])
    (fun n i hi => by
      have e := m_isOf (N := N) (R := R) (I := I) (n := l) (j := i) (by omega) (by omega)
      have m1 : z_mi (z_me (z_np S) (z_fw S V) (nu - (p + 1)) (p + 1) l) (fun w => z_fw S V p w + z_me (z_np S) (z_fw S V) (nu - (p + 1)) (p + 1) (l - 2 ^ w)) (fun w => decide (l / 2 ^ w % 2 = 1)) i ≤ 8 * (nu - (p + 1) + 1) := z_mi_le (by have := z_me_le hf (nu - (p + 1)) (p + 1) l; omega) i (fun w hw _ => by
        have h2 := z_me_le hf (nu - (p + 1)) (p + 1) (l - 2 ^ w)
        have h3 := hf p w (by omega)
        show z_fw S V p w + z_me (z_np S) (z_fw S V) (nu - (p + 1)) (p + 1) (l - 2 ^ w) ≤ _
        omega)
      have m2 := z_me_le hf (nu - (p + 1)) (p + 1) (l - 2 ^ i)
      have m3 := hf p i hi
      by_cases hb : l / 2 ^ i % 2 = 1
      · rw [if_pos hb] at e
        have ew := m_with (N := N) hN hR hso hS hV h7 h9 hp hl hi hb ht
        have e9 : z_mi (z_me (z_np S) (z_fw S V) (nu - (p + 1)) (p + 1) l) (fun w => z_fw S V p w + z_me (z_np S) (z_fw S V) (nu - (p + 1)) (p + 1) (l - 2 ^ w)) (fun w => decide (l / 2 ^ w % 2 = 1)) (i + 1) = max (z_mi (z_me (z_np S) (z_fw S V) (nu - (p + 1)) (p + 1) l) (fun w => z_fw S V p w + z_me (z_np S) (z_fw S V) (nu - (p + 1)) (p + 1) (l - 2 ^ w)) (fun w => decide (l / 2 ^ w % 2 = 1)) i) (z_fw S V p i + z_me (z_np S) (z_fw S V) (nu - (p + 1)) (p + 1) (l - 2 ^ i)) := if_pos (decide_eq_true hb)
        rw [e9]
        simp (disch := omega) only [f_X12_tellMost_71, kd_80, r80_4 hR, kd_84, c1, e, ew, mx_nI, zl_0, zl_1, nI_add, nI_ltI, nI_leI, nI_eq, nI_clamp, gd_t, gd_pos, lt_eq, Option.bind_some, true_and, and_true, not_true, not_false_iff, false_or, or_false, if_true, if_false, if_pos, if_neg]
      · rw [if_neg hb] at e
        have e9 : z_mi (z_me (z_np S) (z_fw S V) (nu - (p + 1)) (p + 1) l) (fun w => z_fw S V p w + z_me (z_np S) (z_fw S V) (nu - (p + 1)) (p + 1) (l - 2 ^ w)) (fun w => decide (l / 2 ^ w % 2 = 1)) (i + 1) = z_mi (z_me (z_np S) (z_fw S V) (nu - (p + 1)) (p + 1) l) (fun w => z_fw S V p w + z_me (z_np S) (z_fw S V) (nu - (p + 1)) (p + 1) (l - 2 ^ w)) (fun w => decide (l / 2 ^ w % 2 = 1)) i := if_neg (fun h => hb (of_decide_eq_true h))
        rw [e9]
        simp (disch := omega) only [f_X12_tellMost_71, kd_80, r80_4 hR, kd_84, c1, e, zl_0, zl_1, nI_add, nI_ltI, nI_leI, nI_eq, nI_clamp, gd_t, gd_pos, lt_eq, Option.bind_some, true_and, and_true, not_true, not_false_iff, false_or, or_false, if_true, if_false, if_pos, if_neg]) (z_np S) 0 N (by omega) (by omega)
theorem m_t54 (hN : 5000 ≤ N) (hR : sR R q) (hso : z_sok S) (hS : zMS S I) (hV : zMV nu V I) (h7 : nu ≤ 7) (h9 : ∀ p, p < nu → V p 0 ≤ 99) {p : Nat} (hp : p < nu) (kk : Nat → Int32 → Int32 → (Nat → Nat → Int32) → Option (Unit × (Nat → Nat → Int32))) {s : Nat → Nat → Int32} (hs : zfm [105] [] I s) (ht : zTb (z_np S) (z_fw S V) nu (p + 1) (s 105)) : ∃ s', f_X12_tellMost_54 N R kk N 80 (nI (2 ^ z_np S)) (nI p) (nI 0) s = kk 80 (nI (2 ^ z_np S)) (nI p + (-1)) s' ∧ zTb (z_np S) (z_fw S V) nu p (s' 105) ∧ zfm [105] [] I s' := by
  have h6 := hso.1
  have h64 : 2 ^ z_np S ≤ 2 ^ 6 := Nat.pow_le_pow_right (by omega) h6
  have key := zk_loop (fun n l s => f_X12_tellMost_54 N R kk n 80 (nI (2 ^ z_np S)) (nI p) (nI l) s) (fun s => kk 80 (nI (2 ^ z_np S)) (nI p + (-1)) s) (fun d s' => (∀ l, l < d → s' 105 (p * 64 + l) = nI (z_me (z_np S) (z_fw S V) (nu - p) p l)) ∧ zTb (z_np S) (z_fw S V) nu (p + 1) (s' 105) ∧ zfm [105] [] I s') (2 ^ z_np S)
    (fun n s' hs' => by simp (disch := omega) only [f_X12_tellMost_54, nI_leI, if_pos])
    (fun n l s' hl hs' => by
      obtain ⟨g1, g2, g3⟩ := hs'
      have e0 := m_with0 (N := N) hR h6 h7 hp hl g2
      have e := m_t71 hN hR hso (zMS_fr hS g3 (by decide)) (zMV_fr hV g3 (by decide)) h7 h9 hp hl g2 (fun z0 z1 z2 z3 J => f_X12_tellMost_54 N R kk n z0 z1 z2 z3 J) (nI (2 ^ z_np S))
      refine ⟨_, Eq.trans ?_ e, ?_, ?_, zfm_up g3 (by simp) (by omega) _⟩
      · simp (disch := omega) only [f_X12_tellMost_54, kd_80, e0, zl_0, zl_1, nI_leI, gd_t, gd_pos, lt_eq, Option.bind_some, true_and, and_true, not_true, not_false_iff, false_or, or_false, if_true, if_false, if_pos, if_neg]
      · intro k hk
        rw [up_s]
        by_cases he : k = l
        · rw [he, up_s]
        · rw [up_n _ _ (by omega)]
          exact g1 k (by omega)
      · intro a h1 h2 k hk
        rw [up_s, up_n _ _ (by omega)]
        exact g2 a h1 h2 k hk) (2 ^ z_np S) 0 s N (by omega) (by omega) ⟨fun l hl => absurd hl (Nat.not_lt_zero l), ht, hs⟩
  obtain ⟨s', k1, k2, k3, k4⟩ := key
  refine ⟨s', k1, fun a h1 h2 l hl => ?_, k4⟩
  by_cases he : a = p
  · rw [he]
    exact k2 l hl
  · exact k3 a (by omega) h2 l hl
theorem m_tellMost (hN : 5000 ≤ N) (hR : sR R q) (hso : z_sok S) (hS : zMS S I) (hV : zMV nu V I) (h7 : nu ≤ 7) (h9 : ∀ p, p < nu → V p 0 ≤ 99) : ∃ J, f_X12_tellMost N R 80 I = some ((), J) ∧ zTb (z_np S) (z_fw S V) nu 0 (J 105) ∧ zfm [105] [] I J := by
  have h6 := hso.1
  have h64 : 2 ^ z_np S ≤ 2 ^ 6 := Nat.pow_le_pow_right (by omega) h6
  have c1 := hS.1
  have k1 := zk_loop (fun n l s => f_X12_tellMost_11 N R n 80 (nI (2 ^ z_np S)) (nI l) s) (fun s => f_X12_tellMost_48 N R N 80 (nI (2 ^ z_np S)) (nI nu - nI 1) s) (fun d s' => (∀ l, l < d → s' 105 (nu * 64 + l) = nI 0) ∧ zfm [105] [] I s') (2 ^ z_np S)
    (fun n s' hs' => by
      have hV1 := (zMV_fr hV hs'.2 (by decide)).1
      simp (disch := omega) only [f_X12_tellMost_11, kd_80, r80_4 hR, kd_84, hV1, zl_0, zl_1, nI_leI, nI_ltI, nI_clamp, gd_t, gd_pos, lt_eq, Option.bind_some, true_and, and_true, not_true, not_false_iff, false_or, or_false, if_true, if_false, if_pos, if_neg])
    (fun n l s' hl hs' => by
      have hV1 := (zMV_fr hV hs'.2 (by decide)).1
      have e3 := z_sl6 nu (by omega)
      refine ⟨sm_up s' 105 (sm_up (s' 105) (nu * 64 + l) (nI 0)), ?_, ?_, zfm_up hs'.2 (by simp) (by omega) _⟩
      · simp (disch := omega) only [f_X12_tellMost_11, kd_80, r80_4 hR, kd_84, r80_39 hR, kd_105, hV1, e3, zl_0, zl_1, zl_6, nI_add, nI_leI, nI_ltI, nI_clamp, gd_t, gd_pos, lt_eq, Option.bind_some, true_and, and_true, not_true, not_false_iff, false_or, or_false, if_true, if_false, if_pos, if_neg]
      · intro k hk
        rw [up_s]
        by_cases he : k = l
        · rw [he, up_s]
        · rw [up_n _ _ (by omega)]
          exact hs'.1 k (by omega)) (2 ^ z_np S) 0 I N (by omega) (by omega) ⟨fun l hl => absurd hl (Nat.not_lt_zero l), zfm_refl _ _ _⟩
  obtain ⟨J0, p1, p2, p3⟩ := k1
  have k2 := zm_loop (fun n i s => f_X12_tellMost_48 N R n 80 (nI (2 ^ z_np S)) (nI (nu - i) - nI 1) s) (fun i s => zTb (z_np S) (z_fw S V) nu (nu - i) (s 105) ∧ zfm [105] [] I s) (fun y => zTb (z_np S) (z_fw S V) nu 0 (y.2 105) ∧ zfm [105] [] I y.2) nu
    (fun n s hs => by
      obtain ⟨g1, g2⟩ := hs
      rw [Nat.sub_self] at g1
      refine ⟨((), s), ?_, g1, g2⟩
      try dsimp only
      rw [Nat.sub_self]
      unfold f_X12_tellMost_48
      exact if_pos (by decide))
    (fun n i s hi hs => by
      obtain ⟨g1, g2⟩ := hs
      obtain ⟨p, hp⟩ : ∃ p, nu - i = p + 1 := ⟨nu - i - 1, by omega⟩
      rw [hp] at g1
      obtain ⟨s', a1, a2, a3⟩ := m_t54 hN hR hso hS hV h7 h9 (p := p) (by omega) (fun z0 z1 z2 J => f_X12_tellMost_48 N R n z0 z1 z2 J) g2 g1
      refine ⟨s', ?_, by rw [show nu - (i + 1) = p by omega]; exact a2, a3⟩
      try dsimp only
      rw [hp, show nu - (i + 1) = p by omega, Int32.sub_eq_add_neg (nI p)]
      refine Eq.trans ?_ a1
      simp (disch := omega) only [f_X12_tellMost_48, zl_0, pk_sub, Nat.add_sub_cancel, nI_ltI, if_neg]) nu 0 J0 N (by omega) (by omega) ⟨fun a h1 h2 l hl => by
      obtain rfl : a = nu := by omega
      rw [p2 l hl, Nat.sub_self]
      rfl, p3⟩
  obtain ⟨⟨u, J⟩, l1, l2, l3⟩ := k2
  refine ⟨J, ?_, l2, l3⟩
  refine Eq.trans ?_ (p1.trans l1)
  simp (disch := omega) only [f_X12_tellMost, kd_80, r80_4 hR, kd_84, c1, zb_shl, zl_0, zl_1, nI_leI, nI_ltI, nI_clamp, gd_t, gd_pos, lt_eq, Option.bind_some, true_and, and_true, not_true, not_false_iff, false_or, or_false, if_true, if_false, if_pos, if_neg]
end ZM
