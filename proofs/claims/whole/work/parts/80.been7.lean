/-! ===== PURE PART: been: the model's list ===== -/
def z_fl (f : Nat → Nat → Bool) (m : Nat) : Bool := f (m / 20) (m % 20)
theorem z_fl_at (f : Nat → Nat → Bool) {p j : Nat} (hj : j < 20) : z_fl f (20 * p + j) = f p j := by
  unfold z_fl
  rw [show (20 * p + j) / 20 = p by omega, show (20 * p + j) % 20 = j by omega]
theorem zcn_row (f : Nat → Nat → Bool) (p : Nat) : ∀ j, j ≤ 20 → zcn (z_fl f) (20 * p + j) = zcn (z_fl f) (20 * p) + zcn (f p) j
  | 0, _ => rfl
  | j + 1, h => by
    have ih := zcn_row f p j (by omega)
    have e := z_fl_at f (p := p) (j := j) (by omega)
    show zcn (z_fl f) (20 * p + j + 1) = _
    by_cases hc : f p j = true
    · rw [zcn_t (e.trans hc), zcn_t hc, ih]
      omega
    · rw [zcn_f (fun h => hc (e.symm.trans h)), zcn_f hc, ih]
theorem zcn_lin (f : Nat → Nat → Bool) : ∀ n, zcn (z_fl f) (20 * n) = zsm (fun p => zcn (f p) 20) n
  | 0 => rfl
  | n + 1 => by
    have := zcn_row f n 20 (Nat.le_refl _)
    rw [show 20 * (n + 1) = 20 * n + 20 by omega, this, zcn_lin f n]
    rfl
def zTl : List Nat := [95, 96, 97, 98, 99, 101, 102, 110, 111]
def zTf : List Nat := [31, 32, 47]
section ZM
variable {N : Nat} {R : Nat → Nat → Nat} {q nu ns wk pn : Nat} {S : zS} {sn : Nat → Nat × Nat × Nat} {I : Nat → Nat → Int32} {V : Nat → zP}
theorem zfm_tl {I J : Nat → Nat → Int32} (h : zfm zSl zSf I J) : zfm zTl zTf I J := zfm_mono h (fun x hx => by
  unfold zSl at hx
  unfold zTl
  simp only [List.mem_cons, List.not_mem_nil, or_false] at hx ⊢
  omega) (fun x hx => by
  unfold zSf at hx
  unfold zTf
  simp only [List.mem_cons, List.not_mem_nil, or_false] at hx ⊢
  omega)
def zFs (S : zS) (nu ns : Nat) (sn : Nat → Nat × Nat × Nat) (V : Nat → zP) (wk pn m : Nat) (I s : Nat → Nat → Int32) : Prop := zMV nu V s ∧ s 80 31 = nI wk ∧ s 80 32 = nI pn ∧ s 80 47 = nI (zcn (z_fl (z_fit S ns sn V)) m) ∧ (∀ i, i < m → z_fl (z_fit S ns sn V) i = true → s 111 (zcn (z_fl (z_fit S ns sn V)) i) = nI (100 * (i / 20) + i % 20 + 1)) ∧ zfm zTl zTf I s
theorem m_fits1 (hN : 5000 ≤ N) (hR : sR R q) (hso : z_sok S) (hk : zNok nu ns sn) (h7 : nu ≤ 7) (hS : zMS S I) (ho : ∀ p, p < nu → z_pok S (V p)) (hn : zMN ns sn 34 107 I) {p j : Nat} (hp : p < nu) (hj : j < 20) {s : Nat → Nat → Int32} (hs : zFs S nu ns sn V wk pn (20 * p + j) I s) (kk : Nat → Int32 → (Nat → Nat → Int32) → Option (Unit × (Nat → Nat → Int32))) (n : Nat) : ∃ s', f_X12_tellFits_26 N R kk (n + 1) 80 (nI p) (nI (V p 4)) (nI (j + 1)) s = f_X12_tellFits_26 N R kk n 80 (nI p) (nI (V p 4)) (nI (j + 1 + 1)) s' ∧ zFs S nu ns sn V wk pn (20 * p + j + 1) I s' := by
  obtain ⟨hV, h31, h32, h47, hl, hf⟩ := hs
  have o4 := (ho p hp).2.2.2.2.1
  have e1 := m_isOf (N := N) (R := R) (I := s) (n := V p 4) (j := j) (by omega) (by omega)
  have efl := z_fl_at (z_fit S ns sn V) (p := p) (j := j) hj
  have hcm := zcn_le (z_fl (z_fit S ns sn V)) (20 * p + j)
  by_cases hc : V p 4 / 2 ^ j % 2 = 1
  · rw [if_pos hc] at e1
    have hin : z_in (V p) (j + 1) = true := z_in_t hc
    have hno : ¬ z_fl (z_fit S ns sn V) (20 * p + j) = true := by
      rw [efl]
      unfold z_fit
      rw [hin]
      simp
    refine ⟨s, ?_, hV, h31, h32, by rw [zcn_f hno]; exact h47, fun i hi hfi => ?_, hf⟩
    · simp (disch := omega) only [f_X12_tellFits_26, e1, zl_0, zl_1, zl_20, pk_sub, Nat.add_sub_cancel, nI_ltI, nI_eq, nI_add, Option.bind_some, if_neg]
    · by_cases e : i = 20 * p + j
      · rw [e] at hfi
        exact absurd hfi hno
      · exact hl i (by omega) hfi
  · rw [if_neg hc] at e1
    have hin : z_in (V p) (j + 1) = false := Bool.eq_false_iff.mpr (z_in_f hc)
    obtain ⟨X, hX⟩ : ∃ X, X = sm_up s 99 (sm_up (s 99) p (nI (V p 4 ||| 2 ^ j))) := ⟨_, rfl⟩
    have hga : z_ga (V p) (j + 1) = sm_up (V p) 4 (V p 4 ||| 2 ^ j) := by
      unfold z_ga
      rw [if_neg (by omega), Nat.add_sub_cancel]
    have xV : zMV nu (sm_up V p (z_ga (V p) (j + 1))) X := by
      rw [hX, hga]
      exact zMV_up99 hV
    have xf : zfm zTl zTf I X := by rw [hX]; exact zfm_up hf (by decide) (by omega) _
    have x80 : X 80 = s 80 := by rw [hX, up_n _ _ (by omega)]
    have xo : ∀ p', p' < nu → z_pok S (sm_up V p (z_ga (V p) (j + 1)) p') := fun p' hp' => by
      by_cases e : p' = p
      · rw [e, up_s]
        exact z_ga_pok (ho p hp) (by omega)
      · rw [up_n _ _ e]
        exact ho p' hp'
    obtain ⟨K, k1, k2, k3, k4, k5⟩ := m_asSeen (I := X) (wk := wk) (pn := pn) hN hR hso hk h7 (zMS_fr hS xf (by decide)) xV xo (by rw [x80]; exact h31) (by rw [x80]; exact h32) (zMN_eq hn (xf.2 34 (by decide)) (xf.1 107 (by omega) (by decide)) (xf.1 108 (by omega) (by decide)) (xf.1 109 (by omega) (by decide)))
    have kf := zfm_trans xf (zfm_tl k5)
    have k47 : K 80 47 = nI (zcn (z_fl (z_fit S ns sn V)) (20 * p + j)) := by rw [k5.2 47 (by decide), x80]; exact h47
    have k111 : K 111 = s 111 := by rw [k5.1 111 (by omega) (by decide), hX, up_n _ _ (by omega)]
    have bk : ∀ Y : Nat → Nat → Int32, zMV nu (sm_up V p (z_ga (V p) (j + 1))) Y → zMV nu V (sm_up Y 99 (sm_up (Y 99) p (nI (V p 4)))) := fun Y hY => zMV_cong (zMV_up99 (p := p) (v := V p 4) hY) (fun p' _ => by
      by_cases e : p' = p
      · rw [e, up_s, up_s, hga, up_uu, up_id]
      · rw [up_n _ _ e, up_n _ _ e])
    by_cases ha : z_all S ns sn (sm_up V p (z_ga (V p) (j + 1))) = none
    · rw [if_pos ha] at k1
      have hyes : z_fl (z_fit S ns sn V) (20 * p + j) = true := by
        rw [efl]
        unfold z_fit
        rw [hin, decide_eq_true ha]
        rfl
      obtain ⟨Y, hY⟩ : ∃ Y, Y = sm_up (sm_up K 111 (sm_up (K 111) (zcn (z_fl (z_fit S ns sn V)) (20 * p + j)) (nI (100 * p + (j + 1))))) 80 (sm_up (K 80) 47 (nI (zcn (z_fl (z_fit S ns sn V)) (20 * p + j) + 1))) := ⟨_, rfl⟩
      have y99 : Y 99 = K 99 := by rw [hY, up_n _ _ (by omega), up_n _ _ (by omega)]
      have yf : zfm [111] [47] K Y := by
        have h1 := zfm_f (zfm_up (L := [111]) (F := [47]) (k := 111) (zfm_refl _ _ K) (by simp) (by omega) (sm_up (K 111) (zcn (z_fl (z_fit S ns sn V)) (20 * p + j)) (nI (100 * p + (j + 1))))) (i := 47) (by simp) (nI (zcn (z_fl (z_fit S ns sn V)) (20 * p + j) + 1))
        rw [show sm_up K 111 (sm_up (K 111) (zcn (z_fl (z_fit S ns sn V)) (20 * p + j)) (nI (100 * p + (j + 1)))) 80 = K 80 from up_n _ _ (by omega)] at h1
        rw [hY]
        exact h1
      have yV := zMV_fr k2 yf (by decide)
      refine ⟨sm_up Y 99 (sm_up (Y 99) p (nI (V p 4))), ?_, bk Y yV, ?_, ?_, ?_, fun i hi hfi => ?_, zfm_up (zfm_trans kf (zfm_mono yf (by decide) (by decide))) (by decide) (by omega) _⟩
      · rw [hY]
        simp (disch := omega) only [f_X12_tellFits_26, kd_80, r80_29 hR, kd_99, r80_45 hR, kd_111, e1, ← hX, k1, k47, zb_shl, zb_or, pk_sub, pk_mul, Nat.add_sub_cancel, zl_0, zl_1, zl_20, zl_100, nI_ltI, nI_leI, nI_eq, nI_add, nI_clamp, up_s, up_n, gd_t, gd_pos, lt_eq, Option.bind_some, true_and, and_true, not_true, not_false_iff, false_or, or_false, if_true, if_false, if_pos, if_neg]
      · rw [up_n _ _ (by omega), yf.2 31 (by decide)]
        exact k3
      · rw [up_n _ _ (by omega), yf.2 32 (by decide)]
        exact k4
      · rw [up_n _ _ (by omega), hY, up_s, up_s, zcn_t hyes]
      · rw [up_n _ _ (by omega), hY, up_n _ _ (by omega), up_s]
        by_cases e : i = 20 * p + j
        · rw [e, up_s, show (20 * p + j) / 20 = p by omega, show (20 * p + j) % 20 = j by omega]
          rfl
        · have := zcn_lt hfi (show i < 20 * p + j by omega)
          rw [up_n _ _ (by omega), k111]
          exact hl i (by omega) hfi
    · rw [if_neg ha] at k1
      have hno : ¬ z_fl (z_fit S ns sn V) (20 * p + j) = true := by
        rw [efl]
        unfold z_fit
        rw [decide_eq_false ha]
        simp
      refine ⟨sm_up K 99 (sm_up (K 99) p (nI (V p 4))), ?_, bk K k2, by rw [up_n _ _ (by omega)]; exact k3, by rw [up_n _ _ (by omega)]; exact k4, by rw [up_n _ _ (by omega), zcn_f hno]; exact k47, fun i hi hfi => ?_, zfm_up kf (by decide) (by omega) _⟩
      · simp (disch := omega) only [f_X12_tellFits_26, kd_80, r80_29 hR, kd_99, e1, ← hX, k1, zb_shl, zb_or, pk_sub, Nat.add_sub_cancel, zl_0, zl_1, zl_20, nI_ltI, nI_leI, nI_eq, nI_add, nI_clamp, up_s, up_n, gd_t, gd_pos, lt_eq, Option.bind_some, true_and, and_true, not_true, not_false_iff, false_or, or_false, if_true, if_false, if_pos, if_neg]
      · rw [up_n _ _ (by omega), k111]
        by_cases e : i = 20 * p + j
        · rw [e] at hfi
          exact absurd hfi hno
        · exact hl i (by omega) hfi
theorem m_tellFits (hN : 5000 ≤ N) (hR : sR R q) (hso : z_sok S) (hk : zNok nu ns sn) (h7 : nu ≤ 7) (hS : zMS S I) (hV : zMV nu V I) (ho : ∀ p, p < nu → z_pok S (V p)) (h31 : I 80 31 = nI wk) (h32 : I 80 32 = nI pn) (hn : zMN ns sn 34 107 I) : ∃ J, f_X12_tellFits N R 80 I = some ((), J) ∧ zFs S nu ns sn V wk pn (20 * nu) I J := by
  obtain ⟨X, hX⟩ : ∃ X, X = sm_up I 80 (sm_up (I 80) 47 (nI 0)) := ⟨_, rfl⟩
  have xf0 : zfm [] [47] I X := by rw [hX]; exact zfm_f (zfm_refl _ _ _) (by decide) _
  have xf : zfm zTl zTf I X := zfm_mono xf0 (by decide) (by decide)
  have L := zm_loop (fun n p s => f_X12_tellFits_7 N R n 80 (nI p) s) (fun p s => zFs S nu ns sn V wk pn (20 * p) I s) (fun y => y.1 = () ∧ zFs S nu ns sn V wk pn (20 * nu) I y.2) nu
    (fun n s hs => by
      have h1 := hs.1.1
      exact ⟨((), s), by simp (disch := omega) only [f_X12_tellFits_7, kd_80, r80_4 hR, kd_84, h1, zl_0, zl_1, nI_leI, nI_ltI, nI_clamp, gd_t, gd_pos, lt_eq, Option.bind_some, true_and, and_true, not_true, not_false_iff, false_or, or_false, if_true, if_false, if_pos, if_neg], rfl, hs⟩)
    (fun n p s hp hs => by
      have h1 := hs.1.1
      have h4 := (hs.1.2 p hp).2.2.2.2.1
      have L2 := zk_loop (fun n' j s => f_X12_tellFits_26 N R (fun z0 z1 J => f_X12_tellFits_7 N R n z0 z1 J) n' 80 (nI p) (nI (V p 4)) (nI (j + 1)) s) (fun s => f_X12_tellFits_7 N R n 80 (nI (p + 1)) s) (fun j s => zFs S nu ns sn V wk pn (20 * p + j) I s) 20
        (fun n' s' _ => by simp (disch := omega) only [f_X12_tellFits_26, zl_1, zl_20, nI_ltI, nI_add, if_pos])
        (fun n' j s' hj hs' => m_fits1 hN hR hso hk h7 hS ho hn hp hj hs' _ n')
        20 0 s N (by omega) (by omega) hs
      obtain ⟨s', l1, l2⟩ := L2
      refine ⟨s', Eq.trans ?_ l1, l2⟩
      simp (disch := omega) only [f_X12_tellFits_7, kd_80, r80_4 hR, kd_84, r80_29 hR, kd_99, h1, h4, zl_0, zl_1, Nat.zero_add, nI_leI, nI_ltI, nI_clamp, gd_t, gd_pos, lt_eq, Option.bind_some, true_and, and_true, not_true, not_false_iff, false_or, or_false, if_true, if_false, if_pos, if_neg]) nu 0 X N (by omega) (by omega) ⟨zMV_fr hV xf0 (by decide), by rw [hX, up_s, up_n _ _ (by omega)]; exact h31, by rw [hX, up_s, up_n _ _ (by omega)]; exact h32, by rw [hX, up_s, up_s]; rfl, fun i hi => absurd hi (Nat.not_lt_zero i), xf⟩
  obtain ⟨⟨u, J⟩, l1, l2, l3⟩ := L
  refine ⟨J, Eq.trans ?_ l1, l3⟩
  simp (disch := omega) only [f_X12_tellFits, kd_80, ← hX, zl_0, gd_t, gd_pos, lt_eq]
end ZM
