/-! ===== PURE PART: game: what the choices bring ===== -/
theorem zsm_one {f g : Nat → Nat} {i : Nat} : ∀ n, i < n → (∀ j, j < n → j ≠ i → g j = f j) → g i = f i + 1 → zsm g n = zsm f n + 1
  | 0, h, _, _ => absurd h (Nat.not_lt_zero _)
  | n + 1, h, h1, h2 => by
    unfold zsm
    by_cases e : i = n
    · subst e
      rw [zsm_cong i (fun j hj => h1 j (by omega) (by omega)), h2]
      omega
    · rw [zsm_one n (by omega) (fun j hj hne => h1 j (by omega) hne) h2, h1 n (by omega) (fun h => e h.symm)]
      omega
theorem z_pc_go {S : zS} {nu : Nat} {V : Nat → zP} {lo : Nat} (h7 : nu ≤ 7) (hlo : lo < nu) (hin : z_in (V lo) 1 = false) : z_pc 32 (z_awi nu (sm_up V lo (z_go S (V lo) 1)) 1) = z_pc 32 (z_awi nu V 1) + 1 := by
  unfold z_awi
  rw [z_pc_bt _ nu (by omega), z_pc_bt _ nu (by omega)]
  refine zsm_one nu hlo (fun j hj hne => ?_) ?_
  · try dsimp only
    rw [up_n _ _ hne]
  · try dsimp only
    rw [up_s, z_in_go, hin]
    rfl
theorem z_may_in {nu pn k : Nat} {V : Nat → zP} {pl : zP} (h : z_may nu V pn pl k = true) : z_in pl k = false ∧ z_pc 32 (z_awi nu V k) < pn := by
  unfold z_may at h
  rw [Bool.and_eq_true] at h
  exact ⟨by simpa using h.1, of_decide_eq_true h.2⟩
theorem z_W_lo {S : zS} {nu pn lo hi x y : Nat} {V : Nat → zP} (hne : lo ≠ hi) (hx : x < 2) (hm : z_may nu V pn (V lo) 1 = true) : z_w2 S nu pn (z_w1 S nu pn V lo x) hi y lo = z_gd S (V lo) x := by
  have e1 : z_w2 S nu pn (z_w1 S nu pn V lo x) hi y lo = z_w1 S nu pn V lo x lo := by
    unfold z_w2
    split
    · split
      · rw [up_n _ _ hne]
      · rw [up_n _ _ hne]
    · rfl
  rw [e1]
  unfold z_w1 z_gd
  by_cases h : x = 1
  · rw [if_pos ⟨h, hm⟩, if_pos h, up_s]
  · rw [if_neg (fun q => h q.1), if_neg h, if_neg (by omega)]
theorem z_W_hi {S : zS} {nu pn lo hi x y : Nat} {V : Nat → zP} (h7 : nu ≤ 7) (hlo : lo < nu) (hne : lo ≠ hi) (hx : x < 2) (hy : y < 2) (hm : z_may nu V pn (V hi) 1 = true) (hm2 : x = 1 → z_may nu V pn (V lo) 1 = true) : z_w2 S nu pn (z_w1 S nu pn V lo x) hi y hi = z_gd S (V hi) (if y = 0 then 0 else if x = 1 then 1 + (if pn = z_pc 32 (z_awi nu V 1) + 1 then 1 else 0) else 1) := by
  obtain ⟨i1, i2⟩ := z_may_in hm
  by_cases hy0 : y = 0
  · rw [if_pos hy0]
    unfold z_w2
    rw [if_neg (by omega)]
    unfold z_w1
    split
    · rw [up_n _ _ (fun h => hne h.symm)]
      rfl
    · rfl
  · rw [if_neg hy0]
    unfold z_w2
    rw [if_pos (by omega)]
    by_cases hx1 : x = 1
    · have hl := hm2 hx1
      have e1 : z_w1 S nu pn V lo x = sm_up V lo (z_go S (V lo) 1) := if_pos ⟨hx1, hl⟩
      have e2 : sm_up V lo (z_go S (V lo) 1) hi = V hi := up_n _ _ (fun h => hne h.symm)
      rw [if_pos hx1, e1, e2]
      have e3 := z_pc_go (S := S) h7 hlo (z_may_in hl).1
      by_cases ho : pn = z_pc 32 (z_awi nu V 1) + 1
      · have e4 : ¬ z_may nu (sm_up V lo (z_go S (V lo) 1)) pn (V hi) 1 = true := z_may_f2 (by rw [e3]; omega)
        rw [if_pos ho, if_neg e4, up_s]
        rfl
      · have e4 : z_may nu (sm_up V lo (z_go S (V lo) 1)) pn (V hi) 1 = true := z_may_t (by rw [i1]; decide) (by rw [e3]; omega)
        rw [if_neg ho, if_pos e4, up_s]
        rfl
    · have e1 : z_w1 S nu pn V lo x = V := if_neg (fun h => hx1 h.1)
      rw [if_neg hx1, e1, if_pos hm, up_s]
      rfl
/-- the pupils at the model's k-th pair of choices -/
def z_Wk (S : zS) (nu pn : Nat) (V : Nat → zP) (p r k : Nat) : Nat → zP := if p < r then z_w2 S nu pn (z_w1 S nu pn V p (k / 2)) r (k % 2) else z_w2 S nu pn (z_w1 S nu pn V r (k % 2)) p (k / 2)
theorem z_Wk_pok {S : zS} {nu pn p r k : Nat} {V : Nat → zP} (h : ∀ p, p < nu → z_pok S (V p)) : ∀ a, a < nu → z_pok S (z_Wk S nu pn V p r k a) := by
  unfold z_Wk
  split
  · exact z_w2_pok (z_w1_pok h)
  · exact z_w2_pok (z_w1_pok h)
theorem z_Wk_1 {S : zS} {nu pn p r : Nat} {V : Nat → zP} (h7 : nu ≤ 7) (hp : p < nu) (hr : r < nu) (hne : p ≠ r) {k : Nat} (hk : k < 4) (hm : z_may nu V pn (V p) 1 = true) (hm2 : k % 2 = 1 → z_may nu V pn (V r) 1 = true) : nI (z_wks S 10 (z_Wk S nu pn V p r k p) 3) - nI (V p 3) = z_gg S (V p) (if pn = z_pc 32 (z_awi nu V 1) + 1 ∧ r < p then 1 else 0) (k / 2) (k % 2) := by
  unfold z_Wk z_gg
  by_cases h : p < r
  · rw [if_pos h, z_W_lo hne (by omega) hm, if_neg (show ¬ (pn = z_pc 32 (z_awi nu V 1) + 1 ∧ r < p) by omega)]
    by_cases h2 : k / 2 = 0
    · rw [if_pos h2, h2]
      rfl
    · rw [if_neg h2, show k / 2 = 1 by omega]
      split <;> rfl
  · rw [if_neg h, z_W_hi h7 hr (fun h => hne h.symm) (by omega) (by omega) hm hm2]
    by_cases h2 : k / 2 = 0
    · rw [if_pos h2, if_pos h2]
      rfl
    · rw [if_neg h2, if_neg h2]
      by_cases h3 : k % 2 = 1
      · rw [if_pos h3, if_pos h3]
        by_cases h4 : pn = z_pc 32 (z_awi nu V 1) + 1
        · rw [if_pos h4, if_pos ⟨h4, by omega⟩]
          rfl
        · rw [if_neg h4, if_neg (fun q => h4 q.1)]
          rfl
      · rw [if_neg h3, if_neg h3]
        rfl
theorem z_Wk_2 {S : zS} {nu pn p r : Nat} {V : Nat → zP} (h7 : nu ≤ 7) (hp : p < nu) (hr : r < nu) (hne : p ≠ r) {k : Nat} (hk : k < 4) (hm : z_may nu V pn (V r) 1 = true) (hm2 : k / 2 = 1 → z_may nu V pn (V p) 1 = true) : nI (z_wks S 10 (z_Wk S nu pn V p r k r) 3) - nI (V r 3) = z_gg S (V r) (if pn = z_pc 32 (z_awi nu V 1) + 1 ∧ p < r then 1 else 0) (k % 2) (k / 2) := by
  unfold z_Wk z_gg
  by_cases h : p < r
  · rw [if_pos h, z_W_hi h7 hp hne (by omega) (by omega) hm hm2]
    by_cases h2 : k % 2 = 0
    · rw [if_pos h2, if_pos h2]
      rfl
    · rw [if_neg h2, if_neg h2]
      by_cases h3 : k / 2 = 1
      · rw [if_pos h3, if_pos h3]
        by_cases h4 : pn = z_pc 32 (z_awi nu V 1) + 1
        · rw [if_pos h4, if_pos ⟨h4, h⟩]
          rfl
        · rw [if_neg h4, if_neg (fun q => h4 q.1)]
          rfl
      · rw [if_neg h3, if_neg h3]
        rfl
  · rw [if_neg h, z_W_lo (fun h => hne h.symm) (by omega) hm, if_neg (show ¬ (pn = z_pc 32 (z_awi nu V 1) + 1 ∧ p < r) by omega)]
    by_cases h2 : k % 2 = 0
    · rw [if_pos h2, h2]
      rfl
    · rw [if_neg h2, show k % 2 = 1 by omega]
      split <;> rfl
theorem z_d2 : ∀ k, k < 4 → nI k / nI 2 = nI (k / 2) := by decide +kernel
theorem z_d3 : ∀ k, k < 4 → nI k - nI (k / 2) * nI 2 = nI (k % 2) := by decide +kernel
section ZD
variable {N : Nat} {R : Nat → Nat → Nat} {q : Nat} {S : zS} {nu : Nat} {pr : Nat → Nat} {T : zT} {na : Nat} {A : Nat → zT} {ns : Nat} {sn : Nat → Nat × Nat × Nat} {st : Nat → Int32} {nt : Nat} {tp : Nat → Nat} {fp : Int32} {im : Option zIm} {I J K : Nat → Nat → Int32}
theorem m_tellGains (hN : 5000 ≤ N) (hR : sR R q) (hO : zOk S nu pr T na A ns sn nt tp im) (hM : zMi S nu T na A ns sn st nt tp fp im I) {p r : Nat} (hp : p < nu) (hr : r < nu) (hne : p ≠ r) : ∃ J, f_X12_tellGains N R 80 (nI p) (nI r) I = some ((), J) ∧ zMi S nu T na A ns sn st nt tp fp im J ∧ (∀ k, k < 4 → J 113 (2 * k) = nI (z_wks S 10 (z_Wk S nu T.2.1 T.2.2 p r k p) 3) - nI (T.2.2 p 3) ∧ J 113 (2 * k + 1) = nI (z_wks S 10 (z_Wk S nu T.2.1 T.2.2 p r k r) 3) - nI (T.2.2 r 3)) ∧ J 80 3 = I 80 3 ∧ ∀ k, k < 80 → J k = I k := by
  obtain ⟨hso, h7, ⟨hT1, hT2, hT3, hT4⟩, -⟩ := id hO
  have hpo : ∀ p, p < nu → z_pok S (T.2.2 p) := fun p hp => (hT4 p hp).1
  obtain ⟨X, x1, x2, x3, x4, x5⟩ := m_pk0 hN hR h7 hM
  obtain ⟨lo, hi, hlo, hhi, hmn, hmx, hor⟩ : ∃ lo hi, lo < nu ∧ hi < nu ∧ min p r = lo ∧ max p r = hi ∧ (p < r ∧ lo = p ∧ hi = r ∨ ¬ p < r ∧ lo = r ∧ hi = p) := ⟨min p r, max p r, by omega, by omega, rfl, rfl, by omega⟩
  have L := zm_loop (fun n k s => f_X12_tellGains_25 N R n 80 (nI p) (nI r) (nI lo) (nI hi) (nI k) s) (fun k s => zMi S nu T na A ns sn st nt tp fp im s ∧ zfm zLg zFd X s ∧ ∀ j, j < k → s 113 (2 * j) = nI (z_wks S 10 (z_Wk S nu T.2.1 T.2.2 p r j p) 3) - nI (T.2.2 p 3) ∧ s 113 (2 * j + 1) = nI (z_wks S 10 (z_Wk S nu T.2.1 T.2.2 p r j r) 3) - nI (T.2.2 r 3)) (fun y => zMi S nu T na A ns sn st nt tp fp im y.2 ∧ zfm zLg zFd X y.2 ∧ ∀ j, j < 4 → y.2 113 (2 * j) = nI (z_wks S 10 (z_Wk S nu T.2.1 T.2.2 p r j p) 3) - nI (T.2.2 p 3) ∧ y.2 113 (2 * j + 1) = nI (z_wks S 10 (z_Wk S nu T.2.1 T.2.2 p r j r) 3) - nI (T.2.2 r 3)) 4
    (fun n s hs => ⟨((), s), by simp (disch := omega) only [f_X12_tellGains_25, zl_4, nI_leI, if_pos], hs⟩)
    (fun n k s hk hs => by
      obtain ⟨s1, s2, s3⟩ := hs
      have kk9 : ∀ x y, x < 2 → y < 2 → z_w2 S nu T.2.1 (z_w1 S nu T.2.1 T.2.2 lo x) hi y = z_Wk S nu T.2.1 T.2.2 p r k → f_X12_tellGains_25 N R (n + 1) 80 (nI p) (nI r) (nI lo) (nI hi) (nI k) s = f_X12_tellGains_102 N R (fun z0 z1 z2 z3 z4 z5 J => f_X12_tellGains_25 N R n z0 z1 z2 z3 z4 z5 J) 80 (nI p) (nI r) (nI lo) (nI hi) (nI k) (nI x) (nI y) s → ∃ s', f_X12_tellGains_25 N R (n + 1) 80 (nI p) (nI r) (nI lo) (nI hi) (nI k) s = f_X12_tellGains_25 N R n 80 (nI p) (nI r) (nI lo) (nI hi) (nI (k + 1)) s' ∧ zMi S nu T na A ns sn st nt tp fp im s' ∧ zfm zLg zFd X s' ∧ ∀ j, j < k + 1 → s' 113 (2 * j) = nI (z_wks S 10 (z_Wk S nu T.2.1 T.2.2 p r j p) 3) - nI (T.2.2 p 3) ∧ s' 113 (2 * j + 1) = nI (z_wks S 10 (z_Wk S nu T.2.1 T.2.2 p r j r) 3) - nI (T.2.2 r 3) := fun x y hx hy hw he => by
        obtain ⟨L1, a1, a2, a3⟩ := m_g102 hN hR hso h7 s1.1 s1.2.1 hpo s1.2.2.2.1 hT3 (fun z0 z1 z2 z3 z4 z5 J => f_X12_tellGains_25 N R n z0 z1 z2 z3 z4 z5 J) hlo hhi hx hy (nI p) (nI r) (nI k)
        rw [hw] at a2
        obtain ⟨L2, b1, b2, b3, b4, b5, b6⟩ := m_g156 hN hR hso h7 x2 x3 a2 (z_Wk_pok hpo) (zfm_trans s2 (zfm_g a3 (by decide) (by decide))) (fun z0 z1 z2 z3 z4 z5 J => f_X12_tellGains_25 N R n z0 z1 z2 z3 z4 z5 J) hp hr hk (nI lo) (nI hi)
        refine ⟨L2, he.trans (a1.trans b1), b5, b6, fun j hj => ?_⟩
        by_cases e : j = k
        · rw [e]
          exact ⟨b2, b3⟩
        · rw [b4 _ (by omega) (by omega), b4 _ (by omega) (by omega), a3.1 113 (by omega) (by decide)]
          exact s3 j (by omega)
      have d2 := z_d2 k hk
      have d3 := z_d3 k hk
      have ck : k / 2 = 0 ∨ k / 2 = 1 := by omega
      have cm : k % 2 = 0 ∨ k % 2 = 1 := by omega
      rcases hor with ⟨h1, h2, h3⟩ | ⟨h1, h2, h3⟩
      · refine kk9 (k / 2) (k % 2) (by omega) (by omega) (by unfold z_Wk; rw [if_pos h1, h2, h3]) ?_
        rw [h2, h3]
        rcases ck with c | c <;> rcases cm with d | d <;> rw [c] at d2 d3 <;> rw [d] at d3 <;> rw [c, d] <;> simp (disch := omega) only [f_X12_tellGains_25, f_X12_tellGains_65, d2, d3, zl_0, zl_1, zl_2, zl_4, nI_leI, nI_eq, if_true, if_pos, if_neg]
      · refine kk9 (k % 2) (k / 2) (by omega) (by omega) (by unfold z_Wk; rw [if_neg h1, h2, h3]) ?_
        rw [h2, h3]
        rcases ck with c | c <;> rcases cm with d | d <;> rw [c] at d2 d3 <;> rw [d] at d3 <;> rw [c, d] <;> simp (disch := omega) only [f_X12_tellGains_25, f_X12_tellGains_65, d2, d3, zl_0, zl_1, zl_2, zl_4, nI_leI, nI_eq, if_true, if_pos, if_neg]) 4 0 X N (by omega) (by omega) ⟨x2, zfm_refl _ _ _, fun j hj => absurd hj (Nat.not_lt_zero j)⟩
  obtain ⟨⟨u, J⟩, l1, l2, l3, l4⟩ := L
  obtain ⟨l5, l6⟩ := zGl l3
  refine ⟨J, ?_, l2, l4, l5.trans x4, fun k hk => (l6 k hk).trans (x5 k hk)⟩
  refine Eq.trans ?_ l1
  simp (disch := omega) only [f_X12_tellGains, kd_80, r80_37 hR, kd_103, x1, mn_nI, mx_nI, hmn, hmx, zl_0, gd_t, gd_pos, lt_eq, Option.bind_some, true_and, and_true, not_true, not_false_iff, false_or, or_false, if_true, if_false, if_pos, if_neg]
end ZD
