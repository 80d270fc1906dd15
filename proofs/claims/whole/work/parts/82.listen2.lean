/-! ===== PURE PART: listen: the class ===== -/
def zmt (B : Nat → Bool) (f : Nat → Int32) : Prop := ∀ v, v < 100 → f v = (if B v = true then nI 1 else nI 0)
def zLm (q : Nat) : List Nat := [71, 72, q + 6, q + 16]
section ZC
variable {N : Nat} {R : Nat → Nat → Nat} {q nu ns : Nat} {S : zS} {I : Nat → Nat → Int32} {V : Nat → zP}
theorem zLm_S (hR : sR R q) {J : Nat → Nat → Int32} (h : zCS S q I) (hJ : zfr (zLm q) I J) : zCS S q J := zCS_fr h (fun c h1 h2 => hJ c (by have := sR_q hR; unfold zLm; simp; omega))
theorem zLm_V (hR : sR R q) {J : Nat → Nat → Int32} (hJ : zfr (zLm q) I J) (h7 : nu ≤ 7) (h : zCV nu V (q + 7) I) : zCV nu V (q + 7) J := zCV_fr h h7 (fun c hc => hJ c (by have := sR_q hR; unfold zLm; simp; omega))
theorem c_meet (hN : 5000 ≤ N) (hR : sR R q) (hso : z_sok S) (hS : zCS S q I) {p : Nat} (hp : p < 7) {pl : zP} (hpl : zPl pl (I (q + 7 + 2 + p))) (ho : z_pok S pl) {w : Nat} (hw : w ≤ 30) {B : Nat → Bool} (hB : zmt B (I 72)) : ∃ J, f_X8_meet N R 69 q (nI p) (nI w) I = some (nI (if B (z_sk S pl w) = true then 0 else 1), J) ∧ zmt (fun v => B v || decide (v = z_sk S pl w)) (J 72) ∧ zfr (zLm q) I J := by
  have hq9 := sR_q hR
  obtain ⟨J0, b1, b2, b3⟩ := c_guess (N := N) hR hp hpl ho.2.2.2.2.1 hw
  have hg := z_ga_pok ho hw
  obtain ⟨K, k1, k2, k3⟩ := c_pass (m := 20) hN hR.q hso (zCS_fr hS (fun c h1 h2 => b3 c (by simp; omega))) kd_71 b2 hg (by omega)
  have w0 : K 71 0 = nI (z_sk S pl w) := k2 0 (by omega)
  have h99 : z_sk S pl w ≤ 99 := (z_pok_wks 20 _ hg).1
  have kf : zfr (zLm q) I K := zfr_trans (zfr_mono b3 (by unfold zLm; simp)) (zfr_mono k3 (fun x hx => by
    unfold zLm
    simp only [List.mem_cons, List.not_mem_nil, or_false] at hx ⊢
    omega))
  have k72 : K 72 = I 72 := by rw [k3 72 (by simp; omega), b3 72 (by simp)]
  have g := hB (z_sk S pl w) (by omega)
  rw [← k72] at g
  by_cases hc : B (z_sk S pl w) = true
  · rw [if_pos hc] at g ⊢
    refine ⟨K, ?_, ?_, kf⟩
    · simp (disch := omega) only [f_X8_meet, kd_69, kd_71, kd_72, r69_3 hR, r69_4 hR, q_k0 hR, b1, k1, w0, g, zl_0, zl_1, zl_20, zl_ofNat, nI_ltI, nI_leI, nI_eq, nI_clamp, gd_t, gd_pos, lt_eq, Option.bind_some, true_and, and_true, not_true, not_false_iff, false_or, or_false, if_true, if_false, if_pos, if_neg]
    · intro v hv
      show K 72 v = if (B v || decide (v = z_sk S pl w)) = true then nI 1 else nI 0
      rw [k72, hB v hv]
      by_cases e : v = z_sk S pl w
      · rw [e, hc, if_pos rfl, Bool.true_or, if_pos rfl]
      · rw [decide_eq_false e, Bool.or_false]
  · rw [if_neg hc] at g ⊢
    refine ⟨sm_up K 72 (sm_up (K 72) (z_sk S pl w) (nI 1)), ?_, ?_, zfr_up kf (by unfold zLm; simp) _⟩
    · simp (disch := omega) only [f_X8_meet, kd_69, kd_71, kd_72, r69_3 hR, r69_4 hR, q_k0 hR, b1, k1, w0, g, zl_0, zl_1, zl_20, zl_ofNat, nI_ltI, nI_leI, nI_eq, nI_clamp, gd_t, gd_pos, lt_eq, Option.bind_some, true_and, and_true, not_true, not_false_iff, false_or, or_false, if_true, if_false, if_pos, if_neg]
    · intro v hv
      show sm_up K 72 (sm_up (K 72) (z_sk S pl w) (nI 1)) 72 v = if (B v || decide (v = z_sk S pl w)) = true then nI 1 else nI 0
      rw [up_s]
      by_cases e : v = z_sk S pl w
      · rw [e, up_s, decide_eq_true rfl, Bool.or_true, if_pos rfl]
      · rw [up_n _ _ e, k72, hB v hv, decide_eq_false e, Bool.or_false]
theorem c_unlike55 (hN : 5000 ≤ N) (hR : sR R q) (hso : z_sok S) (h7 : nu ≤ 7) (hS : zCS S q I) {p : Nat} (hp : p < nu) (hV : zCV nu V (q + 7) I) (ho : z_pok S (V p)) {f : Nat → Bool} (h70 : I 70 p = nI (zbt f 20)) {B : Nat → Bool} (hB : zmt B (I 72)) : ∃ J, f_X8_unlikeSkills_55 N R N 69 q (nI p) (nI (zcn B 100)) (nI 1) I = some (nI (zcn (z_mb f (z_sk S (V p)) B 20) 100), J) ∧ zfr (zLm q) I J := by
  have hq9 := sR_q hR
  have hbt := zbt_lt f 20
  have L := zm_loop (fun n j (s : Int32 × (Nat → Nat → Int32)) => f_X8_unlikeSkills_55 N R n 69 q (nI p) s.1 (nI (j + 1)) s.2) (fun j s => s.1 = nI (zcn (z_mb f (z_sk S (V p)) B j) 100) ∧ zmt (z_mb f (z_sk S (V p)) B j) (s.2 72) ∧ zfr (zLm q) I s.2) (fun y => y.1 = nI (zcn (z_mb f (z_sk S (V p)) B 20) 100) ∧ zfr (zLm q) I y.2) 20
    (fun n s hs => by
      obtain ⟨a, s⟩ := s
      obtain ⟨h1, h2, h3⟩ := hs
      have h1 : a = _ := h1
      subst h1
      refine ⟨(nI (zcn (z_mb f (z_sk S (V p)) B 20) 100), s), ?_, rfl, h3⟩
      simp (disch := omega) only [f_X8_unlikeSkills_55, zl_20, nI_ltI, if_pos])
    (fun n j s hj hs => by
      obtain ⟨a, s⟩ := s
      obtain ⟨h1, h2, h3⟩ := hs
      have h1 : a = _ := h1
      subst h1
      have h2 : zmt (z_mb f (z_sk S (V p)) B j) (s 72) := h2
      have h3 : zfr (zLm q) I s := h3
      have g70 : s 70 p = nI (zbt f 20) := by
        rw [h3 70 (by unfold zLm; simp; omega)]
        exact h70
      have hb := zb_bit (n := zbt f 20) (j := j) (by omega) (by omega)
      have hbit := zbt_bit f 20 j
      rw [decide_eq_true hj, Bool.true_and, Nat.testBit_eq_decide_div_mod_eq] at hbit
      have hlz := zcn_le (z_mb f (z_sk S (V p)) B j) 100
      by_cases hc : f j = true
      · have e1 : zbt f 20 / 2 ^ j % 2 = 1 := of_decide_eq_true (hbit.trans hc)
        rw [e1] at hb
        obtain ⟨K, k1, k2, k3⟩ := c_meet (N := N) (I := s) hN hR hso (zLm_S hR hS h3) (show p < 7 by omega) ((zLm_V hR h3 h7 hV).2 p hp) ho (w := j + 1) (by omega) h2
        have h99 : z_sk S (V p) (j + 1) < 100 := by
          have := (z_pok_wks 20 _ (z_ga_pok ho (show j + 1 ≤ 30 by omega))).1
          unfold z_sk
          omega
        refine ⟨(nI (zcn (z_mb f (z_sk S (V p)) B (j + 1)) 100), K), ?_, rfl, by rw [z_mb_t hc]; exact k2, zfr_trans h3 k3⟩
        rw [z_mb_t hc, zcn_ad h99]
        simp (disch := omega) only [f_X8_unlikeSkills_55, kd_69, kd_70, r69_0 hR, g70, pk_sub, Nat.add_sub_cancel, hb, k1, zl_0, zl_1, zl_20, nI_ltI, nI_leI, nI_eq, nI_add, nI_clamp, gd_t, gd_pos, lt_eq, Option.bind_some, true_and, and_true, not_true, not_false_iff, false_or, or_false, if_true, if_false, if_pos, if_neg]
      · have e1 : ¬ zbt f 20 / 2 ^ j % 2 = 1 := fun h => hc (hbit.symm.trans (decide_eq_true h))
        have e2 : zbt f 20 / 2 ^ j % 2 = 0 := by omega
        rw [e2] at hb
        refine ⟨(nI (zcn (z_mb f (z_sk S (V p)) B (j + 1)) 100), s), ?_, rfl, by rw [z_mb_f hc]; exact h2, h3⟩
        rw [z_mb_f hc]
        simp (disch := omega) only [f_X8_unlikeSkills_55, kd_69, kd_70, r69_0 hR, g70, pk_sub, Nat.add_sub_cancel, hb, zl_0, zl_1, zl_20, nI_ltI, nI_leI, nI_eq, nI_add, nI_clamp, gd_t, gd_pos, lt_eq, Option.bind_some, true_and, and_true, not_true, not_false_iff, false_or, or_false, if_true, if_false, if_pos, if_neg]) 20 0 (nI (zcn B 100), I) N (by omega) (by omega) ⟨rfl, hB, zfr_refl _ _⟩
  obtain ⟨⟨v, J⟩, l1, l2, l3⟩ := L
  have l2 : v = _ := l2
  subst l2
  exact ⟨J, l1, l3⟩
theorem c_unl_k (hN : 5000 ≤ N) (hR : sR R q) (hso : z_sok S) (h7 : nu ≤ 7) (hS : zCS S q I) (hV : zCV nu V (q + 7) I) (ho : ∀ p, p < nu → z_pok S (V p)) {f : Nat → Nat → Bool} (h1 : I 69 1 = nI nu) (h2 : ∀ p, p < nu → I 70 p = nI (zbt (f p) 20)) {p : Nat} (hp : p < nu) : ∀ s : Nat → Nat → Int32, zfr (zLm q) I s → f_X8_howMany N R 69 s = some (nI (zsm (fun p => zcn (f p) 20) nu), s) ∧ s 70 p = nI (zbt (f p) 20) ∧ f_J6_bitCount_0f7a4 N R (nI (zbt (f p) 20)) s = some (nI (zcn (f p) 20), s) := by
  have hq9 := sR_q hR
  have hB : ∀ p, p < nu → zbt (f p) 20 < 2 ^ 20 := fun p _ => zbt_lt _ 20
  have htot : zsm (fun p => zcn (f p) 20) nu ≤ 20 * nu := zsm_le nu (fun i _ => zcn_le (f i) 20)
  have hcp := zcn_le (f p) 20
  exact fun s hs => by
    have g69 : s 69 = I 69 := hs 69 (by unfold zLm; simp; omega)
    have g70 : s 70 = I 70 := hs 70 (by unfold zLm; simp; omega)
    have e1 := c_howMany (N := N) (I := s) hN hR h7 hB (by rw [g69]; exact h1) (fun p hp => by rw [g70]; exact h2 p hp)
    have e2 : zsm (fun p => z_pc 32 (zbt (f p) 20)) nu = zsm (fun p => zcn (f p) 20) nu := zsm_cong nu (fun p _ => z_pc_zbt _ 20 (by omega))
    rw [e2] at e1
    have e3 := c_bitCount (N := N) (R := R) (I := s) (n := zbt (f p) 20) (Nat.lt_of_lt_of_le (hB p hp) (by decide))
    rw [z_pc_zbt _ 20 (by omega)] at e3
    exact ⟨e1, by rw [g70]; exact h2 p hp, e3⟩
theorem c_unl_l (hN : 5000 ≤ N) (hR : sR R q) {p A B C : Nat} (hp : p < 7) (hA : A < 1000) (hB : B < 1000) (kst : ∀ s : Nat → Nat → Int32, zfr (zLm q) I s → f_X8_howMany N R 69 s = some (nI A, s) ∧ s 70 p = nI C ∧ f_J6_bitCount_0f7a4 N R (nI C) s = some (nI B, s)) : ∃ s, f_X8_unlikeSkills N R 69 q (nI p) I = (if A ≤ B then f_X8_unlikeSkills_55 N R N 69 q (nI p) (nI 0) (nI 1) s else (f_X8_meet N R 69 q (nI p) (nI 0) s).bind fun p8 => f_X8_unlikeSkills_55 N R N 69 q (nI p) (nI 0 + p8.1) (nI 1) p8.2) ∧ (∀ v, v < 100 → s 72 v = nI 0) ∧ zfr (zLm q) I s := by
  obtain ⟨e, he⟩ : ∃ e, e = 100 := ⟨_, rfl⟩
  have k72 : sm_kd 72 = (15, e) := by rw [he]; exact kd_72
  have L := zk_loop (fun n i s => f_X8_unlikeSkills_2 N R n 69 q (nI p) (nI i) s) (fun s => if A ≤ B then f_X8_unlikeSkills_55 N R N 69 q (nI p) (nI 0) (nI 1) s else (f_X8_meet N R 69 q (nI p) (nI 0) s).bind fun p8 => f_X8_unlikeSkills_55 N R N 69 q (nI p) (nI 0 + p8.1) (nI 1) p8.2) (fun i s => (∀ v, v < i → s 72 v = nI 0) ∧ zfr (zLm q) I s) e
    (fun n s hs => by
      obtain ⟨e1, e2, e3⟩ := kst s hs.2
      have h70 : (sm_kd (R 69 0)).1 = 13 ∧ ¬ (nI p < 0 ∨ (sm_kd (R 69 0)).2 ≤ (nI p).toNatClampNeg) := by
        rw [r69_0 hR, kd_70, nI_clamp (by omega), zl_0, nI_ltI (by omega) (by omega)]
        exact ⟨rfl, by show ¬ (p < 0 ∨ 7 ≤ p); omega⟩
      have h70v : s (R 69 0) (nI p).toNatClampNeg = nI C := by
        rw [r69_0 hR, nI_clamp (by omega)]
        exact e2
      by_cases hc : A ≤ B
      · rw [if_pos hc]
        unfold f_X8_unlikeSkills_2
        rw [gd_pos kd_69, gd_pos (by rw [r69_4 hR, kd_72])]
        rw [if_pos (by rw [r69_4 hR, k72, zl_ofNat]; exact Int32.le_refl _), e1, Option.bind_some]
        dsimp only
        rw [gd_pos h70, h70v, e3, Option.bind_some]
        dsimp only
        rw [if_pos ((nI_leI (by omega) (by omega)).mpr hc), zl_0, zl_1]
      · rw [if_neg hc]
        unfold f_X8_unlikeSkills_2
        rw [gd_pos kd_69, gd_pos (by rw [r69_4 hR, kd_72])]
        rw [if_pos (by rw [r69_4 hR, k72, zl_ofNat]; exact Int32.le_refl _), e1, Option.bind_some]
        dsimp only
        rw [gd_pos h70, h70v, e3, Option.bind_some]
        dsimp only
        rw [if_neg (fun h => hc ((nI_leI (by omega) (by omega)).mp h)), zl_0, zl_1])
    (fun n i s hi hs => by
      refine ⟨sm_up s 72 (sm_up (s 72) i (nI 0)), ?_, fun v hv => ?_, zfr_up hs.2 (by unfold zLm; simp) _⟩
      · simp (disch := omega) only [f_X8_unlikeSkills_2, kd_69, k72, r69_4 hR, zl_0, zl_1, zl_ofNat, nI_leI, nI_ltI, nI_add, nI_clamp, gd_t, gd_pos, lt_eq, Option.bind_some, true_and, and_true, not_true, not_false_iff, false_or, or_false, if_true, if_false, if_pos, if_neg]
      · rw [up_s]
        by_cases e2 : v = i
        · rw [e2, up_s]
        · rw [up_n _ _ e2]
          exact hs.1 v (by omega)) e 0 I N (by omega) (by omega) ⟨fun v hv => absurd hv (Nat.not_lt_zero v), zfr_refl _ _⟩
  obtain ⟨X, x1, x2, x3⟩ := L
  rw [he] at x2
  exact ⟨X, x1, x2, x3⟩
theorem c_unlike (hN : 5000 ≤ N) (hR : sR R q) (hso : z_sok S) (h7 : nu ≤ 7) (hS : zCS S q I) (hV : zCV nu V (q + 7) I) (ho : ∀ p, p < nu → z_pok S (V p)) {f : Nat → Nat → Bool} (h1 : I 69 1 = nI nu) (h2 : ∀ p, p < nu → I 70 p = nI (zbt (f p) 20)) {p : Nat} (hp : p < nu) : ∃ J, f_X8_unlikeSkills N R 69 q (nI p) I = some (nI (zcn (z_mb (f p) (z_sk S (V p)) (z_b0 f S V nu p) 20) 100), J) ∧ zfr (zLm q) I J := by
  have hq9 := sR_q hR
  have hB : ∀ p, p < nu → zbt (f p) 20 < 2 ^ 20 := fun p _ => zbt_lt _ 20
  have htot : zsm (fun p => zcn (f p) 20) nu ≤ 20 * nu := zsm_le nu (fun i _ => zcn_le (f i) 20)
  have hcp := zcn_le (f p) 20
  have kst := c_unl_k (N := N) hN hR hso h7 hS hV ho h1 h2 hp
  obtain ⟨X, x1, x2, x3⟩ := c_unl_l (N := N) (p := p) hN hR (by omega) (show zsm (fun p => zcn (f p) 20) nu < 1000 by omega) (show zcn (f p) 20 < 1000 by omega) kst
  have hB0 : zmt (fun _ => false) (X 72) := fun v hv => by
    rw [x2 v hv]
    rfl
  have e0 : zcn (fun _ => false) 100 = 0 := zcn_0 100 (fun j _ h => by cases h)
  by_cases hc : zsm (fun p => zcn (f p) 20) nu ≤ zcn (f p) 20
  · rw [if_pos hc] at x1
    obtain ⟨J, j1, j2⟩ := c_unlike55 (N := N) (I := X) hN hR hso h7 (zLm_S hR hS x3) hp (zLm_V hR x3 h7 hV) (ho p hp) (kst X x3).2.1 hB0
    rw [e0] at j1
    have e9 : z_b0 f S V nu p = fun _ => false := by
      funext v
      unfold z_b0
      rw [decide_eq_false (by omega), Bool.false_and]
    rw [e9]
    exact ⟨J, x1.trans j1, zfr_trans x3 j2⟩
  · rw [if_neg hc] at x1
    obtain ⟨Y, y1, y2, y3⟩ := c_meet (N := N) (I := X) hN hR hso (zLm_S hR hS x3) (show p < 7 by omega) ((zLm_V hR x3 h7 hV).2 p hp) (ho p hp) (w := 0) (by omega) hB0
    have y1' : f_X8_meet N R 69 q (nI p) (nI 0) X = some (nI 1, Y) := by
      rw [if_neg (by simp)] at y1
      exact y1
    have xy := zfr_trans x3 y3
    obtain ⟨J, j1, j2⟩ := c_unlike55 (N := N) (I := Y) hN hR hso h7 (zLm_S hR hS xy) hp (zLm_V hR xy h7 hV) (ho p hp) (kst Y xy).2.1 y2
    have h99 : z_sk S (V p) 0 < 100 := by
      have := (z_pok_wks 20 _ (z_ga_pok (ho p hp) (show 0 ≤ 30 by omega))).1
      unfold z_sk
      omega
    have e1 : zcn (fun v => false || decide (v = z_sk S (V p) 0)) 100 = 1 := by
      have := zcn_ad (B := fun _ => false) h99
      rw [e0] at this
      exact this
    rw [e1] at j1
    have e9 : z_b0 f S V nu p = fun v => false || decide (v = z_sk S (V p) 0) := by
      funext v
      unfold z_b0
      rw [decide_eq_true (show zcn (f p) 20 < zsm (fun p => zcn (f p) 20) nu by omega), Bool.true_and, Bool.false_or]
    rw [e9]
    refine ⟨J, x1.trans (Eq.trans ?_ j1), zfr_trans xy j2⟩
    · rw [y1', Option.bind_some]
      show f_X8_unlikeSkills_55 N R N 69 q (nI p) (nI 0 + nI 1) (nI 1) Y = f_X8_unlikeSkills_55 N R N 69 q (nI p) (nI 1) (nI 1) Y
      rw [nI_add]
end ZC
