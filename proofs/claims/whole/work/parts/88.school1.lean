/-! ===== PURE PART: school: all lines ===== -/
theorem zz_rt40 : ∀ x ∈ zz_rt, ¬ (x.1 = 1 ∧ x.2.1 = 2) := by
  have h : zz_rt.all (fun x => !(Nat.beq x.1 1 && Nat.beq x.2.1 2)) = true := by decide +kernel
  intro x hx hc
  have h1 := List.all_eq_true.mp h x hx
  rw [hc.1, hc.2] at h1
  cases h1
theorem zz_rt0 : ∀ x ∈ zz_rt, ¬ (x.1 = 0 ∧ x.2.1 = 3) := by
  have h : zz_rt.all (fun x => !(Nat.beq x.1 0 && Nat.beq x.2.1 3)) = true := by decide +kernel
  intro x hx hc
  have h1 := List.all_eq_true.mp h x hx
  rw [hc.1, hc.2] at h1
  cases h1
theorem sR_dq {R : Nat → Nat → Nat} {q d : Nat} (hR : sR R q) (hd : d = 25 - q) : zDq R q d := ⟨hR.2.2.2.trans hd.symm, hd⟩
theorem sR_sw {R : Nat → Nat → Nat} {q d : Nat} (hR : sR R q) (hd : d = 25 - q) : sR (sm_up (sm_up R 0 (sm_up (R 0) 3 d)) 1 (sm_up (R 1) 2 q)) d := by
  have hq := hR.2.1
  refine ⟨fun x hx => ?_, by omega, by rw [up_n _ _ (by omega), up_s, up_s], by rw [up_s, up_s]; omega⟩
  rw [← hR.1 x hx]
  by_cases h1 : x.1 = 1
  · rw [h1, up_s, up_n _ _ (fun h2 => zz_rt40 x hx ⟨h1, h2⟩)]
  · rw [up_n _ _ h1]
    by_cases h0 : x.1 = 0
    · rw [h0, up_s, up_n _ _ (fun h2 => zz_rt0 x hx ⟨h0, h2⟩)]
    · rw [up_n _ _ h0]
/-- behind all lines -/
def zLend (d : Nat) (tp : Nat → Nat) (n : Nat) (J L : Nat → Nat → Int32) : Prop := (∃ P m cd X, zLn d tp n P m cd X J L ∧ P.1 = 0) ∨ zB d J L
section ZR
variable {N : Nat} {R Rm : Nat → Nat → Nat} {q qm d n : Nat} {tp : Nat → Nat} {I J K L : Nat → Nat → Int32}
theorem c_55_f (hb : zB d I K) {i : Nat} (hi : i ≤ 1000) (k : Nat) : f_X5_readSchool_50 N R (k + 1) 1 (nI i) I = some ((), I) := by
  have b3 := zB_3 hb
  obtain ⟨e, e1, e2, e3⟩ := zB_8 hb
  by_cases h : 700 ≤ i
  · simp (disch := omega) only [f_X5_readSchool_50, zl_700, nI_leI, if_pos]
  · simp (disch := omega) only [f_X5_readSchool_50, kd_1, b3, e3, zl_0, zl_700, nI_leI, nI_eq, gd_t, gd_pos, if_neg]
theorem m_85_f (hb : zB d I K) (k : Nat) (x : Int32) : f_X12_school_85 N R (k + 1) 80 x K = f_X12_school_108 N R 80 K := by
  obtain ⟨e, e1, e2, e3⟩ := zB_22 hb
  rw [f_X12_school_85]
  simp (disch := omega) only [kd_80, e3, zl_0, nI_eq, gd_t, gd_pos, if_neg]
theorem r_lines (hN : 5000 ≤ N) (hR : sR R q) (hRm : sR Rm qm) (hD : zDq R q d) (hn : n ≤ 700) (htp : ∀ i, i < n → tp i < 256) : ∀ (r i : Nat) (P : zK) (m : Nat) (cd : Nat → Nat) (X : zX9) (I K : Nat → Nat → Int32) (n1 n2 : Nat), n - P.2.1 ≤ r → r + 1 < n1 → r + 1 < n2 → i + (n - P.2.1) ≤ 700 → zLn d tp n P m cd X I K → ∃ J L, f_X5_readSchool_50 N R n1 1 (nI i) I = some ((), J) ∧ f_X12_school_85 N Rm n2 80 (nI (x_pt X + 2 * x_lt X)) K = f_X12_school_108 N Rm 80 L ∧ zfr (zDls d) I J ∧ zMg K L ∧ zLend d tp n J L := by
  intro r
  induction r with
  | zero =>
    intro i P m cd X I K n1 n2 h1 h2 h3 h4 hl
    obtain ⟨n1, rfl⟩ : ∃ k, n1 = k + 1 := ⟨n1 - 1, by omega⟩
    obtain ⟨n2, rfl⟩ : ∃ k, n2 = k + 1 := ⟨n2 - 1, by omega⟩
    have hg := hl.1
    obtain ⟨t1, t2, t3, t4, t5⟩ := id hg.2.2.1
    have hP : P.1 = 0 := by omega
    have i3 : I 1 3 = nI P.1 := hg.1.2.1
    have k18 : K 80 18 = nI (z_tkc tp P) := hg.2.1.2.1
    have k22 : K 80 22 = nI 0 := hg.2.1.1.2.2.2
    rw [hP] at i3
    rw [z_tkc_e.mpr hP] at k18
    refine ⟨I, K, ?_, ?_, zfr_refl _ _, zMg_refl K, Or.inl ⟨P, m, cd, X, hl, hP⟩⟩
    · by_cases h : 700 ≤ i
      · simp (disch := omega) only [f_X5_readSchool_50, zl_700, nI_leI, if_pos]
      · simp (disch := omega) only [f_X5_readSchool_50, kd_1, i3, zl_0, zl_700, nI_leI, gd_t, gd_pos, if_neg, if_true]
    · rw [f_X12_school_85]
      simp (disch := omega) only [kd_80, k18, k22, zl_0, gd_t, gd_pos, if_true]
  | succ r ih =>
    intro i P m cd X I K n1 n2 h1 h2 h3 h4 hl
    obtain ⟨n1, rfl⟩ : ∃ k, n1 = k + 1 := ⟨n1 - 1, by omega⟩
    obtain ⟨n2, rfl⟩ : ∃ k, n2 = k + 1 := ⟨n2 - 1, by omega⟩
    have hg := hl.1
    obtain ⟨t1, t2, t3, t4, t5⟩ := id hg.2.2.1
    have i3 : I 1 3 = nI P.1 := hg.1.2.1
    have i8 : I 1 8 = nI 0 := hg.1.1.2.2.2
    have k18 : K 80 18 = nI (z_tkc tp P) := hg.2.1.2.1
    have k22 : K 80 22 = nI 0 := hg.2.1.1.2.2.2
    have tk4 := z_tkc_le (tp := tp) (P := P)
    by_cases hP : P.1 = 0
    · rw [hP] at i3
      rw [z_tkc_e.mpr hP] at k18
      refine ⟨I, K, ?_, ?_, zfr_refl _ _, zMg_refl K, Or.inl ⟨P, m, cd, X, hl, hP⟩⟩
      · by_cases h : 700 ≤ i
        · simp (disch := omega) only [f_X5_readSchool_50, zl_700, nI_leI, if_pos]
        · simp (disch := omega) only [f_X5_readSchool_50, kd_1, i3, zl_0, zl_700, nI_leI, gd_t, gd_pos, if_neg, if_true]
      · rw [f_X12_school_85]
        simp (disch := omega) only [kd_80, k18, k22, zl_0, gd_t, gd_pos, if_true]
    · have hP2 : ¬ z_tkc tp P = 0 := fun h => hP (z_tkc_e.mp h)
      obtain ⟨J, L, x, a1, a2, a3, a4, a5⟩ := r_line (N := N) hN hR hRm hD hn htp hl
      have ec : f_X5_readSchool_50 N R (n1 + 1) 1 (nI i) I = f_X5_readSchool_50 N R n1 1 (nI (i + 1)) J := by
        rw [f_X5_readSchool_50]
        simp (disch := omega) only [kd_1, i3, i8, a1, zl_0, zl_1, zl_700, nI_leI, nI_eq, nI_add, gd_t, gd_pos, Option.bind_some, if_neg, if_true]
      have em : f_X12_school_85 N Rm (n2 + 1) 80 (nI (x_pt X + 2 * x_lt X)) K = f_X12_school_85 N Rm n2 80 x L := by
        rw [f_X12_school_85]
        simp (disch := omega) only [kd_80, k18, k22, a2, zl_0, nI_eq, gd_t, gd_pos, Option.bind_some, if_neg, if_true]
      rcases a5 with ⟨P', m', cd', X', g1, rfl, g3⟩ | hb
      · have u2 := g1.1.2.2.1.2.1
        have u3 := g1.1.2.2.1.2.2.1
        obtain ⟨J2, L2, b1, b2, b3, b4, b5⟩ := ih (i + 1) P' m' cd' X' J L n1 n2 (by omega) (by omega) (by omega) (by omega) g1
        exact ⟨J2, L2, ec.trans b1, em.trans b2, zfr_trans a3 b3, zMg_trans a4 b4, b5⟩
      · obtain ⟨n1, rfl⟩ : ∃ k, n1 = k + 1 := ⟨n1 - 1, by omega⟩
        obtain ⟨n2, rfl⟩ : ∃ k, n2 = k + 1 := ⟨n2 - 1, by omega⟩
        exact ⟨J, L, ec.trans (c_55_f hb (by omega) n1), em.trans (m_85_f hb n2 x), a3, a4, Or.inr hb⟩
theorem c_clear (hq : qR R d) : ∃ Y, f_X7_clear N R d I = some ((), Y) ∧ Y d 3 = nI 0 ∧ Y (d + 4) 1 = nI 0 ∧ Y (d + 4) 2 = nI 0 ∧ (Y (d + 7) 1 = nI 0 ∧ Y (d + 7) 2 = nI 0 ∧ Y (d + 7) 3 = nI 2) ∧ ∀ c, c ≠ d → c ≠ d + 4 → c ≠ d + 7 → Y c = I c := by
  refine ⟨sm_up (sm_up (sm_up I d (sm_up (I d) 3 (nI 0))) (d + 4) (sm_up (sm_up (I (d + 4)) 1 (nI 0)) 2 (nI 0))) (d + 7) (sm_up (sm_up (sm_up (I (d + 7)) 1 (nI 0)) 2 (nI 0)) 3 (nI 2)), ?_, ?_, ?_, ?_, ⟨?_, ?_, ?_⟩, ?_⟩
  · simp (disch := omega) only [f_X7_clear, f_X6_clear, f_X10_clear, dk_0 hq, dr_4 hq, dk_4 hq, dr_5 hq, dt_0 hq, zl_0, zl_2, up_s, up_n, up_uu, gd_t, gd_pos, lt_eq, Option.bind_some]
  · rw [up_n _ _ (by omega), up_n _ _ (by omega), up_s, up_s]
  · rw [up_n _ _ (by omega), up_s, up_n _ _ (by omega), up_s]
  · rw [up_n _ _ (by omega), up_s, up_s]
  · rw [up_s, up_n _ _ (by omega), up_n _ _ (by omega), up_s]
  · rw [up_s, up_n _ _ (by omega), up_s]
  · rw [up_s, up_s]
  · intro c h1 h2 h3
    rw [up_n _ _ h3, up_n _ _ h2, up_n _ _ h1]
def x_0 : zX9 := ((0, fun _ => 0, fun _ => 0, fun _ _ => 0), (0, fun _ _ => 0), 2, 0, 0)
theorem x_0_ok : zDO x_0 := ⟨⟨by decide, fun w hw => absurd hw (Nat.not_lt_zero w)⟩, ⟨by decide, fun p hp => absurd hp (Nat.not_lt_zero p)⟩, by decide, by decide, by decide, by decide⟩
/-- the class's start -/
theorem c_rstart (hN : 5000 ≤ N) (hR : sR R q) (hdq : d = 25 - q) (hn : n ≤ 700) (htp : ∀ i, i < n → tp i < 256) (hT : ∀ i, i < n → I 2 i = sm_i8 (nI (tp i))) : ∃ J, f_X5_readSchool N R 1 (nI n) I = f_X5_readSchool_50 N R N 1 (nI 0) J ∧ zCT tp n (z_scan tp n 0) J ∧ zDC d x_0 J ∧ J (d + 4) 1 = nI 0 ∧ J 1 9 = -nI 1 ∧ zfr (zDls d) I J := by
  have hD := sR_dq hR hdq
  have hq := dq_q hR hD
  have hd := dq_d hR hD
  have hx : sm_mx (nI 0) (sm_mn (nI n) (nI 700)) = nI n := by
    rw [mn_nI (by omega) (by omega), mx_nI (by omega) (by omega)]
    congr 1
    omega
  obtain ⟨X1, hX1⟩ : ∃ X1, X1 = sm_up I 1 (sm_up (I 1) 1 (nI n)) := ⟨_, rfl⟩
  obtain ⟨Y, y1, y2, y3, y4, ⟨y5, y6, y7⟩, y8⟩ := c_clear (N := N) (I := X1) hq
  obtain ⟨Z, hZ⟩ : ∃ Z, Z = sm_up Y 1 (sm_up (sm_up (sm_up (sm_up (Y 1) 5 (nI 0)) 8 (nI 0)) 9 (-nI 1)) 10 (nI 0)) := ⟨_, rfl⟩
  have gz : ∀ c, c ≠ 1 → Z c = Y c := fun c hc => by rw [hZ, up_n _ _ hc]
  have z1 : Z 2 = I 2 := by rw [gz 2 (by omega), y8 2 (by omega) (by omega) (by omega), hX1, up_n _ _ (by omega)]
  have hz : zCT0 tp n 0 Z := by
    refine ⟨?_, fun i hi => by rw [z1]; exact hT i hi, ?_, ?_⟩
    · rw [hZ, up_s, up_n _ _ (by omega), up_n _ _ (by omega), up_n _ _ (by omega), up_n _ _ (by omega), y8 1 (by omega) (by omega) (by omega), hX1, up_s, up_s]
    · rw [hZ, up_s, up_n _ _ (by omega), up_n _ _ (by omega), up_n _ _ (by omega), up_s]
    · rw [hZ, up_s, up_n _ _ (by omega), up_n _ _ (by omega), up_s]
  obtain ⟨J, j1, j2, j3⟩ := c_adv (N := N) hN hR hn htp (Nat.zero_le n) hz
  have gj : ∀ c, c ≠ 1 → J c = Y c := fun c hc => (j3.1 c hc).trans (gz c hc)
  have r40 : R 1 0 = 2 := r1_0 hR
  have r2 : R 1 2 = d := hD.1
  refine ⟨J, ?_, j2, ⟨⟨by rw [gj d (by omega)]; exact y2, fun w hw => absurd hw (Nat.not_lt_zero w)⟩, ⟨by rw [gj _ (by omega)]; exact y5, fun p hp => absurd hp (Nat.not_lt_zero p)⟩, by rw [gj _ (by omega)]; exact y6, by rw [gj _ (by omega)]; exact y7, by rw [gj _ (by omega)]; exact y4, ?_⟩, by rw [gj _ (by omega)]; exact y3, ?_, fun c hc => ?_⟩
  · simp (disch := omega) only [f_X5_readSchool, kd_1, kd_2, r40, zl_0, zl_1, zl_ofNat, hx, ← hX1, r2, dk_0 hq, y1, up_s, up_uu, ← hZ, j1, gd_t, gd_pos, lt_eq, Option.bind_some]
  · rw [j3.2 10 (by omega), hZ, up_s, up_s]
    rfl
  · rw [j3.2 9 (by omega), hZ, up_s, up_n _ _ (by omega), up_s]
  · have h0 : c ≠ 1 := fun h => hc (by rw [h]; unfold zDls; simp)
    have h1 : c ≠ d := fun h => hc (by rw [h]; unfold zDls; simp)
    have h2 : c ≠ d + 4 := fun h => hc (by rw [h]; unfold zDls; simp)
    have h3 : c ≠ d + 7 := fun h => hc (by rw [h]; unfold zDls; simp)
    rw [gj c h0, y8 c h1 h2 h3, hX1, up_n _ _ h0]
def zMsF : List Nat := [3, 15, 16, 17, 18, 19, 20, 21, 22, 23, 24]
/-- the model's start -/
theorem m_rstart (hN : 5000 ≤ N) (hR : sR R q) (hn : n ≤ 700) (htp : ∀ i, i < n → tp i < 256) {nt : Nat} (hnt : n ≤ nt) (hnt7 : nt ≤ 700) (h15 : K 80 15 = nI nt) (hT : ∀ i, i < n → K 94 i = nI (tp i)) : ∃ L, f_X12_school N R 80 (nI n) K = f_X12_school_85 N R N 80 (nI 0) L ∧ zMT tp n (z_scan tp n 0) L ∧ zDM x_0 L ∧ L 84 7 = nI 0 ∧ (L 80 3 = nI 0 ∧ L 80 15 = nI 0 ∧ L 80 24 = -nI 1) ∧ zfm [84] zMsF K L ∧ ∀ j, j < 4 → L 84 j = K 84 j := by
  obtain ⟨X, hX⟩ : ∃ X, X = sm_up K 80 (sm_up (sm_up (sm_up (sm_up (sm_up (sm_up (K 80) 3 (nI 0)) 15 (nI 0)) 17 (nI n)) 16 (nI 0)) 22 (nI 0)) 24 (-nI 1)) := ⟨_, rfl⟩
  have xc : ∀ c, c ≠ 80 → X c = K c := fun c hc => by rw [hX, up_n _ _ hc]
  have xf : zfm [] zMsF K X := ⟨fun c hc _ => xc c hc, fun j hj => by
    unfold zMsF at hj
    simp only [List.mem_cons, List.not_mem_nil, or_false] at hj
    rw [hX, up_s, up_n _ _ (by omega), up_n _ _ (by omega), up_n _ _ (by omega), up_n _ _ (by omega), up_n _ _ (by omega), up_n _ _ (by omega)]⟩
  have L1 := zk_loop (fun k j s => f_X12_school_50 N R k 80 (nI j) s) (fun s => (f_X12_stepOn N R 80 s).bind fun p => f_X12_school_85 N R N 80 (nI 0) p.2) (fun j s => (∀ i, i < j → s 84 (4 + i) = nI (if i = 2 then 2 else 0)) ∧ (∀ i, i < 4 → s 84 i = X 84 i) ∧ zfm [84] [] X s) 4
    (fun k s hs => by simp (disch := omega) only [f_X12_school_50, kd_80, zl_0, zl_4, nI_leI, gd_t, gd_pos, if_pos])
    (fun k j s hj hs => by
      obtain ⟨h1, h2, h3⟩ := hs
      refine ⟨sm_up s 84 (sm_up (s 84) (4 + j) (nI (if j = 2 then 2 else 0))), ?_, fun i hi => ?_, fun i hi => ?_, zfm_up h3 (by simp) (by omega) _⟩
      · by_cases h : j = 2
        · rw [if_pos h]
          simp (disch := omega) only [f_X12_school_50, kd_80, r80_4 hR, kd_84, h, zl_0, zl_1, zl_2, zl_4, nI_add, nI_leI, nI_ltI, nI_eq, nI_clamp, gd_t, gd_pos, lt_eq, Option.bind_some, true_and, and_true, not_true, not_false_iff, false_or, or_false, if_true, if_false, if_pos, if_neg]
        · rw [if_neg h]
          simp (disch := omega) only [f_X12_school_50, kd_80, r80_4 hR, kd_84, zl_0, zl_1, zl_2, zl_4, nI_add, nI_leI, nI_ltI, nI_eq, nI_clamp, gd_t, gd_pos, lt_eq, Option.bind_some, true_and, and_true, not_true, not_false_iff, false_or, or_false, if_true, if_false, if_pos, if_neg]
      · rw [up_s]
        by_cases e : i = j
        · rw [e, up_s]
        · rw [up_n _ _ (by omega)]
          exact h1 i (by omega)
      · rw [up_s, up_n _ _ (by omega)]
        exact h2 i hi) 4 0 X N (by omega) (by omega) ⟨fun i hi => absurd hi (Nat.not_lt_zero i), fun _ _ => rfl, zfm_refl _ _ _⟩
  obtain ⟨Y, y1, y2, y3, y4⟩ := L1
  have y80 : ∀ f, Y 80 f = X 80 f := fun f => y4.2 f (by simp)
  have hz : zMT0 tp n 0 Y := by
    refine ⟨?_, fun i hi => by rw [y4.1 94 (by omega) (by simp), xc 94 (by omega)]; exact hT i hi, ?_, ?_⟩
    · rw [y80, hX, up_s, up_n _ _ (by omega), up_n _ _ (by omega), up_n _ _ (by omega), up_s]
    · rw [y80, hX, up_s, up_n _ _ (by omega), up_n _ _ (by omega), up_s]
    · rw [y80, hX, up_s, up_n _ _ (by omega), up_s]
  obtain ⟨L, l1, l2, l3⟩ := m_step (N := N) hN hR hn htp (Nat.zero_le n) hz
  have l84 : L 84 = Y 84 := l3.1 84 (by omega) (by simp)
  refine ⟨L, ?_, l2, ⟨⟨by rw [l84]; exact y2 0 (by omega), by rw [l84]; exact y2 1 (by omega), by rw [l84]; exact y2 2 (by omega)⟩, fun w hw => absurd hw (Nat.not_lt_zero w), fun p hp => absurd hp (Nat.not_lt_zero p)⟩, by rw [l84]; exact y2 3 (by omega), ⟨?_, ?_, ?_⟩, zfm_trans (zfm_trans (zfm_mono xf (by simp) (fun _ h => h)) (zfm_mono y4 (by simp) (by simp))) (zfm_mono l3 (by simp) (by decide)), fun j hj => by rw [l84, y3 j hj, xc 84 (by omega)]⟩
  · have e1 : f_X12_school N R 80 (nI n) K = f_X12_school_50 N R N 80 (nI 0) X := by
      rw [hX]
      simp (disch := omega) only [f_X12_school, kd_80, h15, zl_0, zl_1, nI_ltI, nI_leI, up_s, up_n, up_uu, gd_t, gd_pos, lt_eq, if_pos, if_neg]
    refine e1.trans (y1.trans ?_)
    rw [l1]
    rfl
  · rw [l3.2 3 (by decide), y80, hX, up_s, up_n _ _ (by omega), up_n _ _ (by omega), up_n _ _ (by omega), up_n _ _ (by omega), up_n _ _ (by omega), up_s]
  · rw [l3.2 15 (by decide), y80, hX, up_s, up_n _ _ (by omega), up_n _ _ (by omega), up_n _ _ (by omega), up_n _ _ (by omega), up_s]
  · rw [l3.2 24 (by decide), y80, hX, up_s, up_s]
end ZR
