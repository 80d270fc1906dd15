/-! ===== PURE PART: school: levels of an expression ===== -/
def zno : Option Nat → Int32
  | none => -nI 1
  | some k => nI k
def z_opr (tp : Nat → Nat) (L : Nat) (P : zK) : Option Nat :=
  if L = 0 then (if z_isw tp P 14 = true then some 20000 else none)
  else if L = 1 then (if z_isw tp P 15 = true then some 20001 else none)
  else if L = 3 then (if z_sg tp P 60 = true then some 20003 else if z_sg tp P 61 = true then some 20004 else none)
  else if L = 4 then (if z_sg tp P 43 = true then some 20005 else if z_sg tp P 45 = true then some 20006 else none)
  else if L = 5 then (if z_sg tp P 42 = true then some 20007 else if z_sg tp P 47 = true then some 20008 else none)
  else none
theorem z_opr_s {tp : Nat → Nat} {L : Nat} {P : zK} {v : Nat} (h : z_opr tp L P = some v) : 20000 ≤ v ∧ v ≤ 20008 ∧ v ≠ 20002 ∧ P.1 ≠ 0 := by
  have kw : ∀ w, z_isw tp P w = true → P.1 ≠ 0 := fun w hw => by
    have := (z_isw_e hw).1
    omega
  have ks : ∀ c, z_sg tp P c = true → P.1 ≠ 0 := fun c hw => by
    have := (z_sg_e hw).1
    omega
  unfold z_opr at h
  split at h
  · split at h
    · rename_i hw
      cases h
      exact ⟨by omega, by omega, by omega, kw _ hw⟩
    · cases h
  · split at h
    · split at h
      · rename_i hw
        cases h
        exact ⟨by omega, by omega, by omega, kw _ hw⟩
      · cases h
    · split at h
      · split at h
        · rename_i hw
          cases h
          exact ⟨by omega, by omega, by omega, ks _ hw⟩
        · split at h
          · rename_i hw
            cases h
            exact ⟨by omega, by omega, by omega, ks _ hw⟩
          · cases h
      · split at h
        · split at h
          · rename_i hw
            cases h
            exact ⟨by omega, by omega, by omega, ks _ hw⟩
          · split at h
            · rename_i hw
              cases h
              exact ⟨by omega, by omega, by omega, ks _ hw⟩
            · cases h
        · split at h
          · split at h
            · rename_i hw
              cases h
              exact ⟨by omega, by omega, by omega, ks _ hw⟩
            · split at h
              · rename_i hw
                cases h
                exact ⟨by omega, by omega, by omega, ks _ hw⟩
              · cases h
          · cases h
theorem zl_20008 : (20008 : Int32) = nI 20008 := rfl
section ZR
variable {N : Nat} {R Rm : Nat → Nat → Nat} {q qm d n m h c : Nat} {P : zK} {tp cd : Nat → Nat} {I K : Nat → Nat → Int32}
theorem c_oph (hN : 5000 ≤ N) (hR : sR R q) (hn : n ≤ 700) (htp : ∀ i, i < n → tp i < 256) (hT : zTk tp n P) (hC : zCT tp n P I) {L : Nat} (hL : L < 6) : f_X5_operatorHere N R 1 (nI L) I = some (zno (z_opr tp L P), I) := by
  have w14 := c_isWord (N := N) hN hR hn htp hT hC (w := 14) (by omega) (by omega)
  have w15 := c_isWord (N := N) hN hR hn htp hT hC (w := 15) (by omega) (by omega)
  have s60 := c_isSign (N := N) (R := R) hT hn htp hC (c := 60) (by omega)
  have s61 := c_isSign (N := N) (R := R) hT hn htp hC (c := 61) (by omega)
  have s43 := c_isSign (N := N) (R := R) hT hn htp hC (c := 43) (by omega)
  have s45 := c_isSign (N := N) (R := R) hT hn htp hC (c := 45) (by omega)
  have s42 := c_isSign (N := N) (R := R) hT hn htp hC (c := 42) (by omega)
  have s47 := c_isSign (N := N) (R := R) hT hn htp hC (c := 47) (by omega)
  have hc : L = 0 ∨ L = 1 ∨ L = 2 ∨ L = 3 ∨ L = 4 ∨ L = 5 := by omega
  rcases hc with rfl | rfl | rfl | rfl | rfl | rfl
  · by_cases h1 : z_isw tp P 14 = true
    · rw [if_pos h1] at w14
      have e : z_opr tp 0 P = some 20000 := by unfold z_opr; rw [if_pos rfl, if_pos h1]
      rw [e]
      simp (disch := omega) only [f_X5_operatorHere, kd_1, w14, zno, zl_0, zl_1, zl_20000, nI_eq, gd_t, gd_pos, Option.bind_some, if_true, if_neg]
    · rw [if_neg h1] at w14
      have e : z_opr tp 0 P = none := by unfold z_opr; rw [if_pos rfl, if_neg h1]
      rw [e]
      simp (disch := omega) only [f_X5_operatorHere, kd_1, w14, zno, zl_0, zl_1, zl_20000, nI_eq, gd_t, gd_pos, Option.bind_some, if_true, if_neg]
  · by_cases h1 : z_isw tp P 15 = true
    · rw [if_pos h1] at w15
      have e : z_opr tp 1 P = some 20001 := by unfold z_opr; rw [if_neg (by omega), if_pos rfl, if_pos h1]
      rw [e]
      simp (disch := omega) only [f_X5_operatorHere, kd_1, w15, zno, zl_0, zl_1, zl_20001, nI_eq, gd_t, gd_pos, Option.bind_some, if_true, if_neg]
    · rw [if_neg h1] at w15
      have e : z_opr tp 1 P = none := by unfold z_opr; rw [if_neg (by omega), if_pos rfl, if_neg h1]
      rw [e]
      simp (disch := omega) only [f_X5_operatorHere, kd_1, w15, zno, zl_0, zl_1, zl_20001, nI_eq, gd_t, gd_pos, Option.bind_some, if_true, if_neg]
  · have e : z_opr tp 2 P = none := rfl
    rw [e]
    simp (disch := omega) only [f_X5_operatorHere, kd_1, zno, zl_0, zl_1, zl_2, nI_eq, gd_t, gd_pos, if_true, if_neg]
  · by_cases h1 : z_sg tp P 60 = true
    · rw [if_pos h1] at s60
      have e : z_opr tp 3 P = some 20003 := by unfold z_opr; rw [if_neg (by omega), if_neg (by omega), if_pos rfl, if_pos h1]
      rw [e]
      simp (disch := omega) only [f_X5_operatorHere, kd_1, s60, zno, zl_0, zl_1, zl_2, zl_3, zl_60, zl_20003, nI_eq, gd_t, gd_pos, Option.bind_some, if_true, if_neg]
    · rw [if_neg h1] at s60
      by_cases h2 : z_sg tp P 61 = true
      · rw [if_pos h2] at s61
        have e : z_opr tp 3 P = some 20004 := by unfold z_opr; rw [if_neg (by omega), if_neg (by omega), if_pos rfl, if_neg h1, if_pos h2]
        rw [e]
        simp (disch := omega) only [f_X5_operatorHere, kd_1, s60, s61, zno, zl_0, zl_1, zl_2, zl_3, zl_60, zl_61, zl_20004, nI_eq, gd_t, gd_pos, Option.bind_some, if_true, if_neg]
      · rw [if_neg h2] at s61
        have e : z_opr tp 3 P = none := by unfold z_opr; rw [if_neg (by omega), if_neg (by omega), if_pos rfl, if_neg h1, if_neg h2]
        rw [e]
        simp (disch := omega) only [f_X5_operatorHere, kd_1, s60, s61, zno, zl_0, zl_1, zl_2, zl_3, zl_60, zl_61, nI_eq, gd_t, gd_pos, Option.bind_some, if_true, if_neg]
  · by_cases h1 : z_sg tp P 43 = true
    · rw [if_pos h1] at s43
      have e : z_opr tp 4 P = some 20005 := by unfold z_opr; rw [if_neg (by omega), if_neg (by omega), if_neg (by omega), if_pos rfl, if_pos h1]
      rw [e]
      simp (disch := omega) only [f_X5_operatorHere, kd_1, s43, zno, zl_0, zl_1, zl_2, zl_3, zl_4, zl_43, zl_20005, nI_eq, gd_t, gd_pos, Option.bind_some, if_true, if_neg]
    · rw [if_neg h1] at s43
      by_cases h2 : z_sg tp P 45 = true
      · rw [if_pos h2] at s45
        have e : z_opr tp 4 P = some 20006 := by unfold z_opr; rw [if_neg (by omega), if_neg (by omega), if_neg (by omega), if_pos rfl, if_neg h1, if_pos h2]
        rw [e]
        simp (disch := omega) only [f_X5_operatorHere, kd_1, s43, s45, zno, zl_0, zl_1, zl_2, zl_3, zl_4, zl_43, zl_45, zl_20006, nI_eq, gd_t, gd_pos, Option.bind_some, if_true, if_neg]
      · rw [if_neg h2] at s45
        have e : z_opr tp 4 P = none := by unfold z_opr; rw [if_neg (by omega), if_neg (by omega), if_neg (by omega), if_pos rfl, if_neg h1, if_neg h2]
        rw [e]
        simp (disch := omega) only [f_X5_operatorHere, kd_1, s43, s45, zno, zl_0, zl_1, zl_2, zl_3, zl_4, zl_43, zl_45, nI_eq, gd_t, gd_pos, Option.bind_some, if_true, if_neg]
  · by_cases h1 : z_sg tp P 42 = true
    · rw [if_pos h1] at s42
      have e : z_opr tp 5 P = some 20007 := by unfold z_opr; rw [if_neg (by omega), if_neg (by omega), if_neg (by omega), if_neg (by omega), if_pos rfl, if_pos h1]
      rw [e]
      simp (disch := omega) only [f_X5_operatorHere, kd_1, s42, zno, zl_0, zl_1, zl_2, zl_3, zl_4, zl_5, zl_42, zl_20007, nI_eq, gd_t, gd_pos, Option.bind_some, if_true, if_neg]
    · rw [if_neg h1] at s42
      by_cases h2 : z_sg tp P 47 = true
      · rw [if_pos h2] at s47
        have e : z_opr tp 5 P = some 20008 := by unfold z_opr; rw [if_neg (by omega), if_neg (by omega), if_neg (by omega), if_neg (by omega), if_pos rfl, if_neg h1, if_pos h2]
        rw [e]
        simp (disch := omega) only [f_X5_operatorHere, kd_1, s42, s47, zno, zl_0, zl_1, zl_2, zl_3, zl_4, zl_5, zl_42, zl_47, zl_20008, nI_eq, gd_t, gd_pos, Option.bind_some, if_true, if_neg]
      · rw [if_neg h2] at s47
        have e : z_opr tp 5 P = none := by unfold z_opr; rw [if_neg (by omega), if_neg (by omega), if_neg (by omega), if_neg (by omega), if_pos rfl, if_neg h1, if_neg h2]
        rw [e]
        simp (disch := omega) only [f_X5_operatorHere, kd_1, s42, s47, zno, zl_0, zl_1, zl_2, zl_3, zl_4, zl_5, zl_42, zl_47, nI_eq, gd_t, gd_pos, Option.bind_some, if_true, if_neg]
theorem c_oph_f (h3 : I 1 3 = nI 4) {L : Nat} (hL : L < 6) : f_X5_operatorHere N R 1 (nI L) I = some (-nI 1, I) := by
  have w := fun w => c_isWord_f (N := N) (R := R) (w := w) h3
  have s := fun x => c_isSign_f (N := N) (R := R) h3 x
  have hc : L = 0 ∨ L = 1 ∨ L = 2 ∨ L = 3 ∨ L = 4 ∨ L = 5 := by omega
  rcases hc with rfl | rfl | rfl | rfl | rfl | rfl
  all_goals simp (disch := omega) only [f_X5_operatorHere, kd_1, w, s, zl_0, zl_1, zl_2, zl_3, zl_4, zl_5, nI_eq, gd_t, gd_pos, Option.bind_some, if_true, if_neg]
end ZR
/-- a piece of an expression, read by both -/
def zTT (d : Nat) (tp : Nat → Nat) (n h k : Nat) (fc fm : (Nat → Nat → Int32) → Option (Unit × (Nat → Nat → Int32))) : Prop := (∀ I K P m cd c, zG d tp n P m cd h I K → m + c ≤ P.2.1 → ∃ J L, fc I = some ((), J) ∧ fm K = some ((), L) ∧ zCx d I J ∧ zMx K L ∧ ((∃ P' m' cd', zG d tp n P' m' cd' k J L ∧ m' + c ≤ P'.2.1 ∧ P.2.1 ≤ P'.2.1) ∨ zB d J L)) ∧ ∀ I K, zB d I K → fc I = some ((), I) ∧ fm K = some ((), K)
section ZR
variable {N : Nat} {R Rm : Nat → Nat → Nat} {q qm d n m h c : Nat} {P : zK} {tp cd : Nat → Nat} {I K : Nat → Nat → Int32} {fc fm : (Nat → Nat → Int32) → Option (Unit × (Nat → Nat → Int32))}
theorem r_op (hN : 5000 ≤ N) (hR : sR R q) (hRm : sR Rm qm) (hq : qR R d) (hd : d = 3 ∨ d = 22) (hn : n ≤ 700) (htp : ∀ i, i < n → tp i < 256) (hx : zTT d tp n (h + 1) (h + 2) fc fm) (hg : zG d tp n P m cd (h + 1) I K) (hs : m + c ≤ P.2.1) {v : Nat} (v1 : 20000 ≤ v) (v2 : v ≤ 20008) (v3 : v ≠ 20002) (hP : P.1 ≠ 0) : ∃ I1 I2 I3 K1 K2 K3, f_X5_advance N R 1 I = some ((), I1) ∧ fc I1 = some ((), I2) ∧ f_X6_add N R (d + 4) (nI v) I2 = some ((), I3) ∧ f_X12_stepOn N Rm 80 K = some ((), K1) ∧ fm K1 = some ((), K2) ∧ f_X12_lay N Rm 80 (z_tr v) K2 = some ((), K3) ∧ zCx d I I3 ∧ zMx K K3 ∧ ((∃ P' m' cd', zG d tp n P' m' cd' (h + 1) I3 K3 ∧ m' + c ≤ P'.2.1 ∧ P.2.1 < P'.2.1) ∨ zB d I3 K3) := by
  have hT := hg.2.2.1
  obtain ⟨t1, t2, t3, t4, t5⟩ := id hT
  obtain ⟨I1, K1, a1, a2, a3, a4, a5, a6⟩ := r_adv (N := N) hN hR hRm hd hn htp hg
  obtain ⟨I2, K2, b1, b2, b3, b4, b5⟩ := hx.1 I1 K1 _ m cd (c + 1) a3 (by omega)
  have f1 := zCx_trans (zCx_y hd a5) b3
  have f2 := zMx_trans (zMx_y a6) b4
  rcases b5 with ⟨P', m', cd', g1, g2, g3⟩ | hb
  · have hT' := g1.2.2.1
    obtain ⟨u1, u2, u3, u4, u5⟩ := id hT'
    obtain ⟨I3, K3, l1, l2, l3, l4, l5⟩ := r_lay (N := N) hR hRm hq hd g1 (by omega) (v := v) (z_ht_two v1 v2 v3)
    exact ⟨I1, I2, I3, K1, K2, K3, a1, b1, l1, a2, b2, l2, zCx_trans f1 l4, zMx_trans f2 l5, Or.inl ⟨P', m' + 1, _, l3, by omega, by omega⟩⟩
  · obtain ⟨I3, l1, l2, l3⟩ := c_add_f (N := N) hq hd hb (nI v)
    have l4 := m_lay_f (N := N) (R := Rm) hb (z_tr v)
    exact ⟨I1, I2, I3, K1, K2, K2, a1, b1, l1, a2, b2, l4, zCx_trans f1 l3, f2, Or.inr l2⟩
variable {rp : Nat → Int32 → (Nat → Nat → Int32) → Option (Unit × (Nat → Nat → Int32))} {rl : Nat → Int32 → Int32 → (Nat → Nat → Int32) → Option (Unit × (Nat → Nat → Int32))} {D L : Nat}
theorem c_127_f (h3 : I 1 3 = nI 4) {k i M : Nat} (hi : i < 2 ^ 31) (hM : M < 2 ^ 31) : f_X5_readLevel_127 N R rp rl (k + 1) 1 (nI L) (nI D) (nI M) (-nI 1) (nI i) I = some ((), I) := by
  by_cases h : M ≤ i
  · simp (disch := omega) only [f_X5_readLevel_127, nI_leI, if_pos]
  · simp (disch := omega) only [f_X5_readLevel_127, zl_1, nI_leI, if_neg, if_true]
theorem r_loop (hN : 5000 ≤ N) (hR : sR R q) (hRm : sR Rm qm) (hD : zDq R q d) (hq : qR R d) (hd : d = 3 ∨ d = 22) (hn : n ≤ 700) (htp : ∀ i, i < n → tp i < 256) (hL : L < 6) (hx : zTT d tp n (h + 1) (h + 2) (fun I => rl 1 (nI (L + 1)) (nI D) I) fm) {Ml : Nat → (Nat → Nat → Int32) → Option (Unit × (Nat → Nat → Int32))}
    (H0 : ∀ k P K, zTk tp n P → zMT tp n P K → z_opr tp L P = none → Ml (k + 1) K = some ((), K))
    (H1 : ∀ k P K v K1 K2 K3, zTk tp n P → zMT tp n P K → z_opr tp L P = some v → f_X12_stepOn N Rm 80 K = some ((), K1) → fm K1 = some ((), K2) → f_X12_lay N Rm 80 (z_tr v) K2 = some ((), K3) → Ml (k + 1) K = Ml k K3)
    (HF : ∀ k K e, 1 ≤ e → e ≤ 5 → K 80 22 = nI e → Ml (k + 1) K = some ((), K)) : ∀ (r i : Nat) (P : zK) (m : Nat) (cd : Nat → Nat) (c : Nat) (I K : Nat → Nat → Int32) (n1 n2 : Nat), n - P.2.1 ≤ r → r < n1 → r < n2 → i + (n - P.2.1) ≤ 700 → zG d tp n P m cd (h + 1) I K → m + c ≤ P.2.1 → ∃ J Z, f_X5_readLevel_127 N R rp rl n1 1 (nI L) (nI D) (nI 700) (zno (z_opr tp L P)) (nI i) I = some ((), J) ∧ Ml n2 K = some ((), Z) ∧ zCx d I J ∧ zMx K Z ∧ ((∃ P' m' cd', zG d tp n P' m' cd' (h + 1) J Z ∧ m' + c ≤ P'.2.1 ∧ P.2.1 ≤ P'.2.1) ∨ zB d J Z) := by
  intro r
  induction r with
  | zero =>
    intro i P m cd c I K n1 n2 h1 h2 h3 h4 hg hs
    obtain ⟨n1, rfl⟩ : ∃ k, n1 = k + 1 := ⟨n1 - 1, by omega⟩
    obtain ⟨n2, rfl⟩ : ∃ k, n2 = k + 1 := ⟨n2 - 1, by omega⟩
    have hT := hg.2.2.1
    have hno : z_opr tp L P = none := by
      rcases ho : z_opr tp L P with _ | v
      · rfl
      · obtain ⟨-, -, -, hp⟩ := z_opr_s ho
        have := hT.2.2.1
        have := hT.2.2.2.1
        omega
    rw [hno]
    refine ⟨I, K, ?_, H0 n2 P K hT hg.2.1 hno, zCx_refl d I, zMx_refl K, Or.inl ⟨P, m, cd, hg, hs, Nat.le_refl _⟩⟩
    by_cases h : 700 ≤ i
    · simp (disch := omega) only [f_X5_readLevel_127, nI_leI, if_pos]
    · simp (disch := omega) only [f_X5_readLevel_127, zno, zl_1, nI_leI, if_neg, if_true]
  | succ r ih =>
    intro i P m cd c I K n1 n2 h1 h2 h3 h4 hg hs
    obtain ⟨n1, rfl⟩ : ∃ k, n1 = k + 1 := ⟨n1 - 1, by omega⟩
    obtain ⟨n2, rfl⟩ : ∃ k, n2 = k + 1 := ⟨n2 - 1, by omega⟩
    have hT := hg.2.2.1
    obtain ⟨t1, t2, t3, t4, t5⟩ := id hT
    rcases ho : z_opr tp L P with _ | v
    · refine ⟨I, K, ?_, H0 n2 P K hT hg.2.1 ho, zCx_refl d I, zMx_refl K, Or.inl ⟨P, m, cd, hg, hs, Nat.le_refl _⟩⟩
      by_cases h : 700 ≤ i
      · simp (disch := omega) only [f_X5_readLevel_127, nI_leI, if_pos]
      · simp (disch := omega) only [f_X5_readLevel_127, zno, zl_1, nI_leI, if_neg, if_true]
    · obtain ⟨v1, v2, v3, v4⟩ := z_opr_s ho
      obtain ⟨I1, I2, I3, K1, K2, K3, a1, a2, a3, b1, b2, b3, f1, f2, fin⟩ := r_op (N := N) hN hR hRm hq hd hn htp hx hg hs v1 v2 v3 v4
      have a2 : rl 1 (nI (L + 1)) (nI D) I1 = some ((), I2) := a2
      have hM := H1 n2 P K v K1 K2 K3 hT hg.2.1 ho b1 b2 b3
      have step : ∀ w : Int32, f_X5_operatorHere N R 1 (nI L) I3 = some (w, I3) → f_X5_readLevel_127 N R rp rl (n1 + 1) 1 (nI L) (nI D) (nI 700) (zno (some v)) (nI i) I = f_X5_readLevel_127 N R rp rl n1 1 (nI L) (nI D) (nI 700) w (nI (i + 1)) I3 := fun w hw => by
        simp (disch := omega) only [f_X5_readLevel_127, zno, kd_1, hD.1, dk_0 hq, dr_4 hq, dk_4 hq, a1, a2, a3, hw, zl_1, nn_m1, nI_leI, nI_add, gd_t, gd_pos, Option.bind_some, if_neg, if_false]
      rcases fin with ⟨P', m', cd', g1, g2, g3⟩ | hb
      · have ho2 := c_oph (N := N) hN hR hn htp g1.2.2.1 g1.1 hL
        have u3 := g1.2.2.1.2.2.1
        have u2 := g1.2.2.1.2.1
        obtain ⟨J, Z, j1, j2, j3, j4, j5⟩ := ih (i + 1) P' m' cd' c I3 K3 n1 n2 (by omega) (by omega) (by omega) (by omega) g1 g2
        refine ⟨J, Z, (step _ ho2).trans j1, hM.trans j2, zCx_trans f1 j3, zMx_trans f2 j4, ?_⟩
        rcases j5 with ⟨P2, m2, cd2, g4, g5, g6⟩ | hb
        · exact Or.inl ⟨P2, m2, cd2, g4, g5, by omega⟩
        · exact Or.inr hb
      · have ho2 := c_oph_f (N := N) (R := R) (zB_3 hb) hL
        obtain ⟨e, e1, e2, e3⟩ := zB_22 hb
        obtain ⟨n1, rfl⟩ : ∃ k, n1 = k + 1 := ⟨n1 - 1, by omega⟩
        obtain ⟨n2, rfl⟩ : ∃ k, n2 = k + 1 := ⟨n2 - 1, by omega⟩
        exact ⟨I3, K3, (step _ ho2).trans (c_127_f (zB_3 hb) (by omega) (by omega)), hM.trans (HF n2 K3 e e1 e2 e3), f1, f2, Or.inr hb⟩
/-- a level with a loop -/
theorem r_level (hN : 5000 ≤ N) (hR : sR R q) (hRm : sR Rm qm) (hD : zDq R q d) (hq : qR R d) (hd : d = 3 ∨ d = 22) (hn : n ≤ 700) (htp : ∀ i, i < n → tp i < 256) (hL : L = 0 ∨ L = 1 ∨ L = 4 ∨ L = 5) (hDl : D < 6) (hx0 : zTT d tp n h (h + 1) (fun I => rl 1 (nI (L + 1)) (nI D) I) fm) (hx : zTT d tp n (h + 1) (h + 2) (fun I => rl 1 (nI (L + 1)) (nI D) I) fm) {Ml : Nat → (Nat → Nat → Int32) → Option (Unit × (Nat → Nat → Int32))}
    (H0 : ∀ k P K, zTk tp n P → zMT tp n P K → z_opr tp L P = none → Ml (k + 1) K = some ((), K))
    (H1 : ∀ k P K v K1 K2 K3, zTk tp n P → zMT tp n P K → z_opr tp L P = some v → f_X12_stepOn N Rm 80 K = some ((), K1) → fm K1 = some ((), K2) → f_X12_lay N Rm 80 (z_tr v) K2 = some ((), K3) → Ml (k + 1) K = Ml k K3)
    (HF : ∀ k K e, 1 ≤ e → e ≤ 5 → K 80 22 = nI e → Ml (k + 1) K = some ((), K)) : zTT d tp n h (h + 1) (fun I => f_X5_readLevel N R rp rl 1 (nI L) (nI D) I) (fun K => (fm K).bind fun p => Ml N p.2) := by
  obtain ⟨N1, hN1⟩ : ∃ k, N = k + 1 := ⟨N - 1, by omega⟩
  have hL6 : L < 6 := by omega
  have step : ∀ (I J : Nat → Nat → Int32) (w : Int32), rl 1 (nI (L + 1)) (nI D) I = some ((), J) → f_X5_operatorHere N R 1 (nI L) J = some (w, J) → f_X5_readLevel N R rp rl 1 (nI L) (nI D) I = f_X5_readLevel_127 N R rp rl N 1 (nI L) (nI D) (nI 700) w (nI 0) J := fun I J w h1 h2 => by
    have e1 : f_X5_readLevel_78 N R rp rl N 1 (nI L) (nI D) (nI 0) (nI 0) J = f_X5_readLevel_127 N R rp rl N 1 (nI L) (nI D) (nI 700) w (nI 0) J := by
      rw [show f_X5_readLevel_78 N R rp rl N = f_X5_readLevel_78 N R rp rl (N1 + 1) by rw [← hN1]]
      simp (disch := omega) only [f_X5_readLevel_78, kd_1, h2, zl_0, zl_3, zl_700, nI_leI, nI_eq, gd_t, gd_pos, Option.bind_some, if_pos, if_neg]
    refine Eq.trans ?_ e1
    simp (disch := omega) only [f_X5_readLevel, f_X5_readLevel_66, kd_1, h1, zl_0, zl_1, zl_2, zl_6, nI_add, nI_ltI, nI_eq, gd_t, gd_pos, Option.bind_some, if_pos, if_neg]
  refine ⟨fun I K P m cd c hg hs => ?_, fun I K hb => ?_⟩
  · obtain ⟨I1, K1, a1, a2, a3, a4, a5⟩ := hx0.1 I K P m cd c hg hs
    have a1 : rl 1 (nI (L + 1)) (nI D) I = some ((), I1) := a1
    rcases a5 with ⟨P', m', cd', g1, g2, g3⟩ | hb
    · have ho := c_oph (N := N) hN hR hn htp g1.2.2.1 g1.1 hL6
      have u3 := g1.2.2.1.2.2.1
      obtain ⟨J, Z, j1, j2, j3, j4, j5⟩ := r_loop (N := N) (rp := rp) (rl := rl) (D := D) hN hR hRm hD hq hd hn htp hL6 hx H0 H1 HF (n - P'.2.1) 0 P' m' cd' c I1 K1 N N (Nat.le_refl _) (by omega) (by omega) (by omega) g1 g2
      refine ⟨J, Z, (step I I1 _ a1 ho).trans j1, ?_, zCx_trans a3 j3, zMx_trans a4 j4, ?_⟩
      · show (fm K).bind _ = _
        rw [a2]
        exact j2
      · rcases j5 with ⟨P2, m2, cd2, g4, g5, g6⟩ | hb
        · exact Or.inl ⟨P2, m2, cd2, g4, g5, by omega⟩
        · exact Or.inr hb
    · have ho := c_oph_f (N := N) (R := R) (zB_3 hb) hL6
      obtain ⟨e, e1, e2, e3⟩ := zB_22 hb
      refine ⟨I1, K1, (step I I1 _ a1 ho).trans ?_, ?_, a3, a4, Or.inr hb⟩
      · rw [show f_X5_readLevel_127 N R rp rl N = f_X5_readLevel_127 N R rp rl (N1 + 1) by rw [← hN1]]
        exact c_127_f (zB_3 hb) (by omega) (by omega)
      · show (fm K).bind _ = _
        rw [a2]
        show Ml N K1 = _
        rw [hN1]
        exact HF N1 K1 e e1 e2 e3
  · obtain ⟨a1, a2⟩ := hx0.2 I K hb
    have a1 : rl 1 (nI (L + 1)) (nI D) I = some ((), I) := a1
    have ho := c_oph_f (N := N) (R := R) (zB_3 hb) hL6
    obtain ⟨e, e1, e2, e3⟩ := zB_22 hb
    refine ⟨(step I I _ a1 ho).trans ?_, ?_⟩
    · rw [show f_X5_readLevel_127 N R rp rl N = f_X5_readLevel_127 N R rp rl (N1 + 1) by rw [← hN1]]
      exact c_127_f (zB_3 hb) (by omega) (by omega)
    · show (fm K).bind _ = _
      rw [a2]
      show Ml N K = _
      rw [hN1]
      exact HF N1 K e e1 e2 e3
end ZR
