/-! ===== PURE PART: school: expressions ===== -/
theorem z_opr5 {tp : Nat → Nat} {P : zK} {v : Nat} (h : z_opr tp 5 P = some v) : (v = 20007 ∧ z_sg tp P 42 = true) ∨ (v = 20008 ∧ ¬ z_sg tp P 42 = true ∧ z_sg tp P 47 = true) := by
  unfold z_opr at h
  rw [if_neg (by omega), if_neg (by omega), if_neg (by omega), if_neg (by omega), if_pos rfl] at h
  by_cases h1 : z_sg tp P 42 = true
  · rw [if_pos h1] at h
    cases h
    exact Or.inl ⟨rfl, h1⟩
  · rw [if_neg h1] at h
    by_cases h2 : z_sg tp P 47 = true
    · rw [if_pos h2] at h
      cases h
      exact Or.inr ⟨rfl, h1, h2⟩
    · rw [if_neg h2] at h
      cases h
theorem z_opr5n {tp : Nat → Nat} {P : zK} (h : z_opr tp 5 P = none) : ¬ z_sg tp P 42 = true ∧ ¬ z_sg tp P 47 = true := by
  unfold z_opr at h
  rw [if_neg (by omega), if_neg (by omega), if_neg (by omega), if_neg (by omega), if_pos rfl] at h
  by_cases h1 : z_sg tp P 42 = true
  · rw [if_pos h1] at h
    cases h
  · rw [if_neg h1] at h
    by_cases h2 : z_sg tp P 47 = true
    · rw [if_pos h2] at h
      cases h
    · exact ⟨h1, h2⟩
theorem z_opr4 {tp : Nat → Nat} {P : zK} {v : Nat} (h : z_opr tp 4 P = some v) : (v = 20005 ∧ z_sg tp P 43 = true) ∨ (v = 20006 ∧ ¬ z_sg tp P 43 = true ∧ z_sg tp P 45 = true) := by
  unfold z_opr at h
  rw [if_neg (by omega), if_neg (by omega), if_neg (by omega), if_pos rfl] at h
  by_cases h1 : z_sg tp P 43 = true
  · rw [if_pos h1] at h
    cases h
    exact Or.inl ⟨rfl, h1⟩
  · rw [if_neg h1] at h
    by_cases h2 : z_sg tp P 45 = true
    · rw [if_pos h2] at h
      cases h
      exact Or.inr ⟨rfl, h1, h2⟩
    · rw [if_neg h2] at h
      cases h
theorem z_opr4n {tp : Nat → Nat} {P : zK} (h : z_opr tp 4 P = none) : ¬ z_sg tp P 43 = true ∧ ¬ z_sg tp P 45 = true := by
  unfold z_opr at h
  rw [if_neg (by omega), if_neg (by omega), if_neg (by omega), if_pos rfl] at h
  by_cases h1 : z_sg tp P 43 = true
  · rw [if_pos h1] at h
    cases h
  · rw [if_neg h1] at h
    by_cases h2 : z_sg tp P 45 = true
    · rw [if_pos h2] at h
      cases h
    · exact ⟨h1, h2⟩
theorem z_opr0 {tp : Nat → Nat} {P : zK} {v : Nat} (h : z_opr tp 0 P = some v) : v = 20000 ∧ z_isw tp P 14 = true := by
  unfold z_opr at h
  rw [if_pos rfl] at h
  by_cases h1 : z_isw tp P 14 = true
  · rw [if_pos h1] at h
    cases h
    exact ⟨rfl, h1⟩
  · rw [if_neg h1] at h
    cases h
theorem z_opr0n {tp : Nat → Nat} {P : zK} (h : z_opr tp 0 P = none) : ¬ z_isw tp P 14 = true := by
  unfold z_opr at h
  rw [if_pos rfl] at h
  by_cases h1 : z_isw tp P 14 = true
  · rw [if_pos h1] at h
    cases h
  · exact h1
theorem z_opr1 {tp : Nat → Nat} {P : zK} {v : Nat} (h : z_opr tp 1 P = some v) : v = 20001 ∧ z_isw tp P 15 = true := by
  unfold z_opr at h
  rw [if_neg (by omega), if_pos rfl] at h
  by_cases h1 : z_isw tp P 15 = true
  · rw [if_pos h1] at h
    cases h
    exact ⟨rfl, h1⟩
  · rw [if_neg h1] at h
    cases h
theorem z_opr1n {tp : Nat → Nat} {P : zK} (h : z_opr tp 1 P = none) : ¬ z_isw tp P 15 = true := by
  unfold z_opr at h
  rw [if_neg (by omega), if_pos rfl] at h
  by_cases h1 : z_isw tp P 15 = true
  · rw [if_pos h1] at h
    cases h
  · exact h1
section ZR
variable {N : Nat} {R Rm : Nat → Nat → Nat} {q qm d n m h c D : Nat} {P : zK} {tp cd : Nat → Nat} {I K : Nat → Nat → Int32} {rp : Nat → Int32 → (Nat → Nat → Int32) → Option (Unit × (Nat → Nat → Int32))} {rl : Nat → Int32 → Int32 → (Nat → Nat → Int32) → Option (Unit × (Nat → Nat → Int32))} {rP rS rN rA rE rT : Nat → Int32 → (Nat → Nat → Int32) → Option (Unit × (Nat → Nat → Int32))}
theorem h_prod0 (hR : sR R q) (hn : n ≤ 700) (htp : ∀ i, i < n → tp i < 256) : ∀ k P K, zTk tp n P → zMT tp n P K → z_opr tp 5 P = none → f_X12_readProduct_5 N R rP rS rN rA rE rT (k + 1) 80 (nI D) K = some ((), K) := fun k P K hT hM ho => by
  obtain ⟨o1, o2⟩ := z_opr5n ho
  have e1 := m_isMarked (N := N) hR hn htp hT hM (c := 42) (by omega) (by decide)
  have e2 := m_isMarked (N := N) hR hn htp hT hM (c := 47) (by omega) (by decide)
  rw [if_neg o1] at e1
  rw [if_neg o2] at e2
  simp (disch := omega) only [f_X12_readProduct_5, kd_80, e1, e2, zl_0, zl_42, zl_47, gd_t, gd_pos, Option.bind_some, if_true]
theorem h_prod1 (hR : sR R q) (hn : n ≤ 700) (htp : ∀ i, i < n → tp i < 256) : ∀ k P K v K1 K2 K3, zTk tp n P → zMT tp n P K → z_opr tp 5 P = some v → f_X12_stepOn N R 80 K = some ((), K1) → rT 80 (nI D) K1 = some ((), K2) → f_X12_lay N R 80 (z_tr v) K2 = some ((), K3) → f_X12_readProduct_5 N R rP rS rN rA rE rT (k + 1) 80 (nI D) K = f_X12_readProduct_5 N R rP rS rN rA rE rT k 80 (nI D) K3 := fun k P K v K1 K2 K3 hT hM ho b1 b2 b3 => by
  have e1 := m_isMarked (N := N) hR hn htp hT hM (c := 42) (by omega) (by decide)
  have e2 := m_isMarked (N := N) hR hn htp hT hM (c := 47) (by omega) (by decide)
  rcases z_opr5 ho with ⟨rfl, o1⟩ | ⟨rfl, o1, o2⟩
  · rw [if_pos o1] at e1
    rw [z_tr7] at b3
    rw [f_X12_readProduct_5]
    simp (disch := omega) only [f_X12_readProduct_23, f_X12_readProduct_39, kd_80, e1, b1, b2, b3, zl_0, zl_42, zl_47, nI_eq, gd_t, gd_pos, Option.bind_some, if_neg]
  · rw [if_neg o1] at e1
    rw [if_pos o2] at e2
    rw [z_tr8] at b3
    rw [f_X12_readProduct_5]
    simp (disch := omega) only [f_X12_readProduct_23, f_X12_readProduct_39, kd_80, e1, e2, b1, b2, b3, zl_0, zl_42, zl_47, nI_eq, gd_t, gd_pos, Option.bind_some, if_true, if_neg]
theorem h_prodf : ∀ (k : Nat) (K : Nat → Nat → Int32) (e : Nat), 1 ≤ e → e ≤ 5 → K 80 22 = nI e → f_X12_readProduct_5 N R rP rS rN rA rE rT (k + 1) 80 (nI D) K = some ((), K) := fun k K e h1 h2 h3 => by
  have e1 := fun x => m_isMarked_f (N := N) (R := R) h3 h1 h2 x
  simp (disch := omega) only [f_X12_readProduct_5, kd_80, e1, zl_0, gd_t, gd_pos, Option.bind_some, if_true]
theorem h_sum0 (hR : sR R q) (hn : n ≤ 700) (htp : ∀ i, i < n → tp i < 256) : ∀ k P K, zTk tp n P → zMT tp n P K → z_opr tp 4 P = none → f_X12_readSum_5 N R rP rS rN rA rE rT (k + 1) 80 (nI D) K = some ((), K) := fun k P K hT hM ho => by
  obtain ⟨o1, o2⟩ := z_opr4n ho
  have e1 := m_isMarked (N := N) hR hn htp hT hM (c := 43) (by omega) (by decide)
  have e2 := m_isMarked (N := N) hR hn htp hT hM (c := 45) (by omega) (by decide)
  rw [if_neg o1] at e1
  rw [if_neg o2] at e2
  simp (disch := omega) only [f_X12_readSum_5, kd_80, e1, e2, zl_0, zl_43, zl_45, gd_t, gd_pos, Option.bind_some, if_true]
theorem h_sum1 (hR : sR R q) (hn : n ≤ 700) (htp : ∀ i, i < n → tp i < 256) : ∀ k P K v K1 K2 K3, zTk tp n P → zMT tp n P K → z_opr tp 4 P = some v → f_X12_stepOn N R 80 K = some ((), K1) → rP 80 (nI D) K1 = some ((), K2) → f_X12_lay N R 80 (z_tr v) K2 = some ((), K3) → f_X12_readSum_5 N R rP rS rN rA rE rT (k + 1) 80 (nI D) K = f_X12_readSum_5 N R rP rS rN rA rE rT k 80 (nI D) K3 := fun k P K v K1 K2 K3 hT hM ho b1 b2 b3 => by
  have e1 := m_isMarked (N := N) hR hn htp hT hM (c := 43) (by omega) (by decide)
  have e2 := m_isMarked (N := N) hR hn htp hT hM (c := 45) (by omega) (by decide)
  rcases z_opr4 ho with ⟨rfl, o1⟩ | ⟨rfl, o1, o2⟩
  · rw [if_pos o1] at e1
    rw [z_tr5] at b3
    rw [f_X12_readSum_5]
    simp (disch := omega) only [f_X12_readSum_23, f_X12_readSum_39, kd_80, e1, b1, b2, b3, zl_0, zl_43, zl_45, nI_eq, gd_t, gd_pos, Option.bind_some, if_neg]
  · rw [if_neg o1] at e1
    rw [if_pos o2] at e2
    rw [z_tr6] at b3
    rw [f_X12_readSum_5]
    simp (disch := omega) only [f_X12_readSum_23, f_X12_readSum_39, kd_80, e1, e2, b1, b2, b3, zl_0, zl_43, zl_45, nI_eq, gd_t, gd_pos, Option.bind_some, if_true, if_neg]
theorem h_sumf : ∀ (k : Nat) (K : Nat → Nat → Int32) (e : Nat), 1 ≤ e → e ≤ 5 → K 80 22 = nI e → f_X12_readSum_5 N R rP rS rN rA rE rT (k + 1) 80 (nI D) K = some ((), K) := fun k K e h1 h2 h3 => by
  have e1 := fun x => m_isMarked_f (N := N) (R := R) h3 h1 h2 x
  simp (disch := omega) only [f_X12_readSum_5, kd_80, e1, zl_0, gd_t, gd_pos, Option.bind_some, if_true]
theorem h_and0 (hN : 5000 ≤ N) (hR : sR R q) (hn : n ≤ 700) (htp : ∀ i, i < n → tp i < 256) : ∀ k P K, zTk tp n P → zMT tp n P K → z_opr tp 1 P = none → f_X12_readAnd_5 N R rP rS rN rA rE rT (k + 1) 80 (nI D) K = some ((), K) := fun k P K hT hM ho => by
  have e1 := m_is (N := N) hN hR hn htp hT hM (w := 15) (by omega) (by omega)
  rw [if_neg (z_opr1n ho)] at e1
  simp (disch := omega) only [f_X12_readAnd_5, kd_80, e1, zl_0, gd_t, gd_pos, Option.bind_some, if_true]
theorem h_and1 (hN : 5000 ≤ N) (hR : sR R q) (hn : n ≤ 700) (htp : ∀ i, i < n → tp i < 256) : ∀ k P K v K1 K2 K3, zTk tp n P → zMT tp n P K → z_opr tp 1 P = some v → f_X12_stepOn N R 80 K = some ((), K1) → rN 80 (nI D) K1 = some ((), K2) → f_X12_lay N R 80 (z_tr v) K2 = some ((), K3) → f_X12_readAnd_5 N R rP rS rN rA rE rT (k + 1) 80 (nI D) K = f_X12_readAnd_5 N R rP rS rN rA rE rT k 80 (nI D) K3 := fun k P K v K1 K2 K3 hT hM ho b1 b2 b3 => by
  have e1 := m_is (N := N) hN hR hn htp hT hM (w := 15) (by omega) (by omega)
  obtain ⟨rfl, o1⟩ := z_opr1 ho
  rw [if_pos o1] at e1
  rw [z_tr1] at b3
  rw [f_X12_readAnd_5]
  simp (disch := omega) only [kd_80, e1, b1, b2, b3, zl_0, nI_eq, gd_t, gd_pos, Option.bind_some, if_neg]
theorem h_andf (hN : 5000 ≤ N) : ∀ (k : Nat) (K : Nat → Nat → Int32) (e : Nat), 1 ≤ e → e ≤ 5 → K 80 22 = nI e → f_X12_readAnd_5 N R rP rS rN rA rE rT (k + 1) 80 (nI D) K = some ((), K) := fun k K e h1 h2 h3 => by
  have e1 := m_is_f (N := N) (R := R) (w := 15) hN h3 h1 h2
  simp (disch := omega) only [f_X12_readAnd_5, kd_80, e1, zl_0, gd_t, gd_pos, Option.bind_some, if_true]
theorem h_or0 (hN : 5000 ≤ N) (hR : sR R q) (hn : n ≤ 700) (htp : ∀ i, i < n → tp i < 256) : ∀ k P K, zTk tp n P → zMT tp n P K → z_opr tp 0 P = none → f_X12_readExpression_67 N R rP rS rN rA rE rT (k + 1) 80 (nI D) K = some ((), K) := fun k P K hT hM ho => by
  have e1 := m_is (N := N) hN hR hn htp hT hM (w := 14) (by omega) (by omega)
  rw [if_neg (z_opr0n ho)] at e1
  simp (disch := omega) only [f_X12_readExpression_67, kd_80, e1, zl_0, gd_t, gd_pos, Option.bind_some, if_true]
theorem h_or1 (hN : 5000 ≤ N) (hR : sR R q) (hn : n ≤ 700) (htp : ∀ i, i < n → tp i < 256) : ∀ k P K v K1 K2 K3, zTk tp n P → zMT tp n P K → z_opr tp 0 P = some v → f_X12_stepOn N R 80 K = some ((), K1) → rA 80 (nI D) K1 = some ((), K2) → f_X12_lay N R 80 (z_tr v) K2 = some ((), K3) → f_X12_readExpression_67 N R rP rS rN rA rE rT (k + 1) 80 (nI D) K = f_X12_readExpression_67 N R rP rS rN rA rE rT k 80 (nI D) K3 := fun k P K v K1 K2 K3 hT hM ho b1 b2 b3 => by
  have e1 := m_is (N := N) hN hR hn htp hT hM (w := 14) (by omega) (by omega)
  obtain ⟨rfl, o1⟩ := z_opr0 ho
  rw [if_pos o1] at e1
  rw [z_tr0] at b3
  rw [f_X12_readExpression_67]
  simp (disch := omega) only [kd_80, e1, b1, b2, b3, zl_0, nI_eq, gd_t, gd_pos, Option.bind_some, if_neg]
theorem h_orf (hN : 5000 ≤ N) : ∀ (k : Nat) (K : Nat → Nat → Int32) (e : Nat), 1 ≤ e → e ≤ 5 → K 80 22 = nI e → f_X12_readExpression_67 N R rP rS rN rA rE rT (k + 1) 80 (nI D) K = some ((), K) := fun k K e h1 h2 h3 => by
  have e1 := m_is_f (N := N) (R := R) (w := 14) hN h3 h1 h2
  simp (disch := omega) only [f_X12_readExpression_67, kd_80, e1, zl_0, gd_t, gd_pos, Option.bind_some, if_true]
/-! behind a fault: the model's levels -/
theorem f_part (hb : zB d I K) (x : Int32) : f_X12_readPart N R rP rS rN rA rE rT 80 x K = some ((), K) := by
  obtain ⟨e, e1, e2, e3⟩ := zB_22 hb
  simp (disch := omega) only [f_X12_readPart, kd_80, e3, zl_0, nI_eq, gd_t, gd_pos, if_neg]
theorem f_prod (hN : 5000 ≤ N) (hb : zB d I K) (hx : rT 80 (nI D) K = some ((), K)) : f_X12_readProduct N R rP rS rN rA rE rT 80 (nI D) K = some ((), K) := by
  obtain ⟨e, e1, e2, e3⟩ := zB_22 hb
  obtain ⟨N1, hN1⟩ : ∃ k, N = k + 1 := ⟨N - 1, by omega⟩
  have h1 := h_prodf (N := N) (R := R) (D := D) (rP := rP) (rS := rS) (rN := rN) (rA := rA) (rE := rE) (rT := rT) N1 K e e1 e2 e3
  rw [← hN1] at h1
  refine Eq.trans ?_ h1
  simp (disch := omega) only [f_X12_readProduct, kd_80, hx, gd_t, gd_pos, Option.bind_some]
theorem f_sum (hN : 5000 ≤ N) (hb : zB d I K) (hx : rP 80 (nI D) K = some ((), K)) : f_X12_readSum N R rP rS rN rA rE rT 80 (nI D) K = some ((), K) := by
  obtain ⟨e, e1, e2, e3⟩ := zB_22 hb
  obtain ⟨N1, hN1⟩ : ∃ k, N = k + 1 := ⟨N - 1, by omega⟩
  have h1 := h_sumf (N := N) (R := R) (D := D) (rP := rP) (rS := rS) (rN := rN) (rA := rA) (rE := rE) (rT := rT) N1 K e e1 e2 e3
  rw [← hN1] at h1
  refine Eq.trans ?_ h1
  simp (disch := omega) only [f_X12_readSum, kd_80, hx, gd_t, gd_pos, Option.bind_some]
theorem f_not (hN : 5000 ≤ N) (hb : zB d I K) (hx : rS 80 (nI D) K = some ((), K)) : f_X12_readNot N R rP rS rN rA rE rT 80 (nI D) K = some ((), K) := by
  obtain ⟨e, e1, e2, e3⟩ := zB_22 hb
  obtain ⟨N1, hN1⟩ : ∃ k, N = k + 1 := ⟨N - 1, by omega⟩
  have e60 := fun x => m_isMarked_f (N := N) (R := R) e3 e1 e2 x
  have h13 := m_is_f (N := N) (R := R) (w := 13) hN e3 e1 e2
  have h1 := m_95_f (N := N) (R := R) (rP := rP) (rS := rS) (rN := rN) (rA := rA) (rE := rE) (rT := rT) hb (k := 0) (by omega) 0 0 N (by omega) (by omega)
  refine Eq.trans ?_ h1
  unfold f_X12_readNot
  rw [show f_X12_readNot_2 N R rP rS rN rA rE rT N = f_X12_readNot_2 N R rP rS rN rA rE rT (N1 + 1) by rw [← hN1]]
  simp (disch := omega) only [f_X12_readNot_2, kd_80, h13, hx, e60, zl_0, gd_t, gd_pos, Option.bind_some, if_true]
theorem f_and (hN : 5000 ≤ N) (hb : zB d I K) (hx : rN 80 (nI D) K = some ((), K)) : f_X12_readAnd N R rP rS rN rA rE rT 80 (nI D) K = some ((), K) := by
  obtain ⟨e, e1, e2, e3⟩ := zB_22 hb
  obtain ⟨N1, hN1⟩ : ∃ k, N = k + 1 := ⟨N - 1, by omega⟩
  have h1 := h_andf (N := N) (R := R) (D := D) (rP := rP) (rS := rS) (rN := rN) (rA := rA) (rE := rE) (rT := rT) hN N1 K e e1 e2 e3
  rw [← hN1] at h1
  refine Eq.trans ?_ h1
  simp (disch := omega) only [f_X12_readAnd, kd_80, hx, gd_t, gd_pos, Option.bind_some]
theorem f_or (hN : 5000 ≤ N) (hb : zB d I K) (hx : rA 80 (nI D) K = some ((), K)) : ((rA 80 (nI D) K).bind fun p => f_X12_readExpression_67 N R rP rS rN rA rE rT N 80 (nI D) p.2) = some ((), K) := by
  obtain ⟨e, e1, e2, e3⟩ := zB_22 hb
  obtain ⟨N1, hN1⟩ : ∃ k, N = k + 1 := ⟨N - 1, by omega⟩
  have h1 := h_orf (N := N) (R := R) (D := D) (rP := rP) (rS := rS) (rN := rN) (rA := rA) (rE := rE) (rT := rT) hN N1 K e e1 e2 e3
  rw [← hN1] at h1
  rw [hx]
  exact h1
/-- level 6 -/
theorem r_lvl6 (hDl : D < 6) {fm : (Nat → Nat → Int32) → Option (Unit × (Nat → Nat → Int32))} (hx : zTT d tp n h (h + 1) (fun I => rp 1 (nI D) I) fm) : zTT d tp n h (h + 1) (fun I => f_X5_readLevel N R rp rl 1 (nI 6) (nI D) I) fm := by
  have key : ∀ I J : Nat → Nat → Int32, rp 1 (nI D) I = some ((), J) → f_X5_readLevel N R rp rl 1 (nI 6) (nI D) I = some ((), J) := fun I J h1 => by
    simp (disch := omega) only [f_X5_readLevel, kd_1, h1, zl_6, nI_ltI, gd_t, gd_pos, Option.bind_some, if_pos, if_neg]
  refine ⟨fun I K P m cd c hg hs => ?_, fun I K hb => ?_⟩
  · obtain ⟨J, L, a1, a2⟩ := hx.1 I K P m cd c hg hs
    exact ⟨J, L, key I J a1, a2⟩
  · obtain ⟨a1, a2⟩ := hx.2 I K hb
    exact ⟨key I I a1, a2⟩
end ZR
section ZR
variable {N : Nat} {R Rm : Nat → Nat → Nat} {q qm d n : Nat} {tp : Nat → Nat}
theorem zgc (N : Nat) (R : Nat → Nat → Nat) (g : Nat) : gG_X5_readPart N R (g + 1) = (fun a0 a1 I => f_X5_readPart N R (gG_X5_readPart N R g).1 (gG_X5_readPart N R g).2 a0 a1 I, fun a0 a1 a2 I => f_X5_readLevel N R (gG_X5_readPart N R g).1 (gG_X5_readPart N R g).2 a0 a1 a2 I) := by
  rw [gG_X5_readPart]
/-- a level or a part within D others, given an expression within D + 1 -/
theorem r_chain (hN : 5000 ≤ N) (hR : sR R q) (hRm : sR Rm qm) (hD : zDq R q d) (hn : n ≤ 700) (htp : ∀ i, i < n → tp i < 256) {D : Nat} (hDl : D < 6) {gc gm : Nat} (HE : ∀ h, h ≤ 5 * (D + 1) → zTT d tp n h (h + 1) (fun I => (gG_X5_readPart N R gc).2 1 (nI 0) (nI (D + 1)) I) (fun K => (gG_X12_readProduct N Rm gm).2.2.2.2.1 80 (nI (D + 1)) K)) : ∀ h, h ≤ 5 * D → zTT d tp n h (h + 1) (fun I => (gG_X5_readPart N R (gc + 8)).2 1 (nI 0) (nI D) I) (fun K => (gG_X12_readProduct N Rm (gm + 6)).2.2.2.2.1 80 (nI D) K) := by
  have hq := dq_q hR hD
  have hd := dq_d hR hD
  have TP : ∀ h, h ≤ 5 * D + 5 → zTT d tp n h (h + 1) (fun I => (gG_X5_readPart N R (gc + 1)).1 1 (nI D) I) (fun K => (gG_X12_readProduct N Rm (gm + 1)).2.2.2.2.2 80 (nI D) K) := fun h hh => by
    have := r_part (N := N) (rp := (gG_X5_readPart N R gc).1) (rP := (gG_X12_readProduct N Rm gm).1) (rS := (gG_X12_readProduct N Rm gm).2.1) (rN := (gG_X12_readProduct N Rm gm).2.2.1) (rA := (gG_X12_readProduct N Rm gm).2.2.2.1) (rT := (gG_X12_readProduct N Rm gm).2.2.2.2.2) hN hR hRm hD hq hd hn htp hDl (show h < 60 by omega) (HE h (by omega))
    rw [gG_X5_readPart, gG_X12_readProduct]
    exact this
  have T6 : ∀ h, h ≤ 5 * D + 5 → zTT d tp n h (h + 1) (fun I => (gG_X5_readPart N R (gc + 2)).2 1 (nI 6) (nI D) I) (fun K => (gG_X12_readProduct N Rm (gm + 1)).2.2.2.2.2 80 (nI D) K) := fun h hh => by
    have := r_lvl6 (N := N) (R := R) (rl := (gG_X5_readPart N R (gc + 1)).2) hDl (TP h hh)
    rw [zgc N R (gc + 1)]
    exact this
  have T5 : ∀ h, h ≤ 5 * D + 4 → zTT d tp n h (h + 1) (fun I => (gG_X5_readPart N R (gc + 3)).2 1 (nI 5) (nI D) I) (fun K => (gG_X12_readProduct N Rm (gm + 2)).1 80 (nI D) K) := fun h hh => by
    have := r_level (N := N) (L := 5) (Ml := fun k K => f_X12_readProduct_5 N Rm (gG_X12_readProduct N Rm (gm + 1)).1 (gG_X12_readProduct N Rm (gm + 1)).2.1 (gG_X12_readProduct N Rm (gm + 1)).2.2.1 (gG_X12_readProduct N Rm (gm + 1)).2.2.2.1 (gG_X12_readProduct N Rm (gm + 1)).2.2.2.2.1 (gG_X12_readProduct N Rm (gm + 1)).2.2.2.2.2 k 80 (nI D) K) (rp := (gG_X5_readPart N R (gc + 2)).1) hN hR hRm hD hq hd hn htp (by omega) hDl (T6 h (by omega)) (T6 (h + 1) (by omega)) (h_prod0 (rP := (gG_X12_readProduct N Rm (gm + 1)).1) (rS := (gG_X12_readProduct N Rm (gm + 1)).2.1) (rN := (gG_X12_readProduct N Rm (gm + 1)).2.2.1) (rA := (gG_X12_readProduct N Rm (gm + 1)).2.2.2.1) (rE := (gG_X12_readProduct N Rm (gm + 1)).2.2.2.2.1) (rT := (gG_X12_readProduct N Rm (gm + 1)).2.2.2.2.2) hRm hn htp) (h_prod1 hRm hn htp) h_prodf
    rw [zgc N R (gc + 2), gG_X12_readProduct]
    refine ⟨fun I K P m cd c hg hs => ?_, fun I K hb => ?_⟩
    · obtain ⟨J, L, a1, a2, a3⟩ := this.1 I K P m cd c hg hs
      refine ⟨J, L, a1, Eq.trans ?_ a2, a3⟩
      simp (disch := omega) only [f_X12_readProduct, kd_80, gd_t, gd_pos]
    · obtain ⟨a1, a2⟩ := this.2 I K hb
      refine ⟨a1, Eq.trans ?_ a2⟩
      simp (disch := omega) only [f_X12_readProduct, kd_80, gd_t, gd_pos]
  have T4 : ∀ h, h ≤ 5 * D + 3 → zTT d tp n h (h + 1) (fun I => (gG_X5_readPart N R (gc + 4)).2 1 (nI 4) (nI D) I) (fun K => (gG_X12_readProduct N Rm (gm + 3)).2.1 80 (nI D) K) := fun h hh => by
    have := r_level (N := N) (L := 4) (Ml := fun k K => f_X12_readSum_5 N Rm (gG_X12_readProduct N Rm (gm + 2)).1 (gG_X12_readProduct N Rm (gm + 2)).2.1 (gG_X12_readProduct N Rm (gm + 2)).2.2.1 (gG_X12_readProduct N Rm (gm + 2)).2.2.2.1 (gG_X12_readProduct N Rm (gm + 2)).2.2.2.2.1 (gG_X12_readProduct N Rm (gm + 2)).2.2.2.2.2 k 80 (nI D) K) (rp := (gG_X5_readPart N R (gc + 3)).1) hN hR hRm hD hq hd hn htp (by omega) hDl (T5 h (by omega)) (T5 (h + 1) (by omega)) (h_sum0 (rP := (gG_X12_readProduct N Rm (gm + 2)).1) (rS := (gG_X12_readProduct N Rm (gm + 2)).2.1) (rN := (gG_X12_readProduct N Rm (gm + 2)).2.2.1) (rA := (gG_X12_readProduct N Rm (gm + 2)).2.2.2.1) (rE := (gG_X12_readProduct N Rm (gm + 2)).2.2.2.2.1) (rT := (gG_X12_readProduct N Rm (gm + 2)).2.2.2.2.2) hRm hn htp) (h_sum1 hRm hn htp) h_sumf
    rw [zgc N R (gc + 3), gG_X12_readProduct]
    refine ⟨fun I K P m cd c hg hs => ?_, fun I K hb => ?_⟩
    · obtain ⟨J, L, a1, a2, a3⟩ := this.1 I K P m cd c hg hs
      refine ⟨J, L, a1, Eq.trans ?_ a2, a3⟩
      simp (disch := omega) only [f_X12_readSum, kd_80, gd_t, gd_pos]
    · obtain ⟨a1, a2⟩ := this.2 I K hb
      refine ⟨a1, Eq.trans ?_ a2⟩
      simp (disch := omega) only [f_X12_readSum, kd_80, gd_t, gd_pos]
  have T2 : ∀ h, h ≤ 5 * D + 2 → zTT d tp n h (h + 1) (fun I => (gG_X5_readPart N R (gc + 6)).2 1 (nI 2) (nI D) I) (fun K => (gG_X12_readProduct N Rm (gm + 4)).2.2.1 80 (nI D) K) := fun h hh => by
    have t3 := r_test (N := N) (rp := (gG_X5_readPart N R (gc + 4)).1) (rl := (gG_X5_readPart N R (gc + 4)).2) (rP := (gG_X12_readProduct N Rm (gm + 3)).1) (rS := (gG_X12_readProduct N Rm (gm + 3)).2.1) (rN := (gG_X12_readProduct N Rm (gm + 3)).2.2.1) (rA := (gG_X12_readProduct N Rm (gm + 3)).2.2.2.1) (rE := (gG_X12_readProduct N Rm (gm + 3)).2.2.2.2.1) (rT := (gG_X12_readProduct N Rm (gm + 3)).2.2.2.2.2) hN hR hRm hD hq hd hn htp hDl (T4 h (by omega)) (T4 (h + 1) (by omega))
    have t3' : zT3 N Rm d tp n h D (fun I => (gG_X5_readPart N R (gc + 5)).2 1 (nI 3) (nI D) I) (gG_X12_readProduct N Rm (gm + 3)).1 (gG_X12_readProduct N Rm (gm + 3)).2.1 (gG_X12_readProduct N Rm (gm + 3)).2.2.1 (gG_X12_readProduct N Rm (gm + 3)).2.2.2.1 (gG_X12_readProduct N Rm (gm + 3)).2.2.2.2.1 (gG_X12_readProduct N Rm (gm + 3)).2.2.2.2.2 := by
      rw [zgc N R (gc + 4)]
      exact t3
    have := r_lvl2 (N := N) (rp := (gG_X5_readPart N R (gc + 5)).1) (rl := (gG_X5_readPart N R (gc + 5)).2) hN hR hRm hD hq hd hn htp hDl t3'
    rw [zgc N R (gc + 5), gG_X12_readProduct]
    exact this
  have T1 : ∀ h, h ≤ 5 * D + 1 → zTT d tp n h (h + 1) (fun I => (gG_X5_readPart N R (gc + 7)).2 1 (nI 1) (nI D) I) (fun K => (gG_X12_readProduct N Rm (gm + 5)).2.2.2.1 80 (nI D) K) := fun h hh => by
    have := r_level (N := N) (L := 1) (Ml := fun k K => f_X12_readAnd_5 N Rm (gG_X12_readProduct N Rm (gm + 4)).1 (gG_X12_readProduct N Rm (gm + 4)).2.1 (gG_X12_readProduct N Rm (gm + 4)).2.2.1 (gG_X12_readProduct N Rm (gm + 4)).2.2.2.1 (gG_X12_readProduct N Rm (gm + 4)).2.2.2.2.1 (gG_X12_readProduct N Rm (gm + 4)).2.2.2.2.2 k 80 (nI D) K) (rp := (gG_X5_readPart N R (gc + 6)).1) hN hR hRm hD hq hd hn htp (by omega) hDl (T2 h (by omega)) (T2 (h + 1) (by omega)) (h_and0 (rP := (gG_X12_readProduct N Rm (gm + 4)).1) (rS := (gG_X12_readProduct N Rm (gm + 4)).2.1) (rN := (gG_X12_readProduct N Rm (gm + 4)).2.2.1) (rA := (gG_X12_readProduct N Rm (gm + 4)).2.2.2.1) (rE := (gG_X12_readProduct N Rm (gm + 4)).2.2.2.2.1) (rT := (gG_X12_readProduct N Rm (gm + 4)).2.2.2.2.2) hN hRm hn htp) (h_and1 hN hRm hn htp) (h_andf hN)
    rw [zgc N R (gc + 6), gG_X12_readProduct]
    refine ⟨fun I K P m cd c hg hs => ?_, fun I K hb => ?_⟩
    · obtain ⟨J, L, a1, a2, a3⟩ := this.1 I K P m cd c hg hs
      refine ⟨J, L, a1, Eq.trans ?_ a2, a3⟩
      simp (disch := omega) only [f_X12_readAnd, kd_80, gd_t, gd_pos]
    · obtain ⟨a1, a2⟩ := this.2 I K hb
      refine ⟨a1, Eq.trans ?_ a2⟩
      simp (disch := omega) only [f_X12_readAnd, kd_80, gd_t, gd_pos]
  intro h hh
  have t0 := r_level (N := N) (L := 0) (Ml := fun k K => f_X12_readExpression_67 N Rm (gG_X12_readProduct N Rm (gm + 5)).1 (gG_X12_readProduct N Rm (gm + 5)).2.1 (gG_X12_readProduct N Rm (gm + 5)).2.2.1 (gG_X12_readProduct N Rm (gm + 5)).2.2.2.1 (gG_X12_readProduct N Rm (gm + 5)).2.2.2.2.1 (gG_X12_readProduct N Rm (gm + 5)).2.2.2.2.2 k 80 (nI D) K) (rp := (gG_X5_readPart N R (gc + 7)).1) (rl := (gG_X5_readPart N R (gc + 7)).2) hN hR hRm hD hq hd hn htp (by omega) hDl (T1 h (by omega)) (T1 (h + 1) (by omega)) (h_or0 (rP := (gG_X12_readProduct N Rm (gm + 5)).1) (rS := (gG_X12_readProduct N Rm (gm + 5)).2.1) (rN := (gG_X12_readProduct N Rm (gm + 5)).2.2.1) (rA := (gG_X12_readProduct N Rm (gm + 5)).2.2.2.1) (rE := (gG_X12_readProduct N Rm (gm + 5)).2.2.2.2.1) (rT := (gG_X12_readProduct N Rm (gm + 5)).2.2.2.2.2) hN hRm hn htp) (h_or1 hN hRm hn htp) (h_orf hN)
  have bP : zBd N R d tp n (fun I => (gG_X5_readPart N R (gc + 1)).1 1 (nI D) I) := by
    have := b_part (N := N) (R := R) (d := d) (D := D) (rp := (gG_X5_readPart N R gc).1) (rl := (gG_X5_readPart N R gc).2) hn htp
    rw [zgc N R gc]
    exact this
  have b6 : zBd N R d tp n (fun I => (gG_X5_readPart N R (gc + 2)).2 1 (nI 6) (nI D) I) := by
    have := b_lvl6 (N := N) (R := R) (rl := (gG_X5_readPart N R (gc + 1)).2) hDl bP
    rw [zgc N R (gc + 1)]
    exact this
  have b5 : zBd N R d tp n (fun I => (gG_X5_readPart N R (gc + 3)).2 1 (nI 5) (nI D) I) := by
    have := b_lvl (N := N) (rp := (gG_X5_readPart N R (gc + 2)).1) (rl := (gG_X5_readPart N R (gc + 2)).2) hN hR hn htp (L := 5) (by omega) hDl b6
    rw [zgc N R (gc + 2)]
    exact this
  have b4 : zBd N R d tp n (fun I => (gG_X5_readPart N R (gc + 4)).2 1 (nI 4) (nI D) I) := by
    have := b_lvl (N := N) (rp := (gG_X5_readPart N R (gc + 3)).1) (rl := (gG_X5_readPart N R (gc + 3)).2) hN hR hn htp (L := 4) (by omega) hDl b5
    rw [zgc N R (gc + 3)]
    exact this
  have b3 : zBd N R d tp n (fun I => (gG_X5_readPart N R (gc + 5)).2 1 (nI 3) (nI D) I) := by
    have := b_lvl (N := N) (rp := (gG_X5_readPart N R (gc + 4)).1) (rl := (gG_X5_readPart N R (gc + 4)).2) hN hR hn htp (L := 3) (by omega) hDl b4
    rw [zgc N R (gc + 4)]
    exact this
  have b2 : zBd N R d tp n (fun I => (gG_X5_readPart N R (gc + 6)).2 1 (nI 2) (nI D) I) := by
    have := b_lvl (N := N) (rp := (gG_X5_readPart N R (gc + 5)).1) (rl := (gG_X5_readPart N R (gc + 5)).2) hN hR hn htp (L := 2) (by omega) hDl b3
    rw [zgc N R (gc + 5)]
    exact this
  have b1 : zBd N R d tp n (fun I => (gG_X5_readPart N R (gc + 7)).2 1 (nI 1) (nI D) I) := by
    have := b_lvl (N := N) (rp := (gG_X5_readPart N R (gc + 6)).1) (rl := (gG_X5_readPart N R (gc + 6)).2) hN hR hn htp (L := 1) (by omega) hDl b2
    rw [zgc N R (gc + 6)]
    exact this
  have b0 := b_lvl (N := N) (rp := (gG_X5_readPart N R (gc + 7)).1) (rl := (gG_X5_readPart N R (gc + 7)).2) hN hR hn htp (L := 0) (by omega) hDl b1
  have := r_expr (N := N) hN hR hRm hd hn htp hDl t0 b0
  rw [zgc N R (gc + 7), gG_X12_readProduct]
  exact this
theorem r_all (hN : 5000 ≤ N) (hR : sR R q) (hRm : sR Rm qm) (hD : zDq R q d) (hn : n ≤ 700) (htp : ∀ i, i < n → tp i < 256) : ∀ (e D gc gm : Nat), D + e = 6 → ∀ h, h ≤ 5 * D → zTT d tp n h (h + 1) (fun I => (gG_X5_readPart N R (gc + 8 * e + 1)).2 1 (nI 0) (nI D) I) (fun K => (gG_X12_readProduct N Rm (gm + 6 * e + 6)).2.2.2.2.1 80 (nI D) K)
  | 0, D, gc, gm, hDe, h, hh => by
    have hd := dq_d hR hD
    obtain rfl : D = 6 := by omega
    have A : ∀ I K, zB d I K → (gG_X12_readProduct N Rm (gm + 5)).2.2.2.1 80 (nI 6) K = some ((), K) := fun I K hb => by
      have a1 : (gG_X12_readProduct N Rm (gm + 1)).2.2.2.2.2 80 (nI 6) K = some ((), K) := by
        rw [gG_X12_readProduct]
        exact f_part hb _
      have a2 : (gG_X12_readProduct N Rm (gm + 2)).1 80 (nI 6) K = some ((), K) := by
        rw [gG_X12_readProduct]
        exact f_prod hN hb a1
      have a3 : (gG_X12_readProduct N Rm (gm + 3)).2.1 80 (nI 6) K = some ((), K) := by
        rw [gG_X12_readProduct]
        exact f_sum hN hb a2
      have a4 : (gG_X12_readProduct N Rm (gm + 4)).2.2.1 80 (nI 6) K = some ((), K) := by
        rw [gG_X12_readProduct]
        exact f_not hN hb a3
      rw [gG_X12_readProduct]
      exact f_and hN hb a4
    have := r_expr6 (N := N) (h := h) (rp := (gG_X5_readPart N R gc).1) (rl := (gG_X5_readPart N R gc).2) (rP := (gG_X12_readProduct N Rm (gm + 5)).1) (rS := (gG_X12_readProduct N Rm (gm + 5)).2.1) (rN := (gG_X12_readProduct N Rm (gm + 5)).2.2.1) (rA := (gG_X12_readProduct N Rm (gm + 5)).2.2.2.1) (rE := (gG_X12_readProduct N Rm (gm + 5)).2.2.2.2.1) (rT := (gG_X12_readProduct N Rm (gm + 5)).2.2.2.2.2) hN hR hRm hd hn htp (fun I K hb => f_or hN hb (A I K hb)) (h + 1)
    show zTT d tp n h (h + 1) (fun I => (gG_X5_readPart N R (gc + 1)).2 1 (nI 0) (nI 6) I) (fun K => (gG_X12_readProduct N Rm (gm + 5 + 1)).2.2.2.2.1 80 (nI 6) K)
    rw [zgc N R gc, gG_X12_readProduct]
    exact this
  | e + 1, D, gc, gm, hDe, h, hh => by
    have ih := r_all hN hR hRm hD hn htp e (D + 1) gc gm (by omega)
    have := r_chain (N := N) hN hR hRm hD hn htp (D := D) (by omega) (gc := gc + 8 * e + 1) (gm := gm + 6 * e + 6) ih h hh
    rw [show gc + 8 * (e + 1) + 1 = gc + 8 * e + 1 + 8 by omega, show gm + 6 * (e + 1) + 6 = gm + 6 * e + 6 + 6 by omega]
    exact this
/-- a whole expression -/
theorem r_learn (hN : 5000 ≤ N) (hR : sR R q) (hRm : sR Rm qm) (hD : zDq R q d) (hn : n ≤ 700) (htp : ∀ i, i < n → tp i < 256) : zTT d tp n 0 1 (fun I => g_X5_readLevel N R 1 (nI 0) (nI 0) I) (fun K => g_X12_readExpression N Rm 80 (nI 0) K) := r_all hN hR hRm hD hn htp 6 0 15 22 rfl 0 (Nat.le_refl _)
end ZR
