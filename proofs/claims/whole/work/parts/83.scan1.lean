/-! ===== PURE PART: school: the scanner ===== -/
def z_sp (c : Nat → Bool) : Nat → Nat → Nat
  | 0, i => i
  | d + 1, i => if c i = true then z_sp c d (i + 1) else i
theorem z_sp_ge (c : Nat → Bool) : ∀ d i, i ≤ z_sp c d i
  | 0, _ => Nat.le_refl _
  | d + 1, i => by
    have := z_sp_ge c d (i + 1)
    unfold z_sp
    split <;> omega
theorem z_sp_le (c : Nat → Bool) : ∀ d i, z_sp c d i ≤ i + d
  | 0, _ => Nat.le_refl _
  | d + 1, i => by
    have := z_sp_le c d (i + 1)
    unfold z_sp
    split <;> omega
theorem z_sp_gt {c : Nat → Bool} {d i : Nat} (h : c i = true) (hd : 0 < d) : i < z_sp c d i := by
  obtain ⟨e, rfl⟩ : ∃ e, d = e + 1 := ⟨d - 1, by omega⟩
  have := z_sp_ge c e (i + 1)
  unfold z_sp
  rw [if_pos h]
  omega
theorem z_sp_0 {c : Nat → Bool} {d i : Nat} (h : d = 0 ∨ ¬ c i = true) : z_sp c d i = i := by
  rcases h with h | h
  · rw [h]
    rfl
  · rcases d with _ | d
    · rfl
    · unfold z_sp
      rw [if_neg h]
theorem z_sp_in {c : Nat → Bool} : ∀ d i j, i ≤ j → j < z_sp c d i → c j = true
  | 0, i, j, h1, h2 => by
    have h2 : j < i := h2
    omega
  | d + 1, i, j, h1, h2 => by
    unfold z_sp at h2
    by_cases hc : c i = true
    · rw [if_pos hc] at h2
      by_cases e : j = i
      · rw [e]
        exact hc
      · exact z_sp_in d (i + 1) j (by omega) h2
    · rw [if_neg hc] at h2
      omega
theorem z_sp_end {c : Nat → Bool} : ∀ d i, z_sp c d i < i + d → ¬ c (z_sp c d i) = true
  | 0, i, h => by
    have h : i < i + 0 := h
    omega
  | d + 1, i, h => by
    unfold z_sp at h ⊢
    by_cases hc : c i = true
    · rw [if_pos hc] at h ⊢
      exact z_sp_end d (i + 1) (by omega)
    · rw [if_neg hc]
      exact hc
theorem zsp_loop {σ β : Type} (F : Nat → Nat → σ → Option β) (k : Nat → σ → Option β) (c : Nat → Bool) (Inv : Nat → σ → Prop) (e : Nat) (hx : ∀ n i s, i ≤ e → Inv i s → (i = e ∨ ¬ c i = true) → F (n + 1) i s = k i s) (hs : ∀ n i s, i < e → c i = true → Inv i s → ∃ s', F (n + 1) i s = F n (i + 1) s' ∧ Inv (i + 1) s') : ∀ d i s n, i + d = e → d < n → Inv i s → ∃ s', F n i s = k (z_sp c d i) s' ∧ Inv (z_sp c d i) s'
  | 0, i, s, n + 1, h1, _, hi => ⟨s, hx n i s (by omega) hi (Or.inl (by omega)), hi⟩
  | d + 1, i, s, n + 1, h1, h2, hi => by
    unfold z_sp
    by_cases hc : c i = true
    · rw [if_pos hc]
      obtain ⟨s', q1, q2⟩ := hs n i s (by omega) hc hi
      rw [q1]
      exact zsp_loop F k c Inv e hx hs d (i + 1) s' n (by omega) (by omega) q2
    · rw [if_neg hc]
      exact ⟨s, hx n i s (by omega) hi (Or.inr hc), hi⟩
  | _, _, _, 0, _, h2, _ => absurd h2 (Nat.not_lt_zero _)
def z_bl (tp : Nat → Nat) (i : Nat) : Bool := decide (tp i = 32 ∨ tp i = 10)
def z_lt (tp : Nat → Nat) (i : Nat) : Bool := decide (97 ≤ tp i ∧ tp i ≤ 122)
def z_dg (tp : Nat → Nat) (i : Nat) : Bool := decide (48 ≤ tp i ∧ tp i ≤ 57)
def z_nv (tp : Nat → Nat) (a : Nat) : Nat → Nat
  | 0 => 0
  | j + 1 => z_nv tp a j * 10 + (tp (a + j) - 48)
def z_p10 : Nat → Nat
  | 0 => 1
  | j + 1 => z_p10 j * 10
theorem z_nv_lt {tp : Nat → Nat} {a : Nat} : ∀ j, (∀ i, a ≤ i → i < a + j → z_dg tp i = true) → z_nv tp a j < z_p10 j
  | 0, _ => Nat.one_pos
  | j + 1, h => by
    have ih := z_nv_lt (tp := tp) (a := a) j (fun i h1 h2 => h i h1 (by omega))
    have h9 := of_decide_eq_true (h (a + j) (by omega) (by omega))
    unfold z_nv z_p10
    omega
theorem z_nv_4 {tp : Nat → Nat} {a j : Nat} (hj : j ≤ 4) (h : ∀ i, a ≤ i → i < a + j → z_dg tp i = true) : z_nv tp a j < 10000 := by
  have h1 := z_nv_lt j h
  have hc : j = 0 ∨ j = 1 ∨ j = 2 ∨ j = 3 ∨ j = 4 := by omega
  rcases hc with rfl | rfl | rfl | rfl | rfl
  · exact Nat.lt_trans h1 (by decide)
  · exact Nat.lt_trans h1 (by decide)
  · exact Nat.lt_trans h1 (by decide)
  · exact Nat.lt_trans h1 (by decide)
  · exact h1
/-- a token: kind (0 end, 1 number, 2 word, 3 sign), first byte, the byte behind -/
abbrev zK : Type := Nat × Nat × Nat
def z_sc2 (tp : Nat → Nat) (n a : Nat) : zK := if a < n then (if z_lt tp a = true then (2, a, z_sp (z_lt tp) (n - a) a) else if z_dg tp a = true then (1, a, z_sp (z_dg tp) (n - a) a) else (3, a, a + 1)) else (0, a, a)
def z_scan (tp : Nat → Nat) (n b : Nat) : zK := z_sc2 tp n (z_sp (z_bl tp) (n - b) b)
def zTk (tp : Nat → Nat) (n : Nat) (P : zK) : Prop := P.1 ≤ 3 ∧ P.2.1 ≤ P.2.2 ∧ P.2.2 ≤ n ∧ (P.1 = 0 ∨ P.2.1 < P.2.2) ∧ (P.1 = 1 → ∀ j, P.2.1 ≤ j → j < P.2.2 → z_dg tp j = true)
theorem zTk_scan (tp : Nat → Nat) {n b : Nat} (hb : b ≤ n) : zTk tp n (z_scan tp n b) ∧ b ≤ (z_scan tp n b).2.1 := by
  have h1 := z_sp_ge (z_bl tp) (n - b) b
  have h2 := z_sp_le (z_bl tp) (n - b) b
  unfold z_scan
  generalize z_sp (z_bl tp) (n - b) b = a at *
  unfold z_sc2
  by_cases ha : a < n
  · rw [if_pos ha]
    by_cases hl : z_lt tp a = true
    · rw [if_pos hl]
      have h3 := z_sp_gt hl (show 0 < n - a by omega)
      have h4 := z_sp_le (z_lt tp) (n - a) a
      exact ⟨⟨by show 2 ≤ 3; omega, by show a ≤ z_sp (z_lt tp) (n - a) a; omega, by show z_sp (z_lt tp) (n - a) a ≤ n; omega, Or.inr h3, fun h => absurd h (by show ¬ 2 = 1; omega)⟩, h1⟩
    · rw [if_neg hl]
      by_cases hd : z_dg tp a = true
      · rw [if_pos hd]
        have h3 := z_sp_gt hd (show 0 < n - a by omega)
        have h4 := z_sp_le (z_dg tp) (n - a) a
        exact ⟨⟨by show 1 ≤ 3; omega, by show a ≤ z_sp (z_dg tp) (n - a) a; omega, by show z_sp (z_dg tp) (n - a) a ≤ n; omega, Or.inr h3, fun _ j h5 h6 => z_sp_in (n - a) a j h5 h6⟩, h1⟩
      · rw [if_neg hd]
        exact ⟨⟨by show 3 ≤ 3; omega, by show a ≤ a + 1; omega, by show a + 1 ≤ n; omega, Or.inr (by show a < a + 1; omega), fun h => absurd h (by show ¬ 3 = 1; omega)⟩, h1⟩
  · rw [if_neg ha]
    exact ⟨⟨by show 0 ≤ 3; omega, by show a ≤ a; omega, by show a ≤ n; omega, Or.inl rfl, fun h => absurd h (by show ¬ 0 = 1; omega)⟩, h1⟩
/-! bytes with a sign -/
theorem z_i8a : ∀ t, t < 128 → sm_i8 (nI t) = nI t := by decide +kernel
theorem z_i8b : ∀ t, t < 256 → 128 ≤ t → (sm_i8 (nI t)).toInt < 0 := by decide +kernel
theorem z_i8eq {t c : Nat} (ht : t < 256) (hc : c < 128) : (sm_i8 (nI t) = nI c) = (t = c) := by
  apply propext
  by_cases h : t < 128
  · rw [z_i8a t h, nI_eq (by omega) (by omega)]
  · have := z_i8b t ht (by omega)
    refine ⟨fun e => ?_, fun e => absurd e (by omega)⟩
    rw [e, nI_toInt (by omega)] at this
    omega
theorem z_i8lt {t c : Nat} (ht : t < 256) (hc : c < 128) : (sm_i8 (nI t) < nI c) = (t < c ∨ 128 ≤ t) := by
  apply propext
  by_cases h : t < 128
  · rw [z_i8a t h, nI_ltI (by omega) (by omega)]
    omega
  · have := z_i8b t ht (by omega)
    rw [zz_lt, nI_toInt (by omega)]
    omega
theorem z_i8gt {t c : Nat} (ht : t < 256) (hc : c < 128) : (nI c < sm_i8 (nI t)) = (c < t ∧ t < 128) := by
  apply propext
  by_cases h : t < 128
  · rw [z_i8a t h, nI_ltI (by omega) (by omega)]
    omega
  · have := z_i8b t ht (by omega)
    rw [zz_lt, nI_toInt (by omega)]
    omega
theorem zl_48 : (48 : Int32) = nI 48 := rfl
theorem zl_57 : (57 : Int32) = nI 57 := rfl
theorem zl_97 : (97 : Int32) = nI 97 := rfl
theorem zl_122 : (122 : Int32) = nI 122 := rfl
theorem zl_59 : (59 : Int32) = nI 59 := rfl
theorem zl_41 : (41 : Int32) = nI 41 := rfl
theorem zl_43 : (43 : Int32) = nI 43 := rfl
theorem zl_45 : (45 : Int32) = nI 45 := rfl
theorem zl_42 : (42 : Int32) = nI 42 := rfl
theorem zl_47 : (47 : Int32) = nI 47 := rfl
theorem zl_61 : (61 : Int32) = nI 61 := rfl
theorem zl_100000 : (100000 : Int32) = nI 100000 := rfl
