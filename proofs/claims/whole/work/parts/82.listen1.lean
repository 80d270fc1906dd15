/-! ===== PURE PART: listen: how many unlike ones ===== -/
theorem zcn_add (B : Nat → Bool) (v0 : Nat) : ∀ n, zcn (fun v => B v || decide (v = v0)) n = zcn B n + (if v0 < n then (if B v0 = true then 0 else 1) else 0)
  | 0 => rfl
  | n + 1 => by
    have ih := zcn_add B v0 n
    by_cases e : n = v0
    · subst e
      have hl : (fun v => B v || decide (v = n)) n = true := by simp
      rw [zcn_t hl, ih, if_neg (Nat.lt_irrefl n), if_pos (Nat.lt_succ_self n)]
      by_cases h : B n = true
      · rw [zcn_t h, if_pos h]
      · rw [zcn_f h, if_neg h]
    · by_cases hB : B n = true
      · have hl : (fun v => B v || decide (v = v0)) n = true := by simp [hB]
        rw [zcn_t hl, ih, zcn_t hB]
        by_cases h : v0 < n
        · rw [if_pos h, if_pos (show v0 < n + 1 by omega)]
          omega
        · rw [if_neg h, if_neg (show ¬ v0 < n + 1 by omega)]
      · have hl : ¬ (fun v => B v || decide (v = v0)) n = true := by simp [hB, e]
        rw [zcn_f hl, ih, zcn_f hB]
        by_cases h : v0 < n
        · rw [if_pos h, if_pos (show v0 < n + 1 by omega)]
        · rw [if_neg h, if_neg (show ¬ v0 < n + 1 by omega)]
theorem zcn_ad {B : Nat → Bool} {v0 n : Nat} (h : v0 < n) : zcn (fun v => B v || decide (v = v0)) n = zcn B n + (if B v0 = true then 0 else 1) := by
  rw [zcn_add B v0 n, if_pos h]
/-- values met: those of b, and of the weeks that fit -/
def z_mb (f : Nat → Bool) (sk : Nat → Nat) (b : Nat → Bool) : Nat → Nat → Bool
  | 0 => b
  | j + 1 => if f j = true then (fun v => z_mb f sk b j v || decide (v = sk (j + 1))) else z_mb f sk b j
theorem z_mb_t {f : Nat → Bool} {sk : Nat → Nat} {b : Nat → Bool} {j : Nat} (h : f j = true) : z_mb f sk b (j + 1) = fun v => z_mb f sk b j v || decide (v = sk (j + 1)) := if_pos h
theorem z_mb_f {f : Nat → Bool} {sk : Nat → Nat} {b : Nat → Bool} {j : Nat} (h : ¬ f j = true) : z_mb f sk b (j + 1) = z_mb f sk b j := if_neg h
theorem z_mb_iff {f : Nat → Bool} {sk : Nat → Nat} {b : Nat → Bool} {v : Nat} : ∀ n, z_mb f sk b n v = true ↔ b v = true ∨ ∃ j, j < n ∧ f j = true ∧ v = sk (j + 1)
  | 0 => ⟨fun h => Or.inl h, fun h => by
    rcases h with h | ⟨j, h, _⟩
    · exact h
    · exact absurd h (Nat.not_lt_zero j)⟩
  | n + 1 => by
    have ih := z_mb_iff (f := f) (sk := sk) (b := b) (v := v) n
    by_cases hf : f n = true
    · rw [z_mb_t hf]
      show (z_mb f sk b n v || decide (v = sk (n + 1))) = true ↔ _
      rw [Bool.or_eq_true, ih]
      constructor
      · rintro ((h | ⟨j, h1, h2⟩) | h)
        · exact Or.inl h
        · exact Or.inr ⟨j, by omega, h2⟩
        · exact Or.inr ⟨n, by omega, hf, of_decide_eq_true h⟩
      · rintro (h | ⟨j, h1, h2, h3⟩)
        · exact Or.inl (Or.inl h)
        · by_cases e : j = n
          · rw [e] at h3
            exact Or.inr (decide_eq_true h3)
          · exact Or.inl (Or.inr ⟨j, by omega, h2, h3⟩)
    · rw [z_mb_f hf, ih]
      constructor
      · rintro (h | ⟨j, h1, h2⟩)
        · exact Or.inl h
        · exact Or.inr ⟨j, by omega, h2⟩
      · rintro (h | ⟨j, h1, h2, h3⟩)
        · exact Or.inl h
        · by_cases e : j = n
          · rw [e] at h2
            exact absurd h2 hf
          · exact Or.inr ⟨j, by omega, h2, h3⟩
/-- values of a row -/
def z_vb (w : Nat → Nat) : Nat → Nat → Bool
  | 0 => fun _ => false
  | i + 1 => fun v => z_vb w i v || decide (v = w i)
theorem z_vb_iff {w : Nat → Nat} {v : Nat} : ∀ n, z_vb w n v = true ↔ ∃ k, k < n ∧ v = w k
  | 0 => ⟨fun h => (by cases h), fun h => by
    obtain ⟨k, h, _⟩ := h
    exact absurd h (Nat.not_lt_zero k)⟩
  | n + 1 => by
    have ih := z_vb_iff (w := w) (v := v) n
    show (z_vb w n v || decide (v = w n)) = true ↔ _
    rw [Bool.or_eq_true, ih]
    constructor
    · rintro (⟨k, h1, h2⟩ | h)
      · exact ⟨k, by omega, h2⟩
      · exact ⟨n, by omega, of_decide_eq_true h⟩
    · rintro ⟨k, h1, h2⟩
      by_cases e : k = n
      · rw [e] at h2
        exact Or.inr (decide_eq_true h2)
      · exact Or.inl ⟨k, by omega, h2⟩
theorem zcn_ex {c : Nat → Bool} : ∀ n i, i < zcn c n → ∃ m, m < n ∧ c m = true ∧ zcn c m = i
  | 0, i, h => absurd h (Nat.not_lt_zero i)
  | n + 1, i, h => by
    by_cases hc : c n = true
    · rw [zcn_t hc] at h
      by_cases e : i = zcn c n
      · exact ⟨n, by omega, hc, e.symm⟩
      · obtain ⟨m, h1, h2, h3⟩ := zcn_ex (c := c) n i (by omega)
        exact ⟨m, by omega, h2, h3⟩
    · rw [zcn_f hc] at h
      obtain ⟨m, h1, h2, h3⟩ := zcn_ex (c := c) n i h
      exact ⟨m, by omega, h2, h3⟩
theorem zcn_inj {c : Nat → Bool} {m k : Nat} (hm : c m = true) (hk : c k = true) (h : zcn c m = zcn c k) : m = k := by
  by_cases h1 : m < k
  · have := zcn_lt hm h1
    omega
  · by_cases h2 : k < m
    · have := zcn_lt hk h2
      omega
    · omega
theorem zsm_ge {c : Nat → Nat} : ∀ n p, p < n → c p ≤ zsm c n
  | 0, p, h => absurd h (Nat.not_lt_zero p)
  | n + 1, p, h => by
    unfold zsm
    by_cases e : p = n
    · rw [e]
      omega
    · have := zsm_ge (c := c) n p (by omega)
      omega
theorem zsm_two {c : Nat → Nat} : ∀ n p p', p < n → p' < n → p ≠ p' → c p + c p' ≤ zsm c n
  | 0, p, _, h, _, _ => absurd h (Nat.not_lt_zero p)
  | n + 1, p, p', h1, h2, h3 => by
    unfold zsm
    by_cases e : p = n
    · have := zsm_ge (c := c) n p' (by omega)
      rw [e]
      omega
    · by_cases e2 : p' = n
      · have := zsm_ge (c := c) n p (by omega)
        rw [e2]
        omega
      · have := zsm_two (c := c) n p p' (by omega) (by omega) h3
        omega
theorem zsm_z {c : Nat → Nat} : ∀ n, (∀ p, p < n → c p = 0) → zsm c n = 0
  | 0, _ => rfl
  | n + 1, h => by
    unfold zsm
    rw [zsm_z n (fun p hp => h p (by omega)), h n (by omega)]
theorem zsm_on1 {c : Nat → Nat} {p : Nat} : ∀ n, p < n → (∀ p', p' < n → p' ≠ p → c p' = 0) → zsm c n = c p
  | 0, h, _ => absurd h (Nat.not_lt_zero p)
  | n + 1, h, ha => by
    unfold zsm
    by_cases e : p = n
    · rw [zsm_z n (fun p' hp' => ha p' (by omega) (by omega)), e]
      omega
    · rw [zsm_on1 n (by omega) (fun p' h1 h2 => ha p' (by omega) h2), ha n (by omega) (by omega)]
      omega
theorem zcn_pos {c : Nat → Bool} {n : Nat} (h : ¬ zcn c n = 0) : ∃ j, j < n ∧ c j = true := by
  obtain ⟨m, h1, h2, _⟩ := zcn_ex (c := c) n 0 (by omega)
  exact ⟨m, h1, h2⟩
def z_sk (S : zS) (pl : zP) (w : Nat) : Nat := z_wks S 20 (z_ga pl w) 0
/-- what somebody's skill would be, if m fits -/
def z_vl (S : zS) (V : Nat → zP) (m p : Nat) : Nat := z_wks S 20 (sm_up V (m / 20) (z_ga (V (m / 20)) (m % 20 + 1)) p) 0
def z_b0 (f : Nat → Nat → Bool) (S : zS) (V : Nat → zP) (nu p v : Nat) : Bool := decide (zcn (f p) 20 < zsm (fun p => zcn (f p) 20) nu) && decide (v = z_sk S (V p) 0)
theorem z_unlike_eq (f : Nat → Nat → Bool) (S : zS) (V : Nat → zP) {nu p : Nat} (hp : p < nu) {mi : Nat → Nat} (hmi : ∀ i, i < zcn (z_fl f) (20 * nu) → mi i < 20 * nu ∧ z_fl f (mi i) = true ∧ zcn (z_fl f) (mi i) = i) : zcn (z_mb (f p) (z_sk S (V p)) (z_b0 f S V nu p) 20) 100 = zcn (z_vb (fun i => z_vl S V (mi i) p) (zcn (z_fl f) (20 * nu))) 100 := by
  apply zcn_cong
  intro v _
  rw [Bool.eq_iff_iff, z_mb_iff, z_vb_iff]
  have fit_at : ∀ p' j, p' < nu → j < 20 → f p' j = true → ∃ i, i < zcn (z_fl f) (20 * nu) ∧ mi i = 20 * p' + j := fun p' j h1 h2 h3 => by
    have h4 : z_fl f (20 * p' + j) = true := by rw [z_fl_at f h2]; exact h3
    have h5 := zcn_lt (m := 20 * nu) h4 (by omega)
    obtain ⟨a1, a2, a3⟩ := hmi _ h5
    exact ⟨_, h5, zcn_inj a2 h4 a3⟩
  constructor
  · rintro (h | ⟨j, h1, h2, h3⟩)
    · unfold z_b0 at h
      rw [Bool.and_eq_true] at h
      have h1 := of_decide_eq_true h.1
      have h2 := of_decide_eq_true h.2
      have hex : ∃ p', p' < nu ∧ p' ≠ p ∧ ¬ zcn (f p') 20 = 0 := by
        refine Classical.byContradiction (fun hno => ?_)
        have := zsm_on1 (c := fun p => zcn (f p) 20) (p := p) nu hp (fun p' h3 h4 => Classical.byContradiction (fun h5 => hno ⟨p', h3, h4, h5⟩))
        omega
      obtain ⟨p', h3, h4, h5⟩ := hex
      obtain ⟨j, h6, h7⟩ := zcn_pos h5
      obtain ⟨i, h8, h9⟩ := fit_at p' j h3 h6 h7
      refine ⟨i, h8, ?_⟩
      show v = z_vl S V (mi i) p
      unfold z_vl
      rw [h9, show (20 * p' + j) / 20 = p' by omega, up_n _ _ (fun e => h4 e.symm), h2]
      rfl
    · obtain ⟨i, h8, h9⟩ := fit_at p j hp h1 h2
      refine ⟨i, h8, ?_⟩
      show v = z_vl S V (mi i) p
      unfold z_vl
      rw [h9, show (20 * p + j) / 20 = p by omega, show (20 * p + j) % 20 = j by omega, up_s, h3]
      rfl
  · rintro ⟨i, h1, h2⟩
    obtain ⟨a1, a2, a3⟩ := hmi i h1
    have h2 : v = z_vl S V (mi i) p := h2
    have e : mi i = 20 * (mi i / 20) + mi i % 20 := by omega
    have a4 : f (mi i / 20) (mi i % 20) = true := a2
    unfold z_vl at h2
    by_cases e2 : mi i / 20 = p
    · rw [e2, up_s] at h2
      rw [e2] at a4
      exact Or.inr ⟨mi i % 20, by omega, a4, h2⟩
    · rw [up_n _ _ (fun e3 => e2 e3.symm)] at h2
      refine Or.inl ?_
      unfold z_b0
      have b1 := zsm_two (c := fun p => zcn (f p) 20) nu p (mi i / 20) hp (by omega) (fun e3 => e2 e3.symm)
      have b2 := zcn_lt (m := 20) a4 (by omega)
      have b1 : zcn (f p) 20 + zcn (f (mi i / 20)) 20 ≤ zsm (fun p => zcn (f p) 20) nu := b1
      rw [decide_eq_true (show zcn (f p) 20 < zsm (fun p => zcn (f p) 20) nu by omega), decide_eq_true (show v = z_sk S (V p) 0 from h2)]
      rfl
/-- who is most, from none on -/
def z_ls (u : Nat → Nat) : Nat → Option Nat × Nat
  | 0 => (none, 0)
  | p + 1 => if u p ≤ (z_ls u p).2 then z_ls u p else (some p, u p)
theorem z_ls_k {u : Nat → Nat} {p : Nat} (h : u p ≤ (z_ls u p).2) : z_ls u (p + 1) = z_ls u p := if_pos h
theorem z_ls_t {u : Nat → Nat} {p : Nat} (h : ¬ u p ≤ (z_ls u p).2) : z_ls u (p + 1) = (some p, u p) := if_neg h
theorem z_ls_le {u : Nat → Nat} {b : Nat} : ∀ n, (∀ p, p < n → u p ≤ b) → (z_ls u n).2 ≤ b
  | 0, _ => Nat.zero_le _
  | n + 1, h => by
    have := z_ls_le n (fun p hp => h p (by omega))
    unfold z_ls
    split
    · exact this
    · exact h n (by omega)
theorem z_ls_cong {u w : Nat → Nat} : ∀ n, (∀ p, p < n → u p = w p) → z_ls u n = z_ls w n
  | 0, _ => rfl
  | n + 1, h => by
    unfold z_ls
    rw [z_ls_cong n (fun p hp => h p (by omega)), h n (by omega)]
