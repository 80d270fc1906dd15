/-! ===== PURE PART: choice: the class ===== -/
def z_mi (b : Nat) (v : Nat → Nat) (c : Nat → Bool) : Nat → Nat
  | 0 => b
  | w + 1 => if c w = true then max (z_mi b v c w) (v w) else z_mi b v c w
theorem z_mi_le {b m : Nat} {v : Nat → Nat} {c : Nat → Bool} (hb : b ≤ m) : ∀ n, (∀ w, w < n → c w = true → v w ≤ m) → z_mi b v c n ≤ m
  | 0, _ => hb
  | n + 1, h => by
    have h1 := z_mi_le (v := v) (c := c) hb n (fun w hw => h w (by omega))
    unfold z_mi
    split
    · rename_i hc
      have := h n (by omega) hc
      omega
    · exact h1
theorem z_mi_cong {b b' : Nat} {v v' : Nat → Nat} {c c' : Nat → Bool} (hb : b = b') : ∀ n, (∀ w, w < n → c w = c' w) → (∀ w, w < n → c w = true → v w = v' w) → z_mi b v c n = z_mi b' v' c' n
  | 0, _, _ => hb
  | n + 1, h1, h2 => by
    have ih := z_mi_cong (v := v) (v' := v') hb n (fun w hw => h1 w (by omega)) (fun w hw => h2 w (by omega))
    unfold z_mi
    rw [ih, ← h1 n (by omega)]
    by_cases hc : c n = true
    · rw [if_pos hc, if_pos hc, h2 n (by omega) hc]
    · rw [if_neg hc, if_neg hc]
def z_mc (np : Nat) (ft : Nat → Nat → Nat) : Nat → Nat → Nat → Nat
  | 0, _, _ => 0
  | d + 1, p, t => z_mi (z_mc np ft d (p + 1) t) (fun w => ft p w + z_mc np ft d (p + 1) (t + 2 ^ w)) (fun w => decide (t / 2 ^ w % 2 = 0)) np
def z_me (np : Nat) (ft : Nat → Nat → Nat) : Nat → Nat → Nat → Nat
  | 0, _, _ => 0
  | d + 1, p, l => z_mi (z_me np ft d (p + 1) l) (fun w => ft p w + z_me np ft d (p + 1) (l - 2 ^ w)) (fun w => decide (l / 2 ^ w % 2 = 1)) np
theorem z_mc_le {np : Nat} {ft : Nat → Nat → Nat} (hf : ∀ p w, w < np → ft p w ≤ 8) : ∀ d p t, z_mc np ft d p t ≤ 8 * d
  | 0, _, _ => Nat.le_refl _
  | d + 1, p, t => by
    have h1 := z_mc_le hf d (p + 1) t
    refine z_mi_le (by omega) np (fun w hw _ => ?_)
    have h2 := z_mc_le hf d (p + 1) (t + 2 ^ w)
    have h3 := hf p w hw
    show ft p w + z_mc np ft d (p + 1) (t + 2 ^ w) ≤ _
    omega
theorem z_me_le {np : Nat} {ft : Nat → Nat → Nat} (hf : ∀ p w, w < np → ft p w ≤ 8) : ∀ d p t, z_me np ft d p t ≤ 8 * d
  | 0, _, _ => Nat.le_refl _
  | d + 1, p, t => by
    have h1 := z_me_le hf d (p + 1) t
    refine z_mi_le (by omega) np (fun w hw _ => ?_)
    have h2 := z_me_le hf d (p + 1) (t - 2 ^ w)
    have h3 := hf p w hw
    show ft p w + z_me np ft d (p + 1) (t - 2 ^ w) ≤ _
    omega
def z_cmq (np t w : Nat) : Bool := !(decide (t < 2 ^ np) && decide (w < np)) || ((decide (t / 2 ^ w % 2 = 0) == decide ((2 ^ np - 1 - t) / 2 ^ w % 2 = 1)) && (!decide (t / 2 ^ w % 2 = 0) || (decide (2 ^ np - 1 - (t + 2 ^ w) = 2 ^ np - 1 - t - 2 ^ w) && decide (t + 2 ^ w < 2 ^ np))))
theorem z_cm0 : ∀ np, np < 7 → ∀ t, t < 64 → ∀ w, w < 6 → z_cmq np t w = true := by decide +kernel
theorem z_cmp (np : Nat) (hn : np < 7) (t : Nat) (ht : t < 64) (htn : t < 2 ^ np) (w : Nat) (hw : w < 6) (hwn : w < np) : decide (t / 2 ^ w % 2 = 0) = decide ((2 ^ np - 1 - t) / 2 ^ w % 2 = 1) ∧ (t / 2 ^ w % 2 = 0 → 2 ^ np - 1 - (t + 2 ^ w) = 2 ^ np - 1 - t - 2 ^ w ∧ t + 2 ^ w < 2 ^ np) := by
  have h := z_cm0 np hn t ht w hw
  unfold z_cmq at h
  rw [decide_eq_true htn, decide_eq_true hwn, Bool.and_self, Bool.not_true, Bool.false_or, Bool.and_eq_true] at h
  refine ⟨beq_iff_eq.mp h.1, fun h0 => ?_⟩
  have h2 := h.2
  rw [decide_eq_true h0, Bool.not_true, Bool.false_or, Bool.and_eq_true] at h2
  exact ⟨of_decide_eq_true h2.1, of_decide_eq_true h2.2⟩
theorem z_mc_me {np : Nat} (hn : np < 7) {ft : Nat → Nat → Nat} : ∀ d p t, t < 2 ^ np → z_mc np ft d p t = z_me np ft d p (2 ^ np - 1 - t)
  | 0, _, _, _ => rfl
  | d + 1, p, t, ht => by
    have h64 : 2 ^ np ≤ 2 ^ 6 := Nat.pow_le_pow_right (by omega) (by omega)
    refine z_mi_cong (z_mc_me hn d (p + 1) t ht) np (fun w hw => (z_cmp np hn t (by omega) ht w (by omega) hw).1) (fun w hw hc => ?_)
    have h2 := (z_cmp np hn t (by omega) ht w (by omega) hw).2 (of_decide_eq_true hc)
    show ft p w + z_mc np ft d (p + 1) (t + 2 ^ w) = ft p w + z_me np ft d (p + 1) (2 ^ np - 1 - t - 2 ^ w)
    rw [z_mc_me hn d (p + 1) _ h2.2, h2.1]
theorem z_cor : ∀ t, t < 64 → ∀ w, w < 6 → t / 2 ^ w % 2 = 0 → t ||| 2 ^ w = t + 2 ^ w ∧ t + 2 ^ w < 64 := by decide +kernel
section ZC
variable {N : Nat} {R : Nat → Nat → Nat} {q : Nat} {I : Nat → Nat → Int32}
theorem c_mostWith (hR : sR R q) {p w t x y : Nat} (hp : p < 7) (hw : w < 6) (ht : t < 64) (hb : t / 2 ^ w % 2 = 0) (h1 : I 75 (p * 6 + w) = nI x) (h2 : I 74 ((p + 1) * 64 + (t + 2 ^ w)) = nI y) : f_X1_mostWith N R 73 (nI p) (nI w) (nI t) I = some (nI (x + y), I) := by
  obtain ⟨e1, e2⟩ := z_cor t ht w hw hb
  simp (disch := omega) only [f_X1_mostWith, kd_73, kd_74, kd_75, r73_0 hR, r73_1 hR, zl_0, zl_1, zl_6, zl_64, zb_shl, zb_or, e1, h1, h2, nI_add, pk_mul, nI_ltI, nI_leI, nI_clamp, gd_t, gd_pos, lt_eq, Option.bind_some, true_and, and_true, not_true, not_false_iff, false_or, or_false, if_true, if_false, if_pos, if_neg]
theorem c_mostOf (hN : 5000 ≤ N) (hR : sR R q) {np : Nat} (hn : np ≤ 6) {ft : Nat → Nat → Nat} (hf : ∀ p w, w < np → ft p w ≤ 8) {d p : Nat} (hd : d ≤ 7) (hp : p < 7) {t : Nat} (ht : t < 64) (h1 : ∀ w, w < np → I 75 (p * 6 + w) = nI (ft p w)) (h2 : ∀ t, t < 64 → I 74 ((p + 1) * 64 + t) = nI (z_mc np ft d (p + 1) t)) : f_X1_mostOf N R 73 (nI np) (nI p) (nI t) I = some (nI (z_mc np ft (d + 1) p t), I) := by
  have g := h2 t ht
  have L := zu_loop (fun n i a => f_X1_mostOf_18 N R n 73 (nI np) (nI p) (nI t) a (nI i) I) (fun i => nI (z_mi (z_mc np ft d (p + 1) t) (fun w => ft p w + z_mc np ft d (p + 1) (t + 2 ^ w)) (fun w => decide (t / 2 ^ w % 2 = 0)) i)) (nI (z_mc np ft (d + 1) p t), I) np
    (fun n => by
      simp (disch := omega) only [f_X1_mostOf_18, nI_leI, if_pos]
      try rfl)
    (fun n i hi => by
      have eb := zb_bit (n := t) (j := i) (by omega) (by omega)
      have m1 : z_mi (z_mc np ft d (p + 1) t) (fun w => ft p w + z_mc np ft d (p + 1) (t + 2 ^ w)) (fun w => decide (t / 2 ^ w % 2 = 0)) i ≤ 8 * (d + 1) := z_mi_le (by have := z_mc_le hf d (p + 1) t; omega) i (fun w hw _ => by
        have h2 := z_mc_le hf d (p + 1) (t + 2 ^ w)
        have h3 := hf p w (by omega)
        show ft p w + z_mc np ft d (p + 1) (t + 2 ^ w) ≤ _
        omega)
      have m2 := z_mc_le hf d (p + 1) (t + 2 ^ i)
      have m3 := hf p i hi
      by_cases hb : t / 2 ^ i % 2 = 0
      · rw [hb] at eb
        have e := c_mostWith (N := N) (I := I) hR hp (show i < 6 by omega) ht hb (h1 i hi) (h2 (t + 2 ^ i) (z_cor t ht i (by omega) hb).2)
        have e9 : z_mi (z_mc np ft d (p + 1) t) (fun w => ft p w + z_mc np ft d (p + 1) (t + 2 ^ w)) (fun w => decide (t / 2 ^ w % 2 = 0)) (i + 1) = max (z_mi (z_mc np ft d (p + 1) t) (fun w => ft p w + z_mc np ft d (p + 1) (t + 2 ^ w)) (fun w => decide (t / 2 ^ w % 2 = 0)) i) (ft p i + z_mc np ft d (p + 1) (t + 2 ^ i)) := if_pos (decide_eq_true hb)
        rw [e9]
        simp (disch := omega) only [f_X1_mostOf_18, kd_73, eb, e, mx_nI, zl_0, zl_1, nI_leI, nI_add, gd_t, gd_pos, lt_eq, Option.bind_some, true_and, and_true, not_true, not_false_iff, false_or, or_false, if_true, if_false, if_pos, if_neg]
      · have hb1 : t / 2 ^ i % 2 = 1 := by omega
        rw [hb1] at eb
        have e9 : z_mi (z_mc np ft d (p + 1) t) (fun w => ft p w + z_mc np ft d (p + 1) (t + 2 ^ w)) (fun w => decide (t / 2 ^ w % 2 = 0)) (i + 1) = z_mi (z_mc np ft d (p + 1) t) (fun w => ft p w + z_mc np ft d (p + 1) (t + 2 ^ w)) (fun w => decide (t / 2 ^ w % 2 = 0)) i := if_neg (fun h => hb (of_decide_eq_true h))
        rw [e9]
        simp (disch := omega) only [f_X1_mostOf_18, eb, zl_0, zl_1, nI_leI, nI_eq, nI_add, gd_t, gd_pos, lt_eq, Option.bind_some, true_and, and_true, not_true, not_false_iff, false_or, or_false, if_true, if_false, if_pos, if_neg]) np 0 N (by omega) (by omega)
  refine Eq.trans ?_ L
  simp (disch := omega) only [f_X1_mostOf, kd_73, kd_74, r73_0 hR, g, zl_0, zl_1, zl_64, nI_add, pk_mul, nI_ltI, nI_leI, nI_clamp, gd_t, gd_pos, lt_eq, Option.bind_some, true_and, and_true, not_true, not_false_iff, false_or, or_false, if_true, if_false, if_pos, if_neg]
  try rfl
end ZC
