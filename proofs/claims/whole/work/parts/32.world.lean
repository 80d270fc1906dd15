/-! ===== PURE PART: what a school is, and what a pupil does in it ===== -/
abbrev zS : Type := Nat × (Nat → Nat) × (Nat → Nat) × (Nat → Nat → Nat) × Option (Nat × (Nat → Nat))
def z_np (S : zS) : Nat := S.1
def z_bn (S : zS) : Nat → Nat := S.2.1
def z_st (S : zS) : Nat → Nat := S.2.2.1
def z_hd (S : zS) : Nat → Nat → Nat := S.2.2.2.1
def z_rl (S : zS) : Option (Nat × (Nat → Nat)) := S.2.2.2.2
def z_op (c : Nat) (a b : Int32) : Int32 :=
  if c = 20000 then (if a = 0 then (if b = 0 then 0 else 1) else 1)
  else if c = 20001 then (if a = 0 then 0 else if b = 0 then 0 else 1)
  else if c = 20003 then (if b ≤ a then 0 else 1)
  else if c = 20004 then (if a = b then 1 else 0)
  else if c = 20005 then a + b
  else if c = 20006 then a - b
  else if c = 20007 then a * b
  else (if b = 0 then 0 else a / b)
/-- the rule: codes below 10000 numbers, from there on values, from 20000 on signs; a stack f of height h -/
def z_ev (vs : Nat → Int32) (cd : Nat → Nat) : Nat → Nat → Nat → (Nat → Int32) → Int32
  | 0, _, _, f => f 0
  | d + 1, i, h, f =>
    if cd i < 20000 then z_ev vs cd d (i + 1) (h + 1) (sm_up f h (if cd i < 10000 then nI (cd i) else vs (cd i - 10000)))
    else if cd i = 20002 then z_ev vs cd d (i + 1) h (sm_up f (h - 1) (if f (h - 1) = 0 then 1 else 0))
    else z_ev vs cd d (i + 1) (h - 1) (sm_up f (h - 2) (z_op (cd i) (f (h - 2)) (f (h - 1))))
def z_ok (cd : Nat → Nat) : Nat → Nat → Nat → Prop
  | 0, _, h => h = 1
  | d + 1, i, h =>
    (cd i < 20000 → cd i < 10006 ∧ h < 64 ∧ z_ok cd d (i + 1) (h + 1)) ∧
    (cd i = 20002 → 1 ≤ h ∧ z_ok cd d (i + 1) h) ∧
    (20000 ≤ cd i → cd i ≠ 20002 → cd i ≤ 20008 ∧ 2 ≤ h ∧ z_ok cd d (i + 1) (h - 1))
theorem z_ev_cong {vs ws : Nat → Int32} {cd : Nat → Nat} (hv : ∀ v, v < 6 → vs v = ws v) : ∀ (d i h : Nat) (f g : Nat → Int32), z_ok cd d i h → (∀ j, j < h → f j = g j) → z_ev vs cd d i h f = z_ev ws cd d i h g
  | 0, i, h, f, g, ho, hf => hf 0 (by have : h = 1 := ho; omega)
  | d + 1, i, h, f, g, ho, hf => by
    obtain ⟨h1, h2, h3⟩ := ho
    unfold z_ev
    by_cases c1 : cd i < 20000
    · obtain ⟨a1, a2, a3⟩ := h1 c1
      rw [if_pos c1, if_pos c1]
      refine z_ev_cong hv d _ _ _ _ a3 (fun j hj => ?_)
      by_cases hjh : j = h
      · subst hjh
        rw [up_s, up_s]
        by_cases c2 : cd i < 10000
        · rw [if_pos c2, if_pos c2]
        · rw [if_neg c2, if_neg c2]
          exact hv _ (by omega)
      · rw [up_n f _ hjh, up_n g _ hjh]
        exact hf j (by omega)
    · rw [if_neg c1, if_neg c1]
      by_cases c2 : cd i = 20002
      · obtain ⟨a1, a2⟩ := h2 c2
        rw [if_pos c2, if_pos c2, hf (h - 1) (by omega)]
        refine z_ev_cong hv d _ _ _ _ a2 (fun j hj => ?_)
        by_cases hjh : j = h - 1
        · subst hjh
          rw [up_s, up_s]
        · rw [up_n f _ hjh, up_n g _ hjh]
          exact hf j (by omega)
      · obtain ⟨a1, a2, a3⟩ := h3 (by omega) c2
        rw [if_neg c2, if_neg c2, hf (h - 1) (by omega), hf (h - 2) (by omega)]
        refine z_ev_cong hv d _ _ _ _ a3 (fun j hj => ?_)
        by_cases hjh : j = h - 2
        · subst hjh
          rw [up_s, up_s]
        · rw [up_n f _ hjh, up_n g _ hjh]
          exact hf j (by omega)
/-! a pupil: 0 skill 1 sore 2 piece 3 bars 4 away 5 prodigy -/
abbrev zP : Type := Nat → Nat
/-- how many bits of n below 2 ^ k -/
def z_pc : Nat → Nat → Nat
  | 0, _ => 0
  | k + 1, n => n % 2 + z_pc k (n / 2)
def z_nh (S : zS) (pl : zP) : Nat := if pl 3 < z_bn S (pl 2) then z_hd S (pl 2) (pl 3) else 0
def z_ask (S : zS) (pl : zP) : Nat → Int32 := fun j => match j with
  | 0 => nI (pl 0)
  | 1 => nI (pl 1)
  | 2 => nI (z_nh S pl)
  | 3 => nI (pl 3)
  | 4 => nI (z_bn S (pl 2))
  | _ => nI (z_pc 32 (pl 4))
def z_v (S : zS) (pl : zP) : Int32 := match z_rl S with
  | none => nI (5 - pl 1 / 2)
  | some r => z_ev (z_ask S pl) r.2 r.1 0 0 (fun _ => 0)
/-- by how much skill is more -/
def z_up (S : zS) (pl : zP) : Nat := min (99 - pl 0) (if pl 5 = 1 then 2 * zz_cl 20 (z_v S pl) else zz_cl 20 (z_v S pl))
def z_pr (S : zS) (pl : zP) : zP := sm_up pl 0 (pl 0 + z_up S pl)
def z_lb (S : zS) (w s : Nat) : Nat → Nat → Nat
  | 0, b => b
  | n + 1, b => if b < z_bn S w ∧ z_hd S w b ≤ s then z_lb S w s n (b + 1) else b
def z_le (S : zS) (pl : zP) : zP := sm_up pl 3 (z_lb S (pl 2) (pl 0) (if z_st S (pl 2) = 1 then 8 else 1) (pl 3))
def z_aw (pl : zP) : zP := sm_up pl 4 (pl 4 / 2)
def z_wk (S : zS) (pl : zP) : zP := if pl 4 % 2 = 1 then z_aw pl else z_aw (sm_up (z_le S (z_pr S pl)) 1 (pl 1 - 1))
def z_wks (S : zS) : Nat → zP → zP
  | 0, pl => pl
  | n + 1, pl => z_wks S n (z_wk S pl)
def z_go (S : zS) (pl : zP) (k : Nat) : zP := sm_up (sm_up (z_pr S pl) 1 (min 9 (pl 1 + 2))) 4 (pl 4 ||| 2 ^ (k - 1))
/-- a school as a text may tell it; a pupil as there may be one -/
def z_sok (S : zS) : Prop := z_np S ≤ 6 ∧ (∀ w, w < z_np S → 1 ≤ z_bn S w ∧ z_bn S w ≤ 8 ∧ z_st S w ≤ 1 ∧ ∀ i, i < z_bn S w → 1 ≤ z_hd S w i ∧ z_hd S w i ≤ 99) ∧ ∀ r, z_rl S = some r → r.1 ≤ 700 ∧ z_ok r.2 r.1 0 0
def z_pok (S : zS) (pl : zP) : Prop := pl 0 ≤ 99 ∧ pl 1 ≤ 9 ∧ pl 2 < z_np S ∧ pl 3 ≤ z_bn S (pl 2) ∧ pl 4 < 2 ^ 30 ∧ pl 5 ≤ 1
theorem z_pok_pr {S : zS} {pl : zP} (h : z_pok S pl) : z_pok S (z_pr S pl) := by
  obtain ⟨h0, h1, h2, h3, h4, h5⟩ := h
  have : z_up S pl ≤ 99 - pl 0 := Nat.min_le_left _ _
  unfold z_pok z_pr
  simp (disch := omega) only [up_s, up_n]
  omega
theorem z_lb_le {S : zS} {w s : Nat} : ∀ n b, b ≤ z_bn S w → z_lb S w s n b ≤ z_bn S w
  | 0, b, h => h
  | n + 1, b, h => by
    unfold z_lb
    split
    · exact z_lb_le n (b + 1) (by omega)
    · exact h
theorem z_pok_le {S : zS} {pl : zP} (h : z_pok S pl) : z_pok S (z_le S pl) := by
  obtain ⟨h0, h1, h2, h3, h4, h5⟩ := h
  have := z_lb_le (S := S) (w := pl 2) (s := pl 0) (if z_st S (pl 2) = 1 then 8 else 1) (pl 3) h3
  unfold z_pok z_le
  simp (disch := omega) only [up_s, up_n]
  omega
theorem z_pok_sore {S : zS} {pl : zP} (h : z_pok S pl) {v : Nat} (hv : v ≤ 9) : z_pok S (sm_up pl 1 v) := by
  obtain ⟨h0, h1, h2, h3, h4, h5⟩ := h
  unfold z_pok
  simp (disch := omega) only [up_s, up_n]
  omega
theorem z_pok_away {S : zS} {pl : zP} (h : z_pok S pl) {v : Nat} (hv : v < 2 ^ 30) : z_pok S (sm_up pl 4 v) := by
  obtain ⟨h0, h1, h2, h3, h4, h5⟩ := h
  unfold z_pok
  simp (disch := omega) only [up_s, up_n]
  omega
theorem z_pok_wk {S : zS} {pl : zP} (h : z_pok S pl) : z_pok S (z_wk S pl) := by
  unfold z_wk z_aw
  split
  · exact z_pok_away h (by have := h.2.2.2.2.1; omega)
  · refine z_pok_away (z_pok_sore (z_pok_le (z_pok_pr h)) (by have := h.2.1; omega)) ?_
    have := h.2.2.2.2.1
    unfold z_le z_pr
    simp (disch := omega) only [up_s, up_n]
    omega
theorem z_pok_wks {S : zS} : ∀ (n : Nat) (pl : zP), z_pok S pl → z_pok S (z_wks S n pl)
  | 0, _, h => h
  | n + 1, pl, h => z_pok_wks n _ (z_pok_wk h)
theorem z_pok_go {S : zS} {pl : zP} (h : z_pok S pl) {k : Nat} (hk : k ≤ 30) (hk1 : 1 ≤ k) : z_pok S (z_go S pl k) := by
  refine z_pok_away (z_pok_sore (z_pok_pr h) (by omega)) ?_
  exact Nat.or_lt_two_pow h.2.2.2.2.1 (Nat.pow_lt_pow_right (by omega) (by omega))
