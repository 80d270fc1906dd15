/-! ===== PURE PART: choice: the class's tables ===== -/
def z_fw (S : zS) (V : Nat → zP) (p w : Nat) : Nat := z_ft S w (V p 0) (z_bn S w) 0
theorem z_fw_le {S : zS} (hso : z_sok S) {V : Nat → zP} : ∀ p w, w < z_np S → z_fw S V p w ≤ 8 := fun p w hw => by
  have h1 := z_ft_le (S := S) (w := w) (s := V p 0) (z_bn S w) 0
  have h2 := (hso.2.1 w hw).2.1
  unfold z_fw
  omega
section ZC
variable {N : Nat} {R : Nat → Nat → Nat} {q : Nat} {S : zS} {nu : Nat} {V : Nat → zP} {I : Nat → Nat → Int32}
theorem zX_S (hR : sR R q) {J : Nat → Nat → Int32} (h : zCS S q I) (hJ : zfr [74, 75] I J) : zCS S q J := zCS_fr h (fun c h1 h2 => hJ c (by have := sR_q hR; simp; omega))
theorem zX_V (hR : sR R q) {J : Nat → Nat → Int32} (hJ : zfr [74, 75] I J) (h7 : nu ≤ 7) (h : zCV nu V (q + 7) I) : zCV nu V (q + 7) J := zCV_fr h h7 (fun c hc => hJ c (by have := sR_q hR; simp; omega))
theorem c_w93 (hN : 5000 ≤ N) (hR : sR R q) (hso : z_sok S) (hS : zCS S q I) (h7 : nu ≤ 7) {p : Nat} (hp : p < nu) (kk : Nat → Nat → Int32 → (Nat → Nat → Int32) → Option (Unit × (Nat → Nat → Int32))) {s : Nat → Nat → Int32} (h0 : zfr [74, 75] I s) (h1 : ∀ w, w < z_np S → s 75 (p * 6 + w) = nI (z_fw S V p w)) (h2 : ∀ t, t < 64 → s 74 ((p + 1) * 64 + t) = nI (z_mc (z_np S) (z_fw S V) (nu - (p + 1)) (p + 1) t)) : ∃ s', f_X1_weigh_93 N R kk N 73 q (nI p) (nI 0) s = kk 73 q (nI p + (-1)) s' ∧ (∀ t, t < 64 → s' 74 (p * 64 + t) = nI (z_mc (z_np S) (z_fw S V) (nu - p) p t)) ∧ (∀ x, p * 64 + 64 ≤ x → s' 74 x = s 74 x) ∧ s' 75 = s 75 ∧ zfr [74, 75] I s' := by
  have h6 := hso.1
  have key := zk_loop (fun n t s => f_X1_weigh_93 N R kk n 73 q (nI p) (nI t) s) (fun s => kk 73 q (nI p + (-1)) s) (fun d s' => (∀ t, t < d → s' 74 (p * 64 + t) = nI (z_mc (z_np S) (z_fw S V) (nu - p) p t)) ∧ (∀ x, p * 64 + 64 ≤ x → s' 74 x = s 74 x) ∧ s' 75 = s 75 ∧ zfr [74, 75] I s') 64
    (fun n s' hs' => by simp (disch := omega) only [f_X1_weigh_93, zl_64, nI_leI, if_pos])
    (fun n t s' ht hs' => by
      obtain ⟨g1, g2, g3, g4⟩ := hs'
      have c1 := (zX_S hR hS g4).1
      have e := c_mostOf (N := N) (I := s') hN hR h6 (z_fw_le (S := S) hso (V := V)) (d := nu - (p + 1)) (p := p) (by omega) (by omega) ht (fun w hw => by rw [g3]; exact h1 w hw) (fun t ht => by rw [g2 _ (by omega)]; exact h2 t ht)
      rw [show nu - (p + 1) + 1 = nu - p by omega] at e
      refine ⟨sm_up s' 74 (sm_up (s' 74) (p * 64 + t) (nI (z_mc (z_np S) (z_fw S V) (nu - p) p t))), ?_, ?_, ?_, ?_, zfr_up g4 (by simp) _⟩
      · simp (disch := omega) only [f_X1_weigh_93, kd_73, kd_74, r73_0 hR, q_k0 hR, c1, e, zl_0, zl_1, zl_64, nI_add, pk_mul, nI_ltI, nI_leI, nI_clamp, gd_t, gd_pos, lt_eq, Option.bind_some, true_and, and_true, not_true, not_false_iff, false_or, or_false, if_true, if_false, if_pos, if_neg]
      · intro k hk
        rw [up_s]
        by_cases he : k = t
        · rw [he, up_s]
        · rw [up_n _ _ (by omega)]
          exact g1 k (by omega)
      · intro x hx
        rw [up_s, up_n _ _ (by omega)]
        exact g2 x hx
      · rw [up_n _ _ (by omega)]
        exact g3) 64 0 s N (by omega) (by omega) ⟨fun t ht => absurd ht (Nat.not_lt_zero t), fun x _ => rfl, rfl, h0⟩
  obtain ⟨s', k1, k2, k3, k4, k5⟩ := key
  exact ⟨s', k1, k2, k3, k4, k5⟩
theorem c_w45 (hN : 5000 ≤ N) (hR : sR R q) (hso : z_sok S) (hS : zCS S q I) (hV : zCV nu V (q + 7) I) (h7 : nu ≤ 7) (h9 : ∀ p, p < nu → V p 0 ≤ 99) {p : Nat} (hp : p < nu) (kk : Nat → Nat → Int32 → (Nat → Nat → Int32) → Option (Unit × (Nat → Nat → Int32))) {s : Nat → Nat → Int32} (h0 : zfr [74, 75] I s) : ∃ s', f_X1_weigh_45 N R kk N 73 q (nI p) (nI 0) s = f_X1_weigh_93 N R kk N 73 q (nI p) (nI 0) s' ∧ (∀ w, w < z_np S → s' 75 (p * 6 + w) = nI (z_fw S V p w)) ∧ (∀ x, p * 6 + 6 ≤ x → s' 75 x = s 75 x) ∧ s' 74 = s 74 ∧ zfr [74, 75] I s' := by
  have h6 := hso.1
  have key := zk_loop (fun n w s => f_X1_weigh_45 N R kk n 73 q (nI p) (nI w) s) (fun s => f_X1_weigh_93 N R kk N 73 q (nI p) (nI 0) s) (fun d s' => (∀ w, w < d → s' 75 (p * 6 + w) = nI (z_fw S V p w)) ∧ (∀ x, p * 6 + 6 ≤ x → s' 75 x = s 75 x) ∧ s' 74 = s 74 ∧ zfr [74, 75] I s') (z_np S)
    (fun n s' hs' => by
      have c1 := (zX_S hR hS hs'.2.2.2).1
      simp (disch := omega) only [f_X1_weigh_45, q_k0 hR, c1, zl_0, nI_leI, if_pos, gd_t, gd_pos])
    (fun n w s' hw hs' => by
      obtain ⟨g1, g2, g3, g4⟩ := hs'
      have c1 := (zX_S hR hS g4).1
      have hV2 := zX_V hR g4 h7 hV
      have l0 := hV2.2 p hp 0 (by omega)
      have kp := q_t4 hR p (by omega)
      have e := c_fit (N := N) hN hR.q hso (zX_S hR hS g4) hw (h9 p hp)
      refine ⟨sm_up s' 75 (sm_up (s' 75) (p * 6 + w) (nI (z_fw S V p w))), ?_, ?_, ?_, ?_, zfr_up g4 (by simp) _⟩
      · unfold z_fw
        simp (disch := omega) only [f_X1_weigh_45, kd_73, kd_75, r73_1 hR, q_k0 hR, q_r5 hR, q_t0 hR, q_t1 hR, q_t2 hR, q_t3 hR, kp, l0, c1, e, zl_0, zl_1, zl_6, nI_add, pk_mul, nI_ltI, nI_leI, nI_clamp, gd_t, gd_pos, lt_eq, Option.bind_some, true_and, and_true, not_true, not_false_iff, false_or, or_false, if_true, if_false, if_pos, if_neg]
      · intro k hk
        rw [up_s]
        by_cases he : k = w
        · rw [he, up_s]
        · rw [up_n _ _ (by omega)]
          exact g1 k (by omega)
      · intro x hx
        rw [up_s, up_n _ _ (by omega)]
        exact g2 x hx
      · rw [up_n _ _ (by omega)]
        exact g3) (z_np S) 0 s N (by omega) (by omega) ⟨fun t ht => absurd ht (Nat.not_lt_zero t), fun x _ => rfl, rfl, h0⟩
  obtain ⟨s', k1, k2, k3, k4, k5⟩ := key
  exact ⟨s', k1, k2, k3, k4, k5⟩
theorem c_weighC (hN : 5000 ≤ N) (hR : sR R q) (hso : z_sok S) (hS : zCS S q I) (hV : zCV nu V (q + 7) I) (h7 : nu ≤ 7) (h9 : ∀ p, p < nu → V p 0 ≤ 99) : ∃ J, f_X1_weigh N R 73 q I = some ((), J) ∧ (∀ p, p ≤ nu → ∀ t, t < 64 → J 74 (p * 64 + t) = nI (z_mc (z_np S) (z_fw S V) (nu - p) p t)) ∧ (∀ p, p < nu → ∀ w, w < z_np S → J 75 (p * 6 + w) = nI (z_fw S V p w)) ∧ zfr [74, 75] I J := by
  have h6 := hso.1
  have hV1 := hV.1
  have k1 := zk_loop (fun n t s => f_X1_weigh_10 N R n 73 q (nI nu) (nI t) s) (fun s => f_X1_weigh_38 N R N 73 q (nI nu - nI 1) s) (fun d s' => (∀ t, t < d → s' 74 (nu * 64 + t) = nI 0) ∧ zfr [74, 75] I s') 64
    (fun n s' hs' => by simp (disch := omega) only [f_X1_weigh_10, zl_1, zl_64, nI_leI, if_pos])
    (fun n t s' ht hs' => by
      refine ⟨sm_up s' 74 (sm_up (s' 74) (nu * 64 + t) (nI 0)), ?_, ?_, zfr_up hs'.2 (by simp) _⟩
      · simp (disch := omega) only [f_X1_weigh_10, kd_73, kd_74, r73_0 hR, zl_0, zl_1, zl_64, nI_add, pk_mul, nI_ltI, nI_leI, nI_clamp, gd_t, gd_pos, lt_eq, Option.bind_some, true_and, and_true, not_true, not_false_iff, false_or, or_false, if_true, if_false, if_pos, if_neg]
      · intro k hk
        rw [up_s]
        by_cases he : k = t
        · rw [he, up_s]
        · rw [up_n _ _ (by omega)]
          exact hs'.1 k (by omega)) 64 0 I N (by omega) (by omega) ⟨fun t ht => absurd ht (Nat.not_lt_zero t), zfr_refl _ _⟩
  obtain ⟨J0, p1, p2, p3⟩ := k1
  have k2 := zm_loop (fun n i s => f_X1_weigh_38 N R n 73 q (nI (nu - i) - nI 1) s) (fun i s => (∀ p, nu - i ≤ p → p ≤ nu → ∀ t, t < 64 → s 74 (p * 64 + t) = nI (z_mc (z_np S) (z_fw S V) (nu - p) p t)) ∧ (∀ p, nu - i ≤ p → p < nu → ∀ w, w < z_np S → s 75 (p * 6 + w) = nI (z_fw S V p w)) ∧ zfr [74, 75] I s) (fun y => (∀ p, p ≤ nu → ∀ t, t < 64 → y.2 74 (p * 64 + t) = nI (z_mc (z_np S) (z_fw S V) (nu - p) p t)) ∧ (∀ p, p < nu → ∀ w, w < z_np S → y.2 75 (p * 6 + w) = nI (z_fw S V p w)) ∧ zfr [74, 75] I y.2) nu
    (fun n s hs => by
      refine ⟨((), s), ?_, fun p hp => hs.1 p (by omega) hp, fun p hp => hs.2.1 p (by omega) hp, hs.2.2⟩
      try dsimp only
      rw [Nat.sub_self]
      unfold f_X1_weigh_38
      exact if_pos (by decide))
    (fun n i s hi hs => by
      obtain ⟨g1, g2, g3⟩ := hs
      obtain ⟨p, hp⟩ : ∃ p, nu - i = p + 1 := ⟨nu - i - 1, by omega⟩
      obtain ⟨s1, a1, a2, a3, a4, a5⟩ := c_w45 hN hR hso hS hV h7 h9 (p := p) (by omega) (fun z0 z1 z2 J => f_X1_weigh_38 N R n z0 z1 z2 J) g3
      obtain ⟨s2, b1, b2, b3, b4, b5⟩ := c_w93 (V := V) hN hR hso hS h7 (p := p) (by omega) (fun z0 z1 z2 J => f_X1_weigh_38 N R n z0 z1 z2 J) a5 a2 (fun t ht => by rw [a4]; exact g1 (p + 1) (by omega) (by omega) t ht)
      refine ⟨s2, ?_, ?_, ?_, b5⟩
      · try dsimp only
        rw [hp, show nu - (i + 1) = p by omega, Int32.sub_eq_add_neg (nI p)]
        refine Eq.trans ?_ (a1.trans b1)
        simp (disch := omega) only [f_X1_weigh_38, zl_0, pk_sub, Nat.add_sub_cancel, nI_ltI, if_neg]
      · intro p' h1 h2 t ht
        by_cases he : p' = p
        · rw [he]
          exact b2 t ht
        · rw [b3 _ (by omega), a4]
          exact g1 p' (by omega) h2 t ht
      · intro p' h1 h2 w hw
        rw [b4]
        by_cases he : p' = p
        · rw [he]
          exact a2 w hw
        · rw [a3 _ (by omega)]
          exact g2 p' (by omega) h2 w hw) nu 0 J0 N (by omega) (by omega) ⟨fun p h1 h2 t ht => by
      obtain rfl : p = nu := by omega
      rw [p2 t ht, Nat.sub_self]
      rfl, fun p h1 h2 => absurd h1 (by omega), p3⟩
  obtain ⟨⟨u, J⟩, l1, l2, l3, l4⟩ := k2
  refine ⟨J, ?_, l2, l3, l4⟩
  refine Eq.trans ?_ (p1.trans l1)
  simp (disch := omega) only [f_X1_weigh, q_k0 hR, q_r5 hR, q_t0 hR, hV1, zl_0, gd_t, gd_pos]
def z_fm (np : Nat) (ft : Nat → Nat → Nat) (nu p t : Nat) : Option Nat := zfs (fun w => decide (t / 2 ^ w % 2 = 0 ∧ ft p w + z_mc np ft (nu - (p + 1)) (p + 1) (t + 2 ^ w) = z_mc np ft (nu - p) p t)) np 0
def z_tk (np : Nat) (ft : Nat → Nat → Nat) (nu : Nat) : Nat → Nat
  | 0 => 0
  | i + 1 => match z_fm np ft nu i (z_tk np ft nu i) with
    | none => z_tk np ft nu i
    | some w => z_tk np ft nu i + 2 ^ w
theorem z_tk_n {np nu i : Nat} {ft : Nat → Nat → Nat} (h : z_fm np ft nu i (z_tk np ft nu i) = none) : z_tk np ft nu (i + 1) = z_tk np ft nu i := by
  show (match z_fm np ft nu i (z_tk np ft nu i) with | none => z_tk np ft nu i | some w => z_tk np ft nu i + 2 ^ w) = _
  rw [h]
theorem z_tk_s {np nu i w : Nat} {ft : Nat → Nat → Nat} (h : z_fm np ft nu i (z_tk np ft nu i) = some w) : z_tk np ft nu (i + 1) = z_tk np ft nu i + 2 ^ w := by
  show (match z_fm np ft nu i (z_tk np ft nu i) with | none => z_tk np ft nu i | some w => z_tk np ft nu i + 2 ^ w) = _
  rw [h]
theorem z_tk_lt {np nu : Nat} (hn : np < 7) {ft : Nat → Nat → Nat} : ∀ i, z_tk np ft nu i < 2 ^ np
  | 0 => Nat.two_pow_pos np
  | i + 1 => by
    have ih := z_tk_lt hn (nu := nu) (ft := ft) i
    have h64 : 2 ^ np ≤ 2 ^ 6 := Nat.pow_le_pow_right (by omega) (by omega)
    rcases h : z_fm np ft nu i (z_tk np ft nu i) with _ | w
    · rw [z_tk_n h]
      exact ih
    · have h2 := zfs_some np 0 w h
      rw [z_tk_s h]
      exact ((z_cmp np hn _ (by omega) ih w (by omega) (by omega)).2 (of_decide_eq_true h2.2.2).1).2
theorem c_firstOf (hN : 5000 ≤ N) (hR : sR R q) (h6 : z_np S ≤ 6) (hso : z_sok S) (h7 : nu ≤ 7) {p t : Nat} (hp : p < nu) (ht : t < 64) (h1 : ∀ p, p ≤ nu → ∀ t, t < 64 → I 74 (p * 64 + t) = nI (z_mc (z_np S) (z_fw S V) (nu - p) p t)) (h2 : ∀ p, p < nu → ∀ w, w < z_np S → I 75 (p * 6 + w) = nI (z_fw S V p w)) : f_X1_firstOfMost N R 73 (nI (z_np S)) (nI p) (nI t) I = some (zn1 (z_fm (z_np S) (z_fw S V) nu p t), I) := by
  have g := h1 p (by omega) t ht
  have m0 := z_mc_le (z_fw_le hso (V := V)) (nu - p) p t
  have L := zfs_loop (fun n w (_ : Unit) => f_X1_firstOfMost_3 N R n 73 (nI (z_np S)) (nI p) (nI t) (nI w) I) (fun w => decide (t / 2 ^ w % 2 = 0 ∧ z_fw S V p w + z_mc (z_np S) (z_fw S V) (nu - (p + 1)) (p + 1) (t + 2 ^ w) = z_mc (z_np S) (z_fw S V) (nu - p) p t)) (fun _ _ => True) (fun o y => y = (zn1 o, I)) (z_np S)
    (fun n s _ => ⟨(-1, I), by simp (disch := omega) only [f_X1_firstOfMost_3, nI_leI, if_pos], rfl⟩)
    (fun n w s hw _ hc => by
      obtain ⟨hb, he⟩ := of_decide_eq_true hc
      have eb := zb_bit (n := t) (j := w) (by omega) (by omega)
      rw [hb] at eb
      have e := c_mostWith (N := N) (I := I) hR (show p < 7 by omega) (show w < 6 by omega) ht hb (h2 p hp w hw) (h1 (p + 1) (by omega) (t + 2 ^ w) (z_cor t ht w (by omega) hb).2)
      rw [he] at e
      refine ⟨(nI w, I), ?_, rfl⟩
      simp (disch := omega) only [f_X1_firstOfMost_3, f_X1_firstOfMost_23, kd_73, kd_74, r73_0 hR, eb, e, g, zl_0, zl_1, zl_64, nI_eq, nI_add, pk_mul, nI_ltI, nI_leI, nI_clamp, gd_t, gd_pos, lt_eq, Option.bind_some, true_and, and_true, not_true, not_false_iff, false_or, or_false, if_true, if_false, if_pos, if_neg])
    (fun n w s hw _ hc => by
      have hc : ¬ (t / 2 ^ w % 2 = 0 ∧ z_fw S V p w + z_mc (z_np S) (z_fw S V) (nu - (p + 1)) (p + 1) (t + 2 ^ w) = z_mc (z_np S) (z_fw S V) (nu - p) p t) := fun h => hc (decide_eq_true h)
      have eb := zb_bit (n := t) (j := w) (by omega) (by omega)
      refine ⟨(), ?_, trivial⟩
      by_cases hb : t / 2 ^ w % 2 = 0
      · rw [hb] at eb
        have e := c_mostWith (N := N) (I := I) hR (show p < 7 by omega) (show w < 6 by omega) ht hb (h2 p hp w hw) (h1 (p + 1) (by omega) (t + 2 ^ w) (z_cor t ht w (by omega) hb).2)
        have hne : ¬ z_fw S V p w + z_mc (z_np S) (z_fw S V) (nu - (p + 1)) (p + 1) (t + 2 ^ w) = z_mc (z_np S) (z_fw S V) (nu - p) p t := fun h => hc ⟨hb, h⟩
        have m1 := z_mc_le (z_fw_le hso (V := V)) (nu - (p + 1)) (p + 1) (t + 2 ^ w)
        have m2 := z_fw_le hso (V := V) p w hw
        simp (disch := omega) only [f_X1_firstOfMost_3, f_X1_firstOfMost_23, kd_73, kd_74, r73_0 hR, eb, e, g, zl_0, zl_1, zl_64, nI_eq, nI_add, pk_mul, nI_ltI, nI_leI, nI_clamp, gd_t, gd_pos, lt_eq, Option.bind_some, true_and, and_true, not_true, not_false_iff, false_or, or_false, if_true, if_false, if_pos, if_neg]
      · rw [show t / 2 ^ w % 2 = 1 by omega] at eb
        simp (disch := omega) only [f_X1_firstOfMost_3, f_X1_firstOfMost_23, eb, zl_0, zl_1, nI_eq, nI_add, nI_leI, gd_t, gd_pos, lt_eq, Option.bind_some, true_and, and_true, not_true, not_false_iff, false_or, or_false, if_true, if_false, if_pos, if_neg]) (z_np S) 0 () N (by omega) (by omega) trivial
  obtain ⟨y, l1, l2⟩ := L
  rw [l2] at l1
  exact l1
end ZC
