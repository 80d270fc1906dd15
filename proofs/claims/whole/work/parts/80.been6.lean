/-! ===== PURE PART: been: the model ===== -/
def zSl : List Nat := [95, 96, 97, 98, 99, 101, 102, 110]
def zSf : List Nat := [31, 32]
def z_vi (S : zS) (ns : Nat) (sn : Nat → Nat × Nat × Nat) (V : Nat → zP) (w : Nat) : Option Nat := zfs (fun i => decide ((sn i).2.1 = w ∧ ¬ z_wks S w (V (sn i).1) 3 = (sn i).2.2)) ns 0
def z_vk (S : zS) (sn : Nat → Nat × Nat × Nat) (V : Nat → zP) (w : Nat) : Nat → Int32
  | 0 => nI 1
  | k + 1 => if z_vk S sn V w k = nI 0 then nI 0 else if (sn k).2.1 = w then (if z_wks S w (V (sn k).1) 3 = (sn k).2.2 then nI 1 else nI 0) else nI 1
section ZB
variable {S : zS} {nu ns : Nat} {sn : Nat → Nat × Nat × Nat} {V : Nat → zP}
theorem z_vk_01 (w : Nat) : ∀ k, z_vk S sn V w k = nI 0 ∨ z_vk S sn V w k = nI 1
  | 0 => Or.inr rfl
  | k + 1 => by
    unfold z_vk
    by_cases h1 : z_vk S sn V w k = nI 0
    · rw [if_pos h1]
      exact Or.inl rfl
    · rw [if_neg h1]
      by_cases h2 : (sn k).2.1 = w
      · rw [if_pos h2]
        by_cases h3 : z_wks S w (V (sn k).1) 3 = (sn k).2.2
        · rw [if_pos h3]
          exact Or.inr rfl
        · rw [if_neg h3]
          exact Or.inl rfl
      · rw [if_neg h2]
        exact Or.inr rfl
theorem z_vk_iff (w : Nat) : ∀ k, z_vk S sn V w k = nI 1 ↔ ∀ i, i < k → (sn i).2.1 = w → z_wks S w (V (sn i).1) 3 = (sn i).2.2
  | 0 => ⟨fun _ i hi => absurd hi (Nat.not_lt_zero _), fun _ => rfl⟩
  | k + 1 => by
    have ih := z_vk_iff w k
    have h01 : ¬ nI 0 = nI 1 := by decide
    unfold z_vk
    rcases z_vk_01 (S := S) (sn := sn) (V := V) w k with h0 | h1
    · rw [if_pos h0]
      refine ⟨fun h => absurd h h01, fun h => ?_⟩
      have := ih.mpr (fun i hi => h i (by omega))
      rw [h0] at this
      exact absurd this h01
    · rw [h1, if_neg (fun h => h01 h.symm)]
      have h2 := ih.mp h1
      by_cases h3 : (sn k).2.1 = w
      · rw [if_pos h3]
        by_cases h4 : z_wks S w (V (sn k).1) 3 = (sn k).2.2
        · rw [if_pos h4]
          refine ⟨fun _ i hi e => ?_, fun _ => rfl⟩
          by_cases e2 : i = k
          · rw [e2]
            exact h4
          · exact h2 i (by omega) e
        · rw [if_neg h4]
          exact ⟨fun h => absurd h h01, fun h => absurd (h k (by omega) h3) h4⟩
      · rw [if_neg h3]
        refine ⟨fun _ i hi e => ?_, fun _ => rfl⟩
        by_cases e2 : i = k
        · rw [e2] at e
          exact absurd e h3
        · exact h2 i (by omega) e
theorem z_all_w (hk : zNok nu ns sn) : zfs (fun j => decide (¬ z_vk S sn V (j + 1) ns = nI 1)) 20 0 = none ↔ z_all S ns sn V = none := by
  rw [z_all_iff]
  constructor
  · intro h i hi
    have hw := hk.2 i hi
    have h1 := zfs_none 20 0 h ((sn i).2.1 - 1) (by omega) (by omega)
    rw [show (sn i).2.1 - 1 + 1 = (sn i).2.1 by omega] at h1
    have h2 : z_vk S sn V (sn i).2.1 ns = nI 1 := Decidable.of_not_not (fun h3 => h1 (decide_eq_true h3))
    exact (z_vk_iff _ ns).mp h2 i hi rfl
  · intro h
    refine zfs_nil 20 0 (fun j _ _ hc => of_decide_eq_true hc ((z_vk_iff (j + 1) ns).mpr (fun i hi e => ?_)))
    have := h i hi
    rw [e] at this
    exact this
end ZB
section ZM
variable {N : Nat} {R : Nat → Nat → Nat} {q nu ns wk pn : Nat} {S : zS} {sn : Nat → Nat × Nat × Nat} {I : Nat → Nat → Int32} {V : Nat → zP}
theorem zfm_sl {L F : List Nat} {I J : Nat → Nat → Int32} (h : zfm L F I J) (hL : (L.all zSl.contains) = true) (hF : (F.all zSf.contains) = true) : zfm zSl zSf I J := zfm_mono h (fun x hx => List.contains_iff_mem.mp (List.all_eq_true.mp hL x hx)) (fun x hx => List.contains_iff_mem.mp (List.all_eq_true.mp hF x hx))
theorem m_seen29 (hN : 5000 ≤ N) (hR : sR R q) (hk : zNok nu ns sn) (h7 : nu ≤ 7) {w : Nat} (hw : w ≤ 20) (hn : zMN ns sn 34 107 I) (hb : ∀ p, p < nu → I 98 p = nI (z_wks S w (V p) 3)) (hb8 : ∀ p, p < nu → z_wks S w (V p) 3 ≤ 8) (kk : Nat → Int32 → Int32 → (Nat → Nat → Int32) → Option (Int32 × (Nat → Nat → Int32))) : f_X12_isAsSeen_29 N R kk N 80 (nI 1) (nI w) (nI 0) I = kk 80 (z_vk S sn V w ns) (nI w + 1) I := by
  have h34 := hn.1
  have h8 := hk.1
  have L := zk_loop (fun n i (a : Int32) => f_X12_isAsSeen_29 N R kk n 80 a (nI w) (nI i) I) (fun a => kk 80 a (nI w + 1) I) (fun i a => a = z_vk S sn V w i) ns
    (fun n a ha => by simp (disch := omega) only [f_X12_isAsSeen_29, kd_80, h34, nI_leI, gd_t, gd_pos, if_pos])
    (fun n i a hi ha => by
      subst ha
      obtain ⟨g1, g2, g3⟩ := hn.2 i hi
      obtain ⟨o1, o2, o3, o4⟩ := hk.2 i hi
      have g5 := hb _ o1
      have g6 := hb8 _ o1
      refine ⟨z_vk S sn V w (i + 1), ?_, rfl⟩
      have e9 : z_vk S sn V w (i + 1) = if z_vk S sn V w i = nI 0 then nI 0 else if (sn i).2.1 = w then (if z_wks S w (V (sn i).1) 3 = (sn i).2.2 then nI 1 else nI 0) else nI 1 := rfl
      rw [e9]
      rcases z_vk_01 (S := S) (sn := sn) (V := V) w i with h0 | h1
      · rw [h0, if_pos rfl]
        simp (disch := omega) only [f_X12_isAsSeen_29, kd_80, h34, zl_0, zl_1, nI_leI, nI_eq, nI_add, gd_t, gd_pos, if_neg, if_true]
      · rw [h1, if_neg (by decide)]
        by_cases h2 : (sn i).2.1 = w
        · rw [if_pos h2]
          by_cases h3 : z_wks S w (V (sn i).1) 3 = (sn i).2.2
          · rw [if_pos h3]
            simp (disch := omega) only [f_X12_isAsSeen_29, kd_80, h34, r80_41 hR, kd_107, r80_42 hR, kd_108, r80_43 hR, kd_109, r80_28 hR, kd_98, g1, g2, g3, g5, zl_0, zl_1, nI_leI, nI_ltI, nI_eq, nI_add, nI_clamp, gd_t, gd_pos, lt_eq, Option.bind_some, true_and, and_true, not_true, not_false_iff, false_or, or_false, if_true, if_false, if_pos, if_neg]
          · rw [if_neg h3]
            simp (disch := omega) only [f_X12_isAsSeen_29, kd_80, h34, r80_41 hR, kd_107, r80_42 hR, kd_108, r80_43 hR, kd_109, r80_28 hR, kd_98, g1, g2, g3, g5, zl_0, zl_1, nI_leI, nI_ltI, nI_eq, nI_add, nI_clamp, gd_t, gd_pos, lt_eq, Option.bind_some, true_and, and_true, not_true, not_false_iff, false_or, or_false, if_true, if_false, if_pos, if_neg]
        · rw [if_neg h2]
          simp (disch := omega) only [f_X12_isAsSeen_29, kd_80, h34, r80_41 hR, kd_107, r80_42 hR, kd_108, r80_43 hR, kd_109, r80_28 hR, kd_98, g1, g2, g3, g5, zl_0, zl_1, nI_leI, nI_ltI, nI_eq, nI_add, nI_clamp, gd_t, gd_pos, lt_eq, Option.bind_some, true_and, and_true, not_true, not_false_iff, false_or, or_false, if_true, if_false, if_pos, if_neg]) ns 0 (nI 1) N (by omega) (by omega) rfl
  obtain ⟨a, l1, l2⟩ := L
  rw [l2] at l1
  exact l1
theorem m_asSeen (hN : 5000 ≤ N) (hR : sR R q) (hso : z_sok S) (hk : zNok nu ns sn) (h7 : nu ≤ 7) (hS : zMS S I) (hV : zMV nu V I) (ho : ∀ p, p < nu → z_pok S (V p)) (h31 : I 80 31 = nI wk) (h32 : I 80 32 = nI pn) (hn : zMN ns sn 34 107 I) : ∃ J, f_X12_isAsSeen N R 80 I = some ((if z_all S ns sn V = none then nI 1 else nI 0), J) ∧ zMV nu V J ∧ J 80 31 = nI wk ∧ J 80 32 = nI pn ∧ zfm zSl zSf I J := by
  obtain ⟨X, x1, x2, x3, x4⟩ := m_pack (o := 0) hN hR hV h7 h31 h32 kd_110 (by omega) (by omega) (by omega)
  have x5 : zfm zSl zSf I X := zfm_sl x4 (by decide) (by decide)
  have fS : ∀ {s : Nat → Nat → Int32}, zfm zSl zSf I s → zMS S s := fun h => zMS_fr hS h (by decide)
  have fN : ∀ {s : Nat → Nat → Int32}, zfm zSl zSf I s → zMN ns sn 34 107 s := fun h => zMN_eq hn (h.2 34 (by decide)) (h.1 107 (by omega) (by decide)) (h.1 108 (by omega) (by decide)) (h.1 109 (by omega) (by decide))
  have back : ∀ s : Nat → Nat → Int32, zfm zSl zSf I s → s 110 = X 110 → ∃ J, f_X12_unpack N R 80 110 (nI 0) s = some ((), J) ∧ zMV nu V J ∧ J 80 31 = nI wk ∧ J 80 32 = nI pn ∧ zfm zSl zSf I J := fun s h1 h2 => by
    obtain ⟨J, j1, j2, j3, j4, j5⟩ := m_unpack (I := s) (row := 110) (o := 0) (T := (wk, pn, V)) hN hR h7 (by rw [h1.1 84 (by omega) (by decide)]; exact hV.1) kd_110 (by omega) (by omega) (by omega) (by rw [h2]; exact x2) (fun p hp => by rw [h1.1 88 (by omega) (by decide)]; exact (hV.2 p hp).2.2.2.2.2)
    exact ⟨J, j1, j2, j3, j4, zfm_trans h1 (zfm_sl j5 (by decide) (by decide))⟩
  have stp : ∀ i, ∀ s : Nat → Nat → Int32, i < 20 → zMV nu (fun p => z_wks S i (V p)) s → zfm zSl zSf I s → s 110 = X 110 → ∃ K, f_X12_aWeek N R 80 s = some ((), K) ∧ zMV nu (fun p => z_wks S (i + 1) (V p)) K ∧ zfm zSl zSf I K ∧ K 110 = X 110 ∧ ∀ kk : Nat → Int32 → Int32 → (Nat → Nat → Int32) → Option (Int32 × (Nat → Nat → Int32)), f_X12_isAsSeen_29 N R kk N 80 (nI 1) (nI (i + 1)) (nI 0) K = kk 80 (z_vk S sn V (i + 1) ns) (nI (i + 1) + 1) K := fun i s hi h1 h2 h3 => by
    obtain ⟨K, k1, k2, k3, k4⟩ := m_week hN hR hso h7 (fS h2) h1 (fun p hp => z_pok_wks i _ (ho p hp))
    have k2 : zMV nu (fun p => z_wks S (i + 1) (V p)) K := zMV_cong k2 (fun p hp => (z_wks_s S i _).symm)
    have k5 : zfm zSl zSf I K := zfm_trans h2 (zfm_sl k4 (by decide) (by decide))
    refine ⟨K, k1, k2, k5, by rw [k4.1 110 (by omega) (by simp)]; exact h3, fun kk => m_seen29 hN hR hk h7 (by omega) (fN k5) (fun p hp => (k2.2 p hp).2.2.2.1) (fun p hp => ?_) kk⟩
    have := z_pok_wks (i + 1) _ (ho p hp)
    have h8 := (hso.2.1 _ this.2.2.1).2.1
    have h9 := this.2.2.2.1
    omega
  have L := zfs_loop (fun n i s => f_X12_isAsSeen_13 N R n 80 (nI 1) (nI (i + 1)) s) (fun j => decide (¬ z_vk S sn V (j + 1) ns = nI 1)) (fun i s => zMV nu (fun p => z_wks S i (V p)) s ∧ zfm zSl zSf I s ∧ s 110 = X 110) (fun o y => y.1 = (if o = none then nI 1 else nI 0) ∧ zMV nu V y.2 ∧ y.2 80 31 = nI wk ∧ y.2 80 32 = nI pn ∧ zfm zSl zSf I y.2) 20
    (fun n s hs => by
      obtain ⟨J, j1, j2⟩ := back s hs.2.1 hs.2.2
      exact ⟨(nI 1, J), by simp (disch := omega) only [f_X12_isAsSeen_13, kd_80, r80_44 hR, kd_110, j1, zl_0, zl_1, zl_20, nI_ltI, or_true, gd_t, gd_pos, Option.bind_some, if_pos], rfl, j2⟩)
    (fun n i s hi hs hc => by
      obtain ⟨K, k1, k2, k3, k4, k5⟩ := stp i s hi hs.1 hs.2.1 hs.2.2
      have h0 : z_vk S sn V (i + 1) ns = nI 0 := by
        rcases z_vk_01 (S := S) (sn := sn) (V := V) (i + 1) ns with h | h
        · exact h
        · exact absurd h (of_decide_eq_true hc)
      obtain ⟨J, j1, j2⟩ := back K k3 k4
      refine ⟨(nI 0, J), ?_, rfl, j2⟩
      have e2 : f_X12_isAsSeen_13 N R (n + 1) 80 (nI 0) (nI (i + 2)) K = some (nI 0, J) := by
        by_cases h20 : 20 < i + 2
        · simp (disch := omega) only [f_X12_isAsSeen_13, kd_80, r80_44 hR, kd_110, j1, zl_0, zl_1, zl_20, nI_ltI, true_or, gd_t, gd_pos, Option.bind_some, if_pos]
        · simp (disch := omega) only [f_X12_isAsSeen_13, kd_80, r80_44 hR, kd_110, j1, zl_0, zl_1, zl_20, nI_ltI, true_or, gd_t, gd_pos, Option.bind_some, if_neg, if_true]
      have e3 : f_X12_isAsSeen_13 N R (n + 2) 80 (nI 1) (nI (i + 1)) s = f_X12_isAsSeen_29 N R (fun z0 z1 z2 J => f_X12_isAsSeen_13 N R (n + 1) z0 z1 z2 J) N 80 (nI 1) (nI (i + 1)) (nI 0) K := by
        simp (disch := omega) only [f_X12_isAsSeen_13, kd_80, k1, zl_0, zl_1, zl_20, nI_ltI, nI_eq, gd_t, gd_pos, Option.bind_some, if_neg]
      refine e3.trans ((k5 _).trans ?_)
      show f_X12_isAsSeen_13 N R (n + 1) 80 (z_vk S sn V (i + 1) ns) (nI (i + 1) + 1) K = some (nI 0, J)
      rw [h0, zl_1, nI_add]
      exact e2)
    (fun n i s hi hs hc => by
      obtain ⟨K, k1, k2, k3, k4, k5⟩ := stp i s hi hs.1 hs.2.1 hs.2.2
      have h1 : z_vk S sn V (i + 1) ns = nI 1 := Decidable.of_not_not (fun h => hc (decide_eq_true h))
      refine ⟨K, ?_, k2, k3, k4⟩
      have e3 : f_X12_isAsSeen_13 N R (n + 1) 80 (nI 1) (nI (i + 1)) s = f_X12_isAsSeen_29 N R (fun z0 z1 z2 J => f_X12_isAsSeen_13 N R n z0 z1 z2 J) N 80 (nI 1) (nI (i + 1)) (nI 0) K := by
        simp (disch := omega) only [f_X12_isAsSeen_13, kd_80, k1, zl_0, zl_1, zl_20, nI_ltI, nI_eq, gd_t, gd_pos, Option.bind_some, if_neg]
      refine e3.trans ((k5 _).trans ?_)
      show f_X12_isAsSeen_13 N R n 80 (z_vk S sn V (i + 1) ns) (nI (i + 1) + 1) K = f_X12_isAsSeen_13 N R n 80 (nI 1) (nI (i + 1 + 1)) K
      rw [h1, zl_1, nI_add]) 20 0 X N (by omega) (by omega) ⟨zMV_fr hV x4 (by decide), x5, rfl⟩
  obtain ⟨⟨v, J⟩, l1, l2, l3⟩ := L
  have l2 : v = _ := l2
  subst l2
  refine ⟨J, ?_, l3⟩
  have e4 : (if z_all S ns sn V = none then nI 1 else nI 0) = (if zfs (fun j => decide (¬ z_vk S sn V (j + 1) ns = nI 1)) 20 0 = none then nI 1 else nI 0) := by
    by_cases h : z_all S ns sn V = none
    · rw [if_pos h, if_pos ((z_all_w hk).mpr h)]
    · rw [if_neg h, if_neg (fun h2 => h ((z_all_w hk).mp h2))]
  rw [e4]
  refine Eq.trans ?_ l1
  simp (disch := omega) only [f_X12_isAsSeen, kd_80, r80_44 hR, kd_110, x1, zl_0, zl_1, Nat.zero_add, gd_t, gd_pos, Option.bind_some]
end ZM
