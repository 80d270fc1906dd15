/-! ===== PURE PART: rush ===== -/
/-- a loop over the memory, into what comes behind it -/
theorem zk_loop {σ β : Type} (F : Nat → Nat → σ → Option β) (k : σ → Option β) (Inv : Nat → σ → Prop) (e : Nat) (hx : ∀ n s, Inv e s → F (n + 1) e s = k s) (hs : ∀ n i s, i < e → Inv i s → ∃ s', F (n + 1) i s = F n (i + 1) s' ∧ Inv (i + 1) s') : ∀ d i s n, i + d = e → d < n → Inv i s → ∃ s', F n i s = k s' ∧ Inv e s'
  | 0, i, s, n + 1, h1, _, hi => by
    obtain rfl : i = e := by omega
    exact ⟨s, hx n s hi, hi⟩
  | d + 1, i, s, n + 1, h1, h2, hi => by
    obtain ⟨s', q1, q2⟩ := hs n i s (by omega) hi
    rw [q1]
    exact zk_loop F k Inv e hx hs d (i + 1) s' n (by omega) (by omega) q2
  | _, _, _, 0, _, h2, _ => absurd h2 (Nat.not_lt_zero _)
theorem zsm_mono {f g : Nat → Nat} : ∀ n, (∀ i, i < n → f i ≤ g i) → zsm f n ≤ zsm g n
  | 0, _ => Nat.le_refl _
  | n + 1, h => by
    have h1 := zsm_mono n (fun i hi => h i (by omega))
    have h2 := h n (by omega)
    unfold zsm
    omega
def z_gj (S : zS) (V : Nat → zP) (j i : Nat) : Nat := zsm (fun p => z_wks S j (V p) 3) i
section ZD
variable {N : Nat} {R : Nat → Nat → Nat} {q : Nat} {S : zS} {nu : Nat} {V : Nat → zP} {I J K : Nat → Nat → Int32} {pl : zP}
theorem zW8_S (hR : sR R q) (hJ : zfr [57, 68, q + 6, q + 16] I J) (h : zCS S q I) : zCS S q J := zCS_fr h (fun c h1 h2 => hJ c (by have := sR_q hR; simp; omega))
theorem zW8_V (hR : sR R q) (hJ : zfr [57, 68, q + 6, q + 16] I J) (h7 : nu ≤ 7) (h : zCV nu V (q + 7) I) : zCV nu V (q + 7) J := zCV_fr h h7 (fun c hc => hJ c (by have := sR_q hR; simp; omega))
theorem c_tally (hN : 5000 ≤ N) (hR : sR R q) (hso : z_sok S) (hS : zCS S q I) (hV : zCV nu V (q + 7) I) (h7 : nu ≤ 7) (hpo : ∀ p, p < nu → z_pok S (V p)) {m : Nat} (hm : m ≤ 60) : ∃ J, f_X11_tallyBars N R 0 (nI m) I = some ((), J) ∧ (∀ j, j < m → J 68 (j + 1) = nI (z_gj S V (j + 1) nu) - nI (z_gj S V j nu)) ∧ zfr [57, 68, q + 6, q + 16] I J := by
  have hq9 := sR_q hR
  have key := zk_loop (fun n i s => f_X11_tallyBars_2 N R n 0 (nI m) (nI (i + 1)) s) (fun s => f_X11_tallyBars_22 N R N 0 (nI m) (nI 0) s) (fun i s => (∀ j, j < i → s 68 (j + 1) = nI 0) ∧ zfr [57, 68, q + 6, q + 16] I s) m
    (fun n s hs => by simp (disch := omega) only [f_X11_tallyBars_2, zl_0, nI_ltI, gd_t, gd_pos, lt_eq, Option.bind_some, true_and, and_true, not_true, not_false_iff, false_or, or_false, if_true, if_false, if_pos, if_neg, zcd])
    (fun n i s hi hs => by
      refine ⟨sm_up s 68 (sm_up (s 68) (i + 1) (nI 0)), ?_, ?_, zfr_up hs.2 (by simp) _⟩
      · simp (disch := omega) only [f_X11_tallyBars_2, kd_0, r0_11 hR, kd_68, zl_0, zl_1, nI_ltI, nI_leI, nI_clamp, nI_add, gd_t, gd_pos, lt_eq, Option.bind_some, true_and, and_true, not_true, not_false_iff, false_or, or_false, if_true, if_false, if_pos, if_neg, zcd]
      · intro j hj
        rw [up_s]
        by_cases e : j = i
        · rw [e, up_s]
        · rw [up_n _ _ (by omega)]
          exact hs.1 j (by omega)) m 0 I N (by omega) (by omega) ⟨fun j hj => absurd hj (Nat.not_lt_zero j), zfr_refl _ _⟩
  obtain ⟨J0, j1, j2, j3⟩ := key
  have key2 := zm_loop (fun n i s => f_X11_tallyBars_22 N R n 0 (nI m) (nI i) s) (fun i s => (∀ j, j < m → s 68 (j + 1) = nI (z_gj S V (j + 1) i) - nI (z_gj S V j i)) ∧ zfr [57, 68, q + 6, q + 16] I s) (fun y => y.1 = () ∧ (∀ j, j < m → y.2 68 (j + 1) = nI (z_gj S V (j + 1) nu) - nI (z_gj S V j nu)) ∧ zfr [57, 68, q + 6, q + 16] I y.2) nu
    (fun n s hs => by
      have g := (zW8_V hR hs.2 h7 hV).1
      exact ⟨((), s), by simp (disch := omega) only [f_X11_tallyBars_22, kd_0, hR.2.2.1, q_k0 hR, q_r5 hR, q_t0 hR, g, nI_leI, gd_t, gd_pos, lt_eq, Option.bind_some, true_and, and_true, not_true, not_false_iff, false_or, or_false, if_true, if_false, if_pos, if_neg, zcd], rfl, hs⟩)
    (fun n i s hi hs => by
      have hV2 := zW8_V hR hs.2 h7 hV
      have g := hV2.1
      obtain ⟨J1, b1, b2, b3⟩ := c_become (N := N) (R := R) (q_t4 hR i (by omega)) kd_57 (by omega) (hV2.2 i hi)
      have b68 : J1 68 = s 68 := b3 68 (by simp)
      have b3 : zfr [57, 68, q + 6, q + 16] s J1 := zfr_mono b3 (by simp)
      have in1 := zk_loop (fun n' j s => f_X11_tallyBars_57 N R (fun z0 z1 z2 J => f_X11_tallyBars_22 N R n z0 z1 z2 J) n' 0 (nI m) (nI i) (nI (j + 1)) s) (fun s => f_X11_tallyBars_22 N R n 0 (nI m) (nI (i + 1)) s) (fun d s' => zPl (z_wks S d (V i)) (s' 57) ∧ (∀ j, j < d → s' 68 (j + 1) = nI (z_gj S V (j + 1) (i + 1)) - nI (z_gj S V j (i + 1))) ∧ (∀ j, d ≤ j → j < m → s' 68 (j + 1) = nI (z_gj S V (j + 1) i) - nI (z_gj S V j i)) ∧ zfr [57, 68, q + 6, q + 16] I s') m
        (fun n' s' hs' => by simp (disch := omega) only [f_X11_tallyBars_57, zl_1, nI_ltI, nI_add, gd_t, gd_pos, lt_eq, Option.bind_some, true_and, and_true, not_true, not_false_iff, false_or, or_false, if_true, if_false, if_pos, if_neg, zcd])
        (fun n' d s' hd hs' => by
          obtain ⟨h1, h2, h3, h4⟩ := hs'
          obtain ⟨K, k1, k2, k3⟩ := c_pass (m := 1) hN hR.q hso (zW8_S hR h4 hS) kd_57 h1 (z_pok_wks d _ (hpo i hi)) (by omega)
          have k68 : K 68 = s' 68 := k3 68 (by simp; omega)
          have w0 := h1 3 (by omega)
          have w1 : K 57 3 = nI (z_wks S (d + 1) (V i) 3) := by
            rw [z_wks_s]
            exact k2 3 (by omega)
          have w2 := h3 d (Nat.le_refl _) hd
          have e9 : nI (z_gj S V (d + 1) (i + 1)) - nI (z_gj S V d (i + 1)) = nI (z_gj S V (d + 1) i) - nI (z_gj S V d i) + (nI (z_wks S (d + 1) (V i) 3) - nI (z_wks S d (V i) 3)) := (zz_hh _ _ _ _).symm
          refine ⟨sm_up K 68 (sm_up (K 68) (d + 1) (nI (z_gj S V (d + 1) (i + 1)) - nI (z_gj S V d (i + 1)))), ?_, ?_, ?_, ?_, zfr_up (zfr_trans h4 (zfr_mono k3 (by simp))) (by simp) _⟩
          · rw [e9]
            simp (disch := omega) only [f_X11_tallyBars_57, kd_0, hR.2.2.1, q_k0 hR, r0_8 hR, kd_57, r0_11 hR, kd_68, k1, k68, w0, w1, w2, zl_0, zl_1, nI_ltI, nI_leI, nI_clamp, nI_add, gd_t, gd_pos, lt_eq, Option.bind_some, true_and, and_true, not_true, not_false_iff, false_or, or_false, if_true, if_false, if_pos, if_neg, zcd]
          · rw [up_n _ _ (by omega), z_wks_s]
            exact k2
          · intro j hj
            rw [up_s]
            by_cases e : j = d
            · rw [e, up_s]
            · rw [up_n _ _ (by omega), k68]
              exact h2 j (by omega)
          · intro j hj hj2
            rw [up_s, up_n _ _ (by omega), k68]
            exact h3 j (by omega) hj2) m 0 J1 N (by omega) (by omega) ⟨b2, fun j hj => absurd hj (Nat.not_lt_zero j), fun j _ hj => by rw [b68]; exact hs.1 j hj, zfr_trans hs.2 b3⟩
      obtain ⟨s', e1, e2, e3, e4, e5⟩ := in1
      refine ⟨s', ?_, e3, e5⟩
      refine Eq.trans ?_ e1
      simp (disch := omega) only [f_X11_tallyBars_22, kd_0, hR.2.2.1, q_k0 hR, q_r5 hR, q_t0 hR, q_t1 hR, q_t2 hR, q_t3 hR, g, r0_8 hR, kd_57, b1, nI_leI, nI_ltI, nI_clamp, zl_0, zl_1, Nat.zero_add, gd_t, gd_pos, lt_eq, Option.bind_some, true_and, and_true, not_true, not_false_iff, false_or, or_false, if_true, if_false, if_pos, if_neg, zcd]) nu 0 J0 N (by omega) (by omega) ⟨fun j hj => by rw [j2 j hj]; show nI 0 = nI 0 - nI 0; decide, j3⟩
  obtain ⟨⟨u, J⟩, l1, l2, l3, l4⟩ := key2
  refine ⟨J, ?_, l3, l4⟩
  refine Eq.trans ?_ l1
  refine Eq.trans ?_ j1
  simp (disch := omega) only [f_X11_tallyBars, zl_1, Nat.zero_add]
end ZD
theorem z_mo_ex (f : Nat → Nat) : ∀ n, ∃ b, z_mo f (n + 1) = some b
  | n => by
    rcases hh : z_mo f n with _ | b
    · exact ⟨n, z_mo_n hh⟩
    · by_cases hc : f n ≤ f b
      · exact ⟨b, z_mo_k hh hc⟩
      · exact ⟨n, z_mo_t hh hc⟩
theorem zo_rush_ok {N : Nat} (hN : 5000 ≤ N) : zo_rush N zInv := by
  intro I R a1 a2 hI
  obtain ⟨q, S, nu, pr, T, na, A, ns, sn, st, nt, tp, fp, im, hR, hO, hC, hM⟩ := hI
  have hR : sR R q := hR
  have hC : zCi q S nu T na A ns sn st nt tp fp im I := hC
  have hM : zMi S nu T na A ns sn st nt tp fp im I := hM
  obtain ⟨hso, h7, ⟨hT1, hT2, hT3, hT4⟩, hAk, hNk, hTp, hIm⟩ := id hO
  have h6 := hso.1
  have hpo : ∀ p, p < nu → z_pok S (T.2.2 p) := fun p hp => (hT4 p hp).1
  have haw : ∀ p, p < nu → T.2.2 p 4 < 2 ^ 30 := fun p hp => (hpo p hp).2.2.2.2.1
  obtain ⟨c1, c2, c3, c4, c5, c6, c7, c8, c9, c10⟩ := id hC
  have cS1 := c1.1
  have cV1 := c2.1
  have hq := hR.q
  have ht := q_t hR
  have hM0 := zcd_M hM 0
  obtain ⟨d1, d2, d3, d4, d5, d6, d7, d8, d9, d10⟩ := id hM0
  rcases zrg a2 0 1 with ⟨v, -, hv, rfl⟩ | hx
  · have e3 := c_what_in (N := N) (R := R) (I := I) (m := 1) (by omega) hv
    rcases zrg a1 1 60 with ⟨m, hm1, hm, rfl⟩ | hx
    · have e1 := c_betw_in (N := N) (R := R) (I := I) (m := 60) (by omega) hm1 hm
      obtain ⟨J, j1, j2, j4⟩ := c_tally hN hR hso c1 c2 h7 hpo hm
      have hJ : zfr (zScr q) I J := zfr_mono j4 (fun x hx => by
        unfold zScr
        simp only [List.mem_cons, List.not_mem_nil, or_false] at hx ⊢
        omega)
      have gl : ∀ j, z_gj S T.2.2 j nu ≤ 56 := fun j => by
        have := zsm_le (f := fun p => z_wks S j (T.2.2 p) 3) (b := 8) nu (fun p hp => by
          have := z_pok_wks j _ (hpo p hp)
          have h1 := (hso.2.1 _ this.2.2.1).2.1
          have h2 := this.2.2.2.1
          show z_wks S j (T.2.2 p) 3 ≤ 8
          omega)
        unfold z_gj
        omega
      have gm : ∀ j, z_gj S T.2.2 j nu ≤ z_gj S T.2.2 (j + 1) nu := fun j => zsm_mono nu (fun p hp => by
        show z_wks S j (T.2.2 p) 3 ≤ z_wks S (j + 1) (T.2.2 p) 3
        rw [z_wks_s]
        exact z_wk_3 S _)
      obtain ⟨f, hf⟩ : ∃ f : Nat → Nat, ∀ j, f j = z_gj S T.2.2 (j + 1) nu - z_gj S T.2.2 j nu := ⟨_, fun _ => rfl⟩
      have hf5 : ∀ j, f j ≤ 56 := fun j => by
        rw [hf]
        have := gl (j + 1)
        omega
      have hfd : ∀ j, nI (z_gj S T.2.2 (j + 1) nu) - nI (z_gj S T.2.2 j nu) = nI (f j) := fun j => by rw [pk_sub (gm j), hf]
      have j2 : ∀ j, j < m → J 68 (j + 1) = nI (f j) := fun j hj => by rw [j2 j hj, hfd]
      obtain ⟨m', rfl⟩ : ∃ m', m = m' + 1 := ⟨m - 1, by omega⟩
      obtain ⟨b, hb⟩ := z_mo_ex f m'
      have hbm := z_mo_lt f _ b hb
      obtain ⟨bb, hbb⟩ : ∃ bb : Nat → Nat, ∀ i, z_mo f (i + 1) = some (bb i) := ⟨fun i => (z_mo_ex f i).choose, fun i => (z_mo_ex f i).choose_spec⟩
      have hb9 : bb m' = b := by
        have := (hbb m').symm.trans hb
        exact Option.some.inj this
      have hb0 : bb 0 = 0 := Option.some.inj ((hbb 0).symm.trans (z_mo_n (f := f) (n := 0) rfl))
      have w9 := j2 b hbm
      have f9 := hf5 b
      have L1 : f_X11_rush_22 N R N 0 (nI (m' + 1)) (nI v) (nI 1) (nI 2) J = some (.inl (if v = 0 then nI (b + 1) else nI (f b)), J) := by
        have L := zu_loop (fun n i a => f_X11_rush_22 N R n 0 (nI (m' + 1)) (nI v) a (nI (i + 2)) J) (fun i => nI (bb i + 1)) (Sum.inl (if v = 0 then nI (b + 1) else nI (f b)), J) m'
          (fun n => by
            rw [hb9]
            by_cases hv0 : v = 0
            · subst hv0
              rw [if_pos rfl]
              simp (disch := omega) only [f_X11_rush_22, zl_0, nI_ltI, nI_eq, gd_t, gd_pos, lt_eq, Option.bind_some, true_and, and_true, not_true, not_false_iff, false_or, or_false, if_true, if_false, if_pos, if_neg, zcd]
            · rw [if_neg hv0]
              simp (disch := omega) only [f_X11_rush_22, kd_0, r0_11 hR, kd_68, w9, zl_0, nI_ltI, nI_leI, nI_clamp, nI_eq, gd_t, gd_pos, lt_eq, Option.bind_some, true_and, and_true, not_true, not_false_iff, false_or, or_false, if_true, if_false, if_pos, if_neg, zcd])
          (fun n i hi => by
            have b1 := z_mo_lt f _ _ (hbb i)
            have w1 := j2 (bb i) (by omega)
            have w2 := j2 (i + 1) (by omega)
            have f1 := hf5 (bb i)
            have f2 := hf5 (i + 1)
            by_cases hc : f (i + 1) ≤ f (bb i)
            · have e8 : bb (i + 1) = bb i := Option.some.inj ((hbb (i + 1)).symm.trans (z_mo_k (hbb i) hc))
              rw [e8]
              simp (disch := omega) only [f_X11_rush_22, kd_0, r0_11 hR, kd_68, w1, w2, zl_0, zl_1, nI_ltI, nI_leI, nI_clamp, nI_eq, nI_add, gd_t, gd_pos, lt_eq, Option.bind_some, true_and, and_true, not_true, not_false_iff, false_or, or_false, if_true, if_false, if_pos, if_neg, zcd]
            · have e8 : bb (i + 1) = i + 1 := Option.some.inj ((hbb (i + 1)).symm.trans (z_mo_t (hbb i) hc))
              rw [e8]
              simp (disch := omega) only [f_X11_rush_22, kd_0, r0_11 hR, kd_68, w1, w2, zl_0, zl_1, nI_ltI, nI_leI, nI_clamp, nI_eq, nI_add, gd_t, gd_pos, lt_eq, Option.bind_some, true_and, and_true, not_true, not_false_iff, false_or, or_false, if_true, if_false, if_pos, if_neg, zcd]) m' 0 N (by omega) (by omega)
        rw [hb0] at L
        exact L
      have hMJ := zMq hR hM hJ
      have f6 := m_isIn (N := N) (R := R) (I := zcd J 0) (nI (m' + 1)).toInt64 1 60
      rw [z64, zq_1, zq_60, nI_toInt (by omega), if_pos (by omega)] at f6
      obtain ⟨X, x1, x2, x3, x4, x5⟩ := m_pk0 hN hR h7 hMJ
      have L2 := zm_loop (fun n i (s : (Int32 × Int32) × (Nat → Nat → Int32)) => f_X12_rush_55 N R n 80 (nI (m' + 1)) (nI v) s.1.1 s.1.2 (nI (i + 1)) s.2) (fun i s => s.1 = (zn1 (z_np1 (z_mo f i)), z_mx f (z_mo f i)) ∧ zMV nu (fun p => z_wks S i (T.2.2 p)) s.2 ∧ zfm zLd zFd X s.2) (fun y => y.1 = (if v = 0 then nI (b + 1) else nI (f b)) ∧ zMi S nu T na A ns sn st nt tp fp im y.2 ∧ y.2 80 3 = X 80 3 ∧ ∀ k, k < 80 → y.2 k = X k) (m' + 1)
        (fun n s hs => by
          obtain ⟨⟨a, b'⟩, s⟩ := s
          obtain ⟨h1, h2, h3⟩ := hs
          rw [hb] at h1
          cases h1
          obtain ⟨L, l1, l2, l3, l4⟩ := m_back hN hR h7 x2 x3 h3
          refine ⟨(if v = 0 then nI (b + 1) else nI (f b), L), ?_, rfl, l2, l3, l4⟩
          by_cases hv0 : v = 0
          · subst hv0
            rw [if_pos rfl]
            simp (disch := omega) only [f_X12_rush_55, kd_80, r80_37 hR, kd_103, l1, zl_0, nI_ltI, nI_eq, gd_t, gd_pos, lt_eq, Option.bind_some, true_and, and_true, not_true, not_false_iff, false_or, or_false, if_true, if_false, if_pos, if_neg, zcd]
            try rfl
          · rw [if_neg hv0]
            simp (disch := omega) only [f_X12_rush_55, kd_80, r80_37 hR, kd_103, l1, zl_0, nI_ltI, nI_eq, gd_t, gd_pos, lt_eq, Option.bind_some, true_and, and_true, not_true, not_false_iff, false_or, or_false, if_true, if_false, if_pos, if_neg, zcd]
            try rfl)
        (fun n i s hi hs => by
          obtain ⟨⟨a, b'⟩, s⟩ := s
          obtain ⟨h1, h2, h3⟩ := hs
          have h1 : (a, b') = (zn1 (z_np1 (z_mo f i)), z_mx f (z_mo f i)) := h1
          have h2 : zMV nu (fun p => z_wks S i (T.2.2 p)) s := h2
          have h3 : zfm zLd zFd X s := h3
          obtain ⟨rfl, rfl⟩ := Prod.mk.inj h1
          have hS2 := zMS_fr x2.1 h3 (by decide)
          obtain ⟨K, k1, k2, k3, k4⟩ := m_week hN hR hso h7 hS2 h2 (fun p hp => z_pok_wks i _ (hpo p hp))
          have k2 : zMV nu (fun p => z_wks S (i + 1) (T.2.2 p)) K := zMV_cong k2 (fun p hp => (z_wks_s S i _).symm)
          have b1 := m_allBars hN hR h2 h7
          have b2 := m_allBars hN hR k2 h7
          have e9 := hfd i
          unfold z_gj at e9
          have f1 := hf5 i
          refine ⟨((zn1 (z_np1 (z_mo f (i + 1))), z_mx f (z_mo f (i + 1))), K), ?_, rfl, k2, zfm_trans h3 (zfm_d k4 (by decide) (by decide))⟩
          have step : ∀ a b' : Int32, f_X12_rush_55 N R (n + 1) 80 (nI (m' + 1)) (nI v) a b' (nI (i + 1)) s = if b' < nI (f i) then f_X12_rush_55 N R n 80 (nI (m' + 1)) (nI v) (nI (i + 1)) (nI (f i)) (nI (i + 1 + 1)) K else f_X12_rush_55 N R n 80 (nI (m' + 1)) (nI v) a b' (nI (i + 1 + 1)) K := fun a b' => by
            simp (disch := omega) only [f_X12_rush_55, kd_80, b1, k1, b2, e9, zl_1, nI_ltI, nI_add, gd_t, gd_pos, lt_eq, Option.bind_some, true_and, and_true, not_true, not_false_iff, false_or, or_false, if_true, if_false, if_pos, if_neg, zcd]
          refine (step _ _).trans ?_
          rcases hh : z_mo f i with _ | c
          · rw [z_mo_n hh]
            refine if_pos ?_
            show -nI 1 < nI (f i)
            rw [zz_lt, nI_toInt (by omega), show (-nI 1 : Int32).toInt = -1 by decide]
            omega
          · have f2 := hf5 c
            have hz := nI_ltI (a := f c) (b := f i) (by omega) (by omega)
            by_cases hc : f i ≤ f c
            · rw [z_mo_k hh hc]
              exact if_neg (fun h => absurd (hz.mp h) (by omega))
            · rw [z_mo_t hh hc]
              exact if_pos (hz.mpr (by omega))) (m' + 1) 0 ((-nI 1, -nI 1), X) N (by omega) (by omega) ⟨rfl, x2.2.1, zfm_refl _ _ _⟩
      obtain ⟨⟨r, L⟩, l1, l2, l3, l4, l5⟩ := L2
      have l2 : r = _ := l2
      subst l2
      have l4 : L 80 3 = nI 0 := (l4.trans x4).trans (zcd_3 J 0)
      refine ⟨_, J, _, L, Eq.trans ?_ L1, Eq.trans ?_ l1, ag_ok _ _ _ l4, zInv_q hR hO hC hJ l3 (fun k hk => ((l5 k hk).trans (x5 k hk)).trans (zcd_lo J 0 k hk))⟩
      · simp (disch := omega) only [f_X11_rush, kd_0, e3, e1, tb_l, j1, zl_0, zl_1, zl_2, zl_60, gd_t, gd_pos, lt_eq, Option.bind_some, true_and, and_true, not_true, not_false_iff, false_or, or_false, if_true, if_false, if_pos, if_neg, zcd]
      · simp (disch := omega) only [f_X12_rush, kd_80, f6, r80_37 hR, kd_103, x1, zl_0, zl_1, zl_2, zl_60, nI_ltI, nI_leI, nI_eq, Nat.zero_add, gd_t, gd_pos, lt_eq, Option.bind_some, true_and, and_true, not_true, not_false_iff, false_or, or_false, if_true, if_false, if_pos, if_neg, zcd]
    · have e1 := c_betw_out (N := N) (R := R) (I := I) (a := 1) (m := 60) (by omega) (by omega) hx
      have f6 := m_isIn (N := N) (R := R) (I := zcd I 0) a1.toInt64 1 60
      rw [z64, zq_1, zq_60, if_neg (by omega)] at f6
      refine ⟨_, I, 0, zcd I 2, ?_, ?_, ag_i2 _ (zcd_3 I 2), zInv_q hR hO hC (zfr_refl _ _) (zcd_M hM 2) (zcd_lo I 2)⟩
      · simp (disch := omega) only [f_X11_rush, kd_0, zl_1, zl_60, e1, e3, tb_l, tb_r, gd_t, gd_pos, lt_eq, Option.bind_some, true_and, and_true, not_true, not_false_iff, false_or, or_false, if_true, if_false, if_pos, if_neg, zcd]
      · simp (disch := omega) only [f_X12_rush, kd_80, zl_0, zl_1, zl_2, f6, m_fail, nI_ltI, nI_leI, gd_t, gd_pos, lt_eq, Option.bind_some, true_and, and_true, not_true, not_false_iff, false_or, or_false, if_true, if_false, if_pos, if_neg, zcd, up_s, up_n, up_uu, nI_eq]
  · have e3 := c_what_out (N := N) (R := R) (I := I) (m := 1) (by omega) hx
    refine ⟨_, I, 0, zcd I 1, ?_, ?_, ag_n _ _ (zcd_3 I 1), zInv_q hR hO hC (zfr_refl _ _) (zcd_M hM 1) (zcd_lo I 1)⟩
    · simp (disch := omega) only [f_X11_rush, kd_0, zl_1, e3, tb_r, gd_t, gd_pos, lt_eq, Option.bind_some, true_and, and_true, not_true, not_false_iff, false_or, or_false, if_true, if_false, if_pos, if_neg, zcd]
    · by_cases h0 : a2.toInt < ((0 : Nat) : Int)
      · simp (disch := omega) only [f_X12_rush, kd_80, zl_0, zl_1, zlt_l, m_fail, gd_t, gd_pos, lt_eq, Option.bind_some, true_and, and_true, not_true, not_false_iff, false_or, or_false, if_true, if_false, if_pos, if_neg, zcd, up_s, up_n, up_uu]
      · simp (disch := omega) only [f_X12_rush, kd_80, zl_0, zl_1, zlt_l, zle_l, m_fail, gd_t, gd_pos, lt_eq, Option.bind_some, true_and, and_true, not_true, not_false_iff, false_or, or_false, if_true, if_false, if_pos, if_neg, zcd, up_s, up_n, up_uu]
