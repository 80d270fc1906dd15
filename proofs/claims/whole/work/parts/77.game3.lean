/-! ===== PURE PART: game: the model's gains ===== -/
def zLg : List Nat := [95, 96, 97, 98, 99, 101, 102, 113]
section ZD
variable {N : Nat} {R : Nat → Nat → Nat} {q : Nat} {S : zS} {nu : Nat} {pr : Nat → Nat} {T : zT} {na : Nat} {A : Nat → zT} {ns : Nat} {sn : Nat → Nat × Nat × Nat} {st : Nat → Int32} {nt : Nat} {tp : Nat → Nat} {fp : Int32} {im : Option zIm} {I J K : Nat → Nat → Int32} {V W : Nat → zP}
theorem zGl (hg : zfm zLg zFd J K) : K 80 3 = J 80 3 ∧ ∀ k, k < 80 → K k = J k := ⟨hg.2 3 (by decide), zfm_lo hg (fun x hx => by
    unfold zLg at hx
    simp only [List.mem_cons, List.not_mem_nil, or_false] at hx
    omega)⟩
theorem zfm_g {L F : List Nat} (h : zfm L F I J) (hL : (L.all zLg.contains) = true) (hF : (F.all zFd.contains) = true) : zfm zLg zFd I J := zfm_mono h (fun x hx => List.contains_iff_mem.mp (List.all_eq_true.mp hL x hx)) (fun x hx => List.contains_iff_mem.mp (List.all_eq_true.mp hF x hx))
theorem m_back4 (hN : 5000 ≤ N) (hR : sR R q) (h7 : nu ≤ 7) (hM : zMi S nu T na A ns sn st nt tp fp im J) (hr : zMRow nu T (J 103) 0) (hf : zfm zLg zFd J K) : ∃ L, f_X12_unpack N R 80 103 (nI 0) K = some ((), L) ∧ zMi S nu T na A ns sn st nt tp fp im L ∧ L 113 = K 113 ∧ zfm zLg zFd J L := by
  have hV := hM.2.1
  have e84 : K 84 = J 84 := hf.1 84 (by omega) (by decide)
  have e88 : K 88 = J 88 := hf.1 88 (by omega) (by decide)
  have e103 : K 103 = J 103 := hf.1 103 (by omega) (by decide)
  obtain ⟨L, l1, l2, l3, l4, l5⟩ := m_unpack (o := 0) (T := T) hN hR h7 (I := K) (by rw [e84]; exact hV.1) kd_103 (by omega) (by omega) (by omega) (by rw [e103]; exact hr) (fun p hp => by rw [e88]; exact (hV.2 p hp).2.2.2.2.2)
  have hg : zfm zLg zFd J L := zfm_trans hf (zfm_g l5 (by decide) (by decide))
  exact ⟨L, l1, zMi_now hM hg (fun x hx => by
    unfold zLg at hx
    unfold zMsc
    simp only [List.mem_cons, List.not_mem_nil, or_false] at hx ⊢
    omega) (fun x hx => by
    unfold zFd at hx
    unfold zMsf
    simp only [List.mem_cons, List.not_mem_nil, or_false] at hx ⊢
    omega) l2 l3 l4, l5.1 113 (by omega) (by decide), hg⟩
theorem m_g156 (hN : 5000 ≤ N) (hR : sR R q) (hso : z_sok S) (h7 : nu ≤ 7) (hM : zMi S nu T na A ns sn st nt tp fp im J) (hr : zMRow nu T (J 103) 0) (hV : zMV nu W K) (ho : ∀ p, p < nu → z_pok S (W p)) (hf : zfm zLg zFd J K) (kk : Nat → Int32 → Int32 → Int32 → Int32 → Int32 → (Nat → Nat → Int32) → Option (Unit × (Nat → Nat → Int32))) {p r k : Nat} (hp : p < nu) (hr2 : r < nu) (hk : k < 4) (a3 a4 : Int32) : ∃ L, f_X12_tellGains_156 N R kk 80 (nI p) (nI r) a3 a4 (nI k) K = kk 80 (nI p) (nI r) a3 a4 (nI (k + 1)) L ∧ L 113 (2 * k) = nI (z_wks S 10 (W p) 3) - nI (T.2.2 p 3) ∧ L 113 (2 * k + 1) = nI (z_wks S 10 (W r) 3) - nI (T.2.2 r 3) ∧ (∀ x, x ≠ 2 * k → x ≠ 2 * k + 1 → L 113 x = K 113 x) ∧ zMi S nu T na A ns sn st nt tp fp im L ∧ zfm zLg zFd J L := by
  obtain ⟨X, x1, x2, x3, x4⟩ := m_goOn hN hR hso h7 (m := 10) (by omega) (zMS_fr hM.1 hf (by decide)) hV ho
  have x113 : X 113 = K 113 := x4.1 113 (by omega) (by decide)
  have v1 := (x2.2 p hp).2.2.2.1
  have v2 := (x2.2 r hr2).2.2.2.1
  obtain ⟨Y, hY⟩ : ∃ Y, Y = sm_up X 113 (sm_up (sm_up (X 113) (2 * k) (nI (z_wks S 10 (W p) 3))) (2 * k + 1) (nI (z_wks S 10 (W r) 3))) := ⟨_, rfl⟩
  have hYf : zfm zLg zFd J Y := by rw [hY]; exact zfm_up (zfm_trans hf (zfm_g x4 (by decide) (by decide))) (by decide) (by omega) _
  obtain ⟨L, l1, l2, l3, l4⟩ := m_back4 hN hR h7 hM hr hYf
  have u1 := (l2.2.1.2 p hp).2.2.2.1
  have u2 := (l2.2.1.2 r hr2).2.2.2.1
  have y1 : L 113 (2 * k) = nI (z_wks S 10 (W p) 3) := by rw [l3, hY, up_s, up_n _ _ (by omega), up_s]
  have y2 : L 113 (2 * k + 1) = nI (z_wks S 10 (W r) 3) := by rw [l3, hY, up_s, up_s]
  refine ⟨sm_up L 113 (sm_up (sm_up (L 113) (2 * k) (nI (z_wks S 10 (W p) 3) - nI (T.2.2 p 3))) (2 * k + 1) (nI (z_wks S 10 (W r) 3) - nI (T.2.2 r 3))), ?_, ?_, ?_, ?_, ?_, zfm_up l4 (by decide) (by omega) _⟩
  · simp (disch := omega) only [f_X12_tellGains_156, kd_80, r80_28 hR, kd_98, r80_48 hR, kd_113, r80_37 hR, kd_103, x1, v1, v2, ← hY, l1, u1, u2, y1, y2, zl_0, zl_1, zl_2, zl_10, nI_add, pk_mul, nI_ltI, nI_leI, nI_clamp, gd_t, gd_pos, lt_eq, Option.bind_some, true_and, and_true, not_true, not_false_iff, false_or, or_false, if_true, if_false, if_pos, if_neg, up_s, up_n, up_uu]
  · rw [up_s, up_n _ _ (by omega), up_s]
  · rw [up_s, up_s]
  · intro x h1 h2
    rw [up_s, up_n _ _ h2, up_n _ _ h1, l3, hY, up_s, up_n _ _ h2, up_n _ _ h1, x113]
  · exact zMi_fr l2 (zfm_up (L := [113]) (F := []) (zfm_refl _ _ _) (by simp) (by omega) _) (fun x hx => by simp at hx; subst hx; simp [zMsc]) (fun x hx => by cases hx)
end ZD
/-- the pupils behind the choices: the lower one first -/
def z_w1 (S : zS) (nu pn : Nat) (V : Nat → zP) (lo x : Nat) : Nat → zP := if x = 1 ∧ z_may nu V pn (V lo) 1 = true then sm_up V lo (z_go S (V lo) 1) else V
def z_w2 (S : zS) (nu pn : Nat) (V : Nat → zP) (hi y : Nat) : Nat → zP := if y = 1 then (if z_may nu V pn (V hi) 1 = true then sm_up V hi (z_go S (V hi) 1) else sm_up V hi (sm_up (V hi) 1 (min 9 (V hi 1 + 2)))) else V
theorem z_w1_pok {S : zS} {nu pn lo x : Nat} {V : Nat → zP} (h : ∀ p, p < nu → z_pok S (V p)) : ∀ p, p < nu → z_pok S (z_w1 S nu pn V lo x p) := fun p hp => by
  unfold z_w1
  split
  · by_cases e : p = lo
    · rw [e, up_s]
      exact z_pok_go (h lo (e ▸ hp)) (by omega) (by omega)
    · rw [up_n _ _ e]
      exact h p hp
  · exact h p hp
theorem z_w2_pok {S : zS} {nu pn hi y : Nat} {V : Nat → zP} (h : ∀ p, p < nu → z_pok S (V p)) : ∀ p, p < nu → z_pok S (z_w2 S nu pn V hi y p) := fun p hp => by
  unfold z_w2
  split
  · split
    · by_cases e : p = hi
      · rw [e, up_s]
        exact z_pok_go (h hi (e ▸ hp)) (by omega) (by omega)
      · rw [up_n _ _ e]
        exact h p hp
    · by_cases e : p = hi
      · rw [e, up_s]
        exact z_pok_sore (h hi (e ▸ hp)) (by omega)
      · rw [up_n _ _ e]
        exact h p hp
  · exact h p hp
section ZD
variable {N : Nat} {R : Nat → Nat → Nat} {q : Nat} {S : zS} {nu pn : Nat} {I K : Nat → Nat → Int32} {V : Nat → zP}
theorem m_g102 (hN : 5000 ≤ N) (hR : sR R q) (hso : z_sok S) (h7 : nu ≤ 7) (hS : zMS S K) (hV : zMV nu V K) (hpo : ∀ p, p < nu → z_pok S (V p)) (h32 : K 80 32 = nI pn) (hp4 : pn ≤ 4) (kk : Nat → Int32 → Int32 → Int32 → Int32 → Int32 → (Nat → Nat → Int32) → Option (Unit × (Nat → Nat → Int32))) {lo hi x y : Nat} (hlo : lo < nu) (hhi : hi < nu) (hx : x < 2) (hy : y < 2) (a1 a2 a5 : Int32) : ∃ L, f_X12_tellGains_102 N R kk 80 a1 a2 (nI lo) (nI hi) a5 (nI x) (nI y) K = f_X12_tellGains_156 N R kk 80 a1 a2 (nI lo) (nI hi) a5 L ∧ zMV nu (z_w2 S nu pn (z_w1 S nu pn V lo x) hi y) L ∧ zfm [95, 96, 99, 101, 102] [] K L := by
  have aw : ∀ {U : Nat → zP}, (∀ p, p < nu → z_pok S (U p)) → ∀ p, p < nu → U p 4 < 2 ^ 30 := fun h p hp => (h p hp).2.2.2.2.1
  have s1 : ∃ L1, f_X12_tellGains_102 N R kk 80 a1 a2 (nI lo) (nI hi) a5 (nI x) (nI y) K = f_X12_tellGains_124 N R kk 80 a1 a2 (nI lo) (nI hi) a5 (nI y) L1 ∧ zMV nu (z_w1 S nu pn V lo x) L1 ∧ zfm [95, 96, 99, 101, 102] [] K L1 := by
    have e := m_mayGo hN hR hV h7 (aw hpo) h32 hp4 hlo (j := 1) (by omega) (by omega)
    unfold z_w1
    by_cases hx0 : x = 0
    · rw [if_neg (by omega)]
      subst hx0
      exact ⟨K, by simp (disch := omega) only [f_X12_tellGains_102, zl_0, if_true, if_pos], hV, zfm_refl _ _ _⟩
    · have hx1 : x = 1 := by omega
      subst hx1
      by_cases hm : z_may nu V pn (V lo) 1 = true
      · rw [if_pos ⟨rfl, hm⟩]
        rw [if_pos hm] at e
        obtain ⟨L1, l1, l2, l3⟩ := m_go hN hR hso hS hV h7 hlo (hpo lo hlo) (j := 1) (by omega) (by omega)
        exact ⟨L1, by simp (disch := omega) only [f_X12_tellGains_102, kd_80, e, l1, zl_0, zl_1, nI_eq, gd_t, gd_pos, lt_eq, Option.bind_some, true_and, and_true, not_true, not_false_iff, false_or, or_false, if_true, if_false, if_pos, if_neg], l2, l3⟩
      · rw [if_neg (fun h => hm h.2)]
        rw [if_neg hm] at e
        exact ⟨K, by simp (disch := omega) only [f_X12_tellGains_102, kd_80, e, zl_0, zl_1, nI_eq, gd_t, gd_pos, lt_eq, Option.bind_some, true_and, and_true, not_true, not_false_iff, false_or, or_false, if_true, if_false, if_pos, if_neg], hV, zfm_refl _ _ _⟩
  obtain ⟨L1, p1, p2, p3⟩ := s1
  have hpo1 := z_w1_pok (S := S) (pn := pn) (lo := lo) (x := x) hpo
  obtain ⟨U, hU⟩ : ∃ U, U = z_w1 S nu pn V lo x := ⟨_, rfl⟩
  rw [← hU] at p2 hpo1 ⊢
  have e := m_mayGo hN hR p2 h7 (aw hpo1) (by rw [p3.2 32 (by simp)]; exact h32) hp4 hhi (j := 1) (by omega) (by omega)
  unfold z_w2
  by_cases hy0 : y = 0
  · rw [if_neg (by omega)]
    subst hy0
    exact ⟨L1, by rw [p1]; simp (disch := omega) only [f_X12_tellGains_124, zl_0, if_true, if_pos], p2, p3⟩
  · have hy1 : y = 1 := by omega
    subst hy1
    rw [if_pos rfl]
    by_cases hm : z_may nu U pn (U hi) 1 = true
    · rw [if_pos hm]
      rw [if_pos hm] at e
      obtain ⟨L2, l1, l2, l3⟩ := m_go hN hR hso (zMS_fr hS p3 (by decide)) p2 h7 hhi (hpo1 hi hhi) (j := 1) (by omega) (by omega)
      exact ⟨L2, by rw [p1]; simp (disch := omega) only [f_X12_tellGains_124, kd_80, e, l1, zl_0, zl_1, nI_eq, gd_t, gd_pos, lt_eq, Option.bind_some, true_and, and_true, not_true, not_false_iff, false_or, or_false, if_true, if_false, if_pos, if_neg], l2, zfm_trans p3 l3⟩
    · rw [if_neg hm]
      rw [if_neg hm] at e
      have l1 := m_tire (N := N) hR p2 h7 hhi (hpo1 hi hhi) (m := 2) (by omega)
      exact ⟨_, by rw [p1]; simp (disch := omega) only [f_X12_tellGains_124, kd_80, e, l1, zl_0, zl_1, zl_2, nI_eq, gd_t, gd_pos, lt_eq, Option.bind_some, true_and, and_true, not_true, not_false_iff, false_or, or_false, if_true, if_false, if_pos, if_neg], zMV_up96 p2, zfm_up p3 (by simp) (by omega) _⟩
end ZD
