/-! ===== PURE PART: years: chance ===== -/
def zYl (q : Nat) : List Nat := [59, 61, 62, 63, 64, 65, 66, 67, q + 6, q + 16]
def zYf (q : Nat) (I J : Nat → Nat → Int32) : Prop := (∀ c, c ≠ 0 → c ∉ zYl q → J c = I c) ∧ ∀ f, f ≠ 15 → J 0 f = I 0 f
theorem zYf_refl (q : Nat) (I : Nat → Nat → Int32) : zYf q I I := ⟨fun _ _ _ => rfl, fun _ _ => rfl⟩
theorem zYf_trans {q : Nat} {I J K : Nat → Nat → Int32} (h : zYf q I J) (h2 : zYf q J K) : zYf q I K := ⟨fun c h0 hc => (h2.1 c h0 hc).trans (h.1 c h0 hc), fun f hf => (h2.2 f hf).trans (h.2 f hf)⟩
theorem zYf_fr {q : Nat} {I J : Nat → Nat → Int32} {L : List Nat} (h : zfr L I J) (h0 : 0 ∉ L) (hL : ∀ x, x ∈ L → x ∈ zYl q) : zYf q I J := ⟨fun c _ hc => h c (fun hx => hc (hL c hx)), fun f _ => by rw [h 0 h0]⟩
theorem zYf_s {q : Nat} (I : Nat → Nat → Int32) (v : Int32) : zYf q I (sm_up I 0 (sm_up (I 0) 15 v)) := ⟨fun c h0 _ => up_n _ _ h0, fun f hf => by rw [up_s, up_n _ _ hf]⟩
def z_cw3 (S : zS) (nu pn d p k : Nat) (W : Nat → zP) : Nat → zP := if 2 < d then W else if d = 0 then (if z_may nu W pn (W p) (k + 1) = true then sm_up W p (z_go S (W p) (k + 1)) else W) else if d = 1 then sm_up W p (sm_up (W p) 1 (min 9 (W p 1 + 3))) else sm_up W p (sm_up (W p) 1 (W p 1 - 3))
def z_cx (nx : Int32 → Int32) (d : Nat) (x : Int32) : Int32 := if 2 < d then nx x else if d = 0 then nx (nx (nx x)) else nx (nx x)
theorem z_cw3_pok {S : zS} {nu pn d p k : Nat} {W : Nat → zP} (hp : p < nu) (hk : k < 30) (h : ∀ p, p < nu → z_pok S (W p)) : ∀ p', p' < nu → z_pok S (z_cw3 S nu pn d p k W p') := by
  have key : ∀ pl : zP, z_pok S pl → ∀ p', p' < nu → z_pok S (sm_up W p pl p') := fun pl h1 p' h2 => by
    by_cases e : p' = p
    · rw [e, up_s]
      exact h1
    · rw [up_n _ _ e]
      exact h p' h2
  intro p' hp'
  have h9 := (h p hp).2.1
  unfold z_cw3
  split
  · exact h p' hp'
  · split
    · split
      · exact key _ (z_pok_go (h p hp) (by omega) (by omega)) p' hp'
      · exact h p' hp'
    · split
      · exact key _ (z_pok_sore (h p hp) (by omega)) p' hp'
      · exact key _ (z_pok_sore (h p hp) (by omega)) p' hp'
theorem zl_m3 : (-3 : Int32) = -nI 3 := rfl
section ZM
variable {N : Nat} {R : Nat → Nat → Nat} {q nu pn p d k : Nat} {S : zS} {I I1 I2 I3 : Nat → Nat → Int32} {W : Nat → zP}
theorem m_ch3 (hR : sR R q) (h7 : nu ≤ 7) (hn : 1 ≤ nu) (hV : zMV nu W I1) (hd : d < 5) (h2 : 2 < d) (a1 : f_X12_drawOf N R 80 (nI 5) I = some (nI d, I1)) : f_X12_something N R 80 I = some ((), I1) := by
  simp (disch := omega) only [f_X12_something, kd_80, a1, zl_2, zl_5, nI_ltI, gd_t, gd_pos, Option.bind_some, if_pos]
theorem m_ch0 (hN : 5000 ≤ N) (hR : sR R q) (hso : z_sok S) (h7 : nu ≤ 7) (hn : 1 ≤ nu) (h11 : I1 84 1 = nI nu) (hS : zMS S I3) (hV : zMV nu W I3) (ho : ∀ p, p < nu → z_pok S (W p)) (h32 : I3 80 32 = nI pn) (hp4 : pn ≤ 4) (hp : p < nu) (hk : k < 30) (a1 : f_X12_drawOf N R 80 (nI 5) I = some (nI 0, I1)) (a2 : f_X12_drawOf N R 80 (nI nu) I1 = some (nI p, I2)) (a3 : f_X12_drawOf N R 80 (nI 30) I2 = some (nI k, I3)) : ∃ J, f_X12_something N R 80 I = some ((), J) ∧ zMV nu (z_cw3 S nu pn 0 p k W) J ∧ zfm [95, 96, 99, 101, 102] [] I3 J := by
  have aw : ∀ p, p < nu → W p 4 < 2 ^ 30 := fun p hp => (ho p hp).2.2.2.2.1
  have e := m_mayGo hN hR hV h7 aw h32 hp4 hp (j := k + 1) (by omega) (by omega)
  have e60 : ∀ (y : Int32) (X : Nat → Nat → Int32), f_X12_something_60 N R 80 (nI 0) y X = some ((), X) := fun y X => by
    have h1 : ¬ nI 0 = 1 := by decide
    have h2 : ¬ nI 0 = 2 := by decide
    unfold f_X12_something_60 f_X12_something_71
    rw [if_neg h1, if_neg h2]
  have e0 : f_X12_something N R 80 I = (f_X12_mayGo N R 80 (nI p) (nI (k + 1)) I3).bind fun p9 => if p9.1 = 0 then f_X12_something_60 N R 80 (nI 0) (nI p) p9.2 else (f_X12_go N R 80 (nI p) (nI k + nI 1) p9.2).bind fun p11 => f_X12_something_60 N R 80 (nI 0) (nI p) p11.2 := by
    have h1 : ¬ (2 : Int32) < nI 0 := by decide
    have h2 : (nI 0 : Int32) = 0 := rfl
    have h3 : (sm_kd (R 80 4)).1 = 13 ∧ ¬ ((1 : Int32) < 0 ∨ (sm_kd (R 80 4)).2 ≤ ((1 : Int32)).toNatClampNeg) := by rw [r80_4 hR, kd_84]; decide
    have h4 : I1 (R 80 4) ((1 : Int32)).toNatClampNeg = nI nu := by rw [r80_4 hR]; exact h11
    have h5 : ¬ I1 (R 80 4) ((1 : Int32)).toNatClampNeg = 0 := fun h => absurd ((nI_eq (by omega) (by omega)).mp ((h4.symm.trans h).trans zl_0)) (by omega)
    unfold f_X12_something
    rw [gd_pos kd_80, zl_5, a1, Option.bind_some]
    dsimp only
    rw [if_neg h1, gd_pos h3, if_neg h5, h4, a2, Option.bind_some]
    dsimp only
    rw [if_pos h2, zl_30, a3, Option.bind_some]
    dsimp only
    rw [zl_1, nI_add]
  unfold z_cw3
  rw [if_neg (by omega), if_pos rfl]
  by_cases hm : z_may nu W pn (W p) (k + 1) = true
  · rw [if_pos hm]
    rw [if_pos hm] at e
    obtain ⟨J, l1, l2, l3⟩ := m_go hN hR hso hS hV h7 hp (ho p hp) (j := k + 1) (by omega) (by omega)
    refine ⟨J, ?_, l2, l3⟩
    rw [e0, e]
    show (f_X12_go N R 80 (nI p) (nI k + nI 1) I3).bind _ = _
    rw [nI_add, l1, Option.bind_some, e60]
  · rw [if_neg hm]
    rw [if_neg hm] at e
    refine ⟨I3, ?_, hV, zfm_refl _ _ _⟩
    rw [e0, e]
    exact e60 (nI p) I3
theorem m_ch1 (hR : sR R q) (h7 : nu ≤ 7) (hn : 1 ≤ nu) (h11 : I1 84 1 = nI nu) (hV : zMV nu W I2) (ho : ∀ p, p < nu → z_pok S (W p)) (hp : p < nu) (a1 : f_X12_drawOf N R 80 (nI 5) I = some (nI 1, I1)) (a2 : f_X12_drawOf N R 80 (nI nu) I1 = some (nI p, I2)) : ∃ J, f_X12_something N R 80 I = some ((), J) ∧ zMV nu (z_cw3 S nu pn 1 p k W) J ∧ zfm [95, 96, 99, 101, 102] [] I2 J := by
  have l1 := m_tire (N := N) hR hV h7 hp (ho p hp) (m := 3) (by omega)
  refine ⟨_, ?_, zMV_up96 hV, zfm_up (zfm_refl _ _ _) (by simp) (by omega) _⟩
  simp (disch := omega) only [f_X12_something, f_X12_something_60, f_X12_something_71, kd_80, r80_4 hR, kd_84, h11, a1, a2, l1, zl_0, zl_1, zl_2, zl_3, zl_5, nI_ltI, nI_leI, nI_eq, nI_clamp, gd_t, gd_pos, lt_eq, Option.bind_some, true_and, and_true, not_true, not_false_iff, false_or, or_false, if_true, if_false, if_pos, if_neg]
theorem m_ch2 (hR : sR R q) (h7 : nu ≤ 7) (hn : 1 ≤ nu) (h11 : I1 84 1 = nI nu) (hV : zMV nu W I2) (ho : ∀ p, p < nu → z_pok S (W p)) (hp : p < nu) (a1 : f_X12_drawOf N R 80 (nI 5) I = some (nI 2, I1)) (a2 : f_X12_drawOf N R 80 (nI nu) I1 = some (nI p, I2)) : ∃ J, f_X12_something N R 80 I = some ((), J) ∧ zMV nu (z_cw3 S nu pn 2 p k W) J ∧ zfm [95, 96, 99, 101, 102] [] I2 J := by
  have v1 := (hV.2 p hp).2.1
  have l1 := zz_sub9 (a := W p 1) (k := 3) (ho p hp).2.1 (by omega)
  refine ⟨_, ?_, zMV_up96 hV, zfm_up (zfm_refl _ _ _) (by simp) (by omega) _⟩
  simp (disch := omega) only [f_X12_something, f_X12_something_60, f_X12_something_71, kd_80, r80_4 hR, kd_84, r80_26 hR, kd_96, h11, a1, a2, v1, l1, zl_0, zl_1, zl_2, zl_3, zl_5, nI_ltI, nI_leI, nI_eq, nI_clamp, gd_t, gd_pos, lt_eq, Option.bind_some, true_and, and_true, not_true, not_false_iff, false_or, or_false, if_true, if_false, if_pos, if_neg]
theorem m_chz (hR : sR R q) (h11 : I1 84 1 = nI 0) (hd : d < 5) (a1 : f_X12_drawOf N R 80 (nI 5) I = some (nI d, I1)) : f_X12_something N R 80 I = some ((), I1) := by
  by_cases h : 2 < d
  · simp (disch := omega) only [f_X12_something, kd_80, a1, zl_2, zl_5, nI_ltI, gd_t, gd_pos, Option.bind_some, if_pos]
  · simp (disch := omega) only [f_X12_something, kd_80, r80_4 hR, kd_84, h11, a1, zl_0, zl_1, zl_2, zl_5, nI_ltI, nI_leI, nI_eq, nI_clamp, gd_t, gd_pos, lt_eq, Option.bind_some, true_and, and_true, not_true, not_false_iff, false_or, or_false, if_true, if_false, if_pos, if_neg]
end ZM
section ZM
variable {N : Nat} {R : Nat → Nat → Nat} {q nu pn : Nat} {S : zS} {I : Nat → Nat → Int32} {W : Nat → zP} {nx : Int32 → Int32} {dw : Int32 → Nat}
theorem m_chance (hN : 5000 ≤ N) (hR : sR R q) (hso : z_sok S) (h7 : nu ≤ 7) (hn : 1 ≤ nu) (hS : zMS S I) (hV : zMV nu W I) (ho : ∀ p, p < nu → z_pok S (W p)) (h32 : I 80 32 = nI pn) (hp4 : pn ≤ 4) (hdr : ∀ (I : Nat → Nat → Int32) (m : Nat), 1 ≤ m → m < 2 ^ 31 → f_X12_drawOf N R 80 (nI m) I = some (nI (dw (nx (I 80 49)) % m), sm_up I 80 (sm_up (I 80) 49 (nx (I 80 49))))) {x : Int32} (hx : I 80 49 = x) : ∃ J, f_X12_something N R 80 I = some ((), J) ∧ zMV nu (z_cw3 S nu pn (dw (nx x) % 5) (dw (nx (nx x)) % nu) (dw (nx (nx (nx x))) % 30) W) J ∧ J 80 49 = z_cx nx (dw (nx x) % 5) x ∧ zfm [95, 96, 99, 101, 102] [49] I J := by
  have a1 := hdr I 5 (by omega) (by omega)
  rw [hx] at a1
  have t5 : dw (nx x) % 5 < 5 := Nat.mod_lt _ (by omega)
  have tn : dw (nx (nx x)) % nu < nu := Nat.mod_lt _ (by omega)
  have tk : dw (nx (nx (nx x))) % 30 < 30 := Nat.mod_lt _ (by omega)
  obtain ⟨I1, hI1⟩ : ∃ J, J = sm_up I 80 (sm_up (I 80) 49 (nx x)) := ⟨_, rfl⟩
  have b1 : zfm [] [49] I I1 := by rw [hI1]; exact zfm_f (zfm_refl _ _ _) (by simp) _
  have g1 : I1 80 49 = nx x := by rw [hI1, up_s, up_s]
  rw [← hI1] at a1
  have hV1 := zMV_fr hV b1 (by decide)
  have a2 := hdr I1 nu hn (by omega)
  rw [g1] at a2
  obtain ⟨I2, hI2⟩ : ∃ J, J = sm_up I1 80 (sm_up (I1 80) 49 (nx (nx x))) := ⟨_, rfl⟩
  have b2 : zfm [] [49] I1 I2 := by rw [hI2]; exact zfm_f (zfm_refl _ _ _) (by simp) _
  have g2 : I2 80 49 = nx (nx x) := by rw [hI2, up_s, up_s]
  rw [← hI2] at a2
  have b12 := zfm_trans b1 b2
  have hV2 := zMV_fr hV b12 (by decide)
  have a3 := hdr I2 30 (by omega) (by omega)
  rw [g2] at a3
  obtain ⟨I3, hI3⟩ : ∃ J, J = sm_up I2 80 (sm_up (I2 80) 49 (nx (nx (nx x)))) := ⟨_, rfl⟩
  have b3 : zfm [] [49] I2 I3 := by rw [hI3]; exact zfm_f (zfm_refl _ _ _) (by simp) _
  have g3 : I3 80 49 = nx (nx (nx x)) := by rw [hI3, up_s, up_s]
  rw [← hI3] at a3
  have b13 := zfm_trans b12 b3
  have hV3 := zMV_fr hV b13 (by decide)
  have hS3 := zMS_fr hS b13 (by decide)
  have h323 : I3 80 32 = nI pn := by rw [b13.2 32 (by simp)]; exact h32
  generalize dw (nx x) % 5 = d at *
  generalize dw (nx (nx x)) % nu = p at *
  generalize dw (nx (nx (nx x))) % 30 = k at *
  have hc : d = 0 ∨ d = 1 ∨ d = 2 ∨ 2 < d := by omega
  rcases hc with rfl | rfl | rfl | h2
  · obtain ⟨J, j1, j2, j3⟩ := m_ch0 (N := N) hN hR hso h7 hn hV1.1 hS3 hV3 ho h323 hp4 tn tk a1 a2 a3
    exact ⟨J, j1, j2, by rw [j3.2 49 (by simp)]; exact g3, zfm_trans (zfm_mono b13 (by simp) (by simp)) (zfm_mono j3 (by simp) (by simp))⟩
  · obtain ⟨J, j1, j2, j3⟩ := m_ch1 (N := N) (pn := pn) (k := k) hR h7 hn hV1.1 hV2 ho tn a1 a2
    exact ⟨J, j1, j2, by rw [j3.2 49 (by simp)]; exact g2, zfm_trans (zfm_mono b12 (by simp) (by simp)) (zfm_mono j3 (by simp) (by simp))⟩
  · obtain ⟨J, j1, j2, j3⟩ := m_ch2 (N := N) (pn := pn) (k := k) hR h7 hn hV1.1 hV2 ho tn a1 a2
    exact ⟨J, j1, j2, by rw [j3.2 49 (by simp)]; exact g2, zfm_trans (zfm_mono b12 (by simp) (by simp)) (zfm_mono j3 (by simp) (by simp))⟩
  · have j1 := m_ch3 (N := N) hR h7 hn hV1 t5 h2 a1
    refine ⟨I1, j1, ?_, ?_, zfm_mono b1 (by simp) (by simp)⟩
    · unfold z_cw3
      rw [if_pos h2]
      exact hV1
    · unfold z_cx
      rw [if_pos h2]
      exact g1
end ZM
