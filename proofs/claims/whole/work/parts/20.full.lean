/-! ===== behind both constructors: no null is left, the partial world is the whole one ===== -/
theorem sn_arrV {cA : ClassId} {n : Nat} {f g : Nat → Value} (h : ∀ j, j < n → f j = g j) : arrV cA n f = arrV cA n g := by
  unfold arrV
  congr 1
  congr 1
  funext j
  exact h j.1 j.2
theorem sn_full {G : sm_G} {σ : sm_M} {H : Heap} (hP : sm_NP G sm_NC σ H) (h : ∀ k, k < sm_NC → ∀ j, j < (sm_kd k).2 → (sm_isR (sm_kd k).1 j = true ∨ 16 ≤ (sm_kd k).1) → ¬ σ.2 k j = 9999) : va_P G.1 sm_cs (sm_cl G σ) H := by
  intro k q hq
  obtain ⟨hk, rfl⟩ := sm_cl_get hq
  have h1 := hP.1 k _ (sn_at hk)
  have h9 := h k hk
  rcases hkd : sm_kd k with ⟨t, n⟩
  rw [hkd] at h9
  dsimp only at h9
  by_cases h13 : t < 13
  · rw [sn_ob hkd h13] at h1
    rw [sm_ent_ob hkd h13]
    have e : (List.range n).map (sm_fvN G σ k t) = (List.range n).map (sm_fv G σ k t) := by
      apply List.map_congr_left
      intro j hj
      have hj := List.mem_range.mp hj
      unfold sm_fvN sm_fv
      by_cases hr : sm_isR t j = true
      · rw [if_pos hr, if_pos hr, if_neg (h9 j hj (Or.inl hr))]
      · rw [if_neg hr, if_neg hr]
    rw [← e]
    exact h1
  · obtain ⟨a, rfl⟩ : ∃ a, t = 13 + a := ⟨t - 13, by omega⟩
    by_cases h3 : a < 3
    · rw [sn_ar hkd h3] at h1
      rw [sm_ent_ar hkd h3]
      exact h1
    · rw [sn_rf hkd (by omega)] at h1
      rw [sm_ent_rf hkd (by omega)]
      have h2 : H[G.2.1 k]? = some (vp_cell (G.2.2.1 a) (n, .inr (.inr (.inr (.inr fun j => if σ.2 k j = 9999 then none else some (G.2.1 (σ.2 k j))))))) := h1
      show H[G.2.1 k]? = some (vp_cell (G.2.2.1 a) (n, .inr (.inr (.inr (.inr fun j => some (G.2.1 (σ.2 k j)))))))
      rw [h2, vp_cell_q, vp_cell_q]
      congr 1
      apply sn_arrV
      intro j hj
      rw [if_neg (h9 j hj (Or.inr (by omega)))]
def sm_I0 : Nat → Nat → Int32 := cI_X12_init_80 (cI_X11_init_0 (fun _ _ => 0))
def sm_R0 : Nat → Nat → Nat := cR_X12_init_80 (cR_X11_init_0 (fun _ _ => 9999))
theorem sm_R0_ok : ∀ k, k < sm_NC → ∀ j, j < (sm_kd k).2 → (sm_isR (sm_kd k).1 j = true ∨ 16 ≤ (sm_kd k).1) → ¬ sm_R0 k j = 9999 := by
  have h : (List.range sm_NC).all (fun k => (List.range (sm_kd k).2).all (fun j => (!(sm_isR (sm_kd k).1 j) && !(Nat.ble 16 (sm_kd k).1)) || !(Nat.beq (sm_R0 k j) 9999))) = true := by decide +kernel
  intro k hk j hj hr he
  have h1 := List.all_eq_true.mp (List.all_eq_true.mp h k (List.mem_range.mpr hk)) j (List.mem_range.mpr hj)
  rw [he] at h1
  rcases hr with hr | hr
  · rw [hr] at h1
    simp at h1
  · have : Nat.ble 16 (sm_kd k).1 = true := Nat.ble_eq.mpr hr
    rw [this] at h1
    simp at h1
