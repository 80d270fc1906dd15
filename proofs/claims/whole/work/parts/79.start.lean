/-! ===== PURE PART: the start ===== -/
theorem zs_rt : ∀ x ∈ zz_rt, sm_R0 x.1 x.2.1 = x.2.2 := by
  have h : zz_rt.all (fun x => Nat.beq (sm_R0 x.1 x.2.1) x.2.2) = true := by decide +kernel
  intro x hx
  exact Nat.eq_of_beq_eq_true (List.all_eq_true.mp h x hx)
theorem zs_sR : sR sm_R0 22 := ⟨zs_rt, by omega, by decide +kernel, by decide +kernel⟩
theorem zz_I0 : zInv (sm_I0, sm_R0) := by
  refine ⟨22, (0, fun _ => 0, fun _ => 0, fun _ _ => 0, none), 0, fun _ => 0, (0, 2, fun _ _ => 0), 0, fun _ => (0, 2, fun _ _ => 0), 0, fun _ => (0, 0, 0), fun _ => nI 0, 0, fun _ => 0, -nI 1, none, zs_sR, ?_, ?_, ?_⟩
  · refine ⟨⟨by decide, fun w hw => absurd hw (Nat.not_lt_zero w), fun r hr => by cases hr⟩, by omega, ⟨by decide, by decide, by decide, fun p hp => absurd hp (Nat.not_lt_zero p)⟩, fun i hi => absurd hi (Nat.not_lt_zero i), ⟨by omega, fun i hi => absurd hi (Nat.not_lt_zero i)⟩, ⟨by omega, fun i hi => absurd hi (Nat.not_lt_zero i)⟩, fun x hx => by cases hx⟩
  · refine ⟨⟨by decide +kernel, fun w hw => absurd hw (Nat.not_lt_zero w), fun _ => by decide +kernel, fun r hr => by cases hr⟩, ⟨by decide +kernel, fun p hp => absurd hp (Nat.not_lt_zero p)⟩, by decide +kernel, by decide +kernel, ⟨by omega, 0, by omega, by decide +kernel, by decide +kernel, fun i hi => absurd hi (Nat.not_lt_zero i)⟩, ⟨by decide +kernel, fun i hi => absurd hi (Nat.not_lt_zero i)⟩, ?_, ⟨by decide +kernel, fun i hi => absurd hi (Nat.not_lt_zero i)⟩, by decide +kernel, ?_⟩
    · have h : ∀ j, j < 3 → sm_I0 47 j = nI 0 := by decide +kernel
      exact h
    · have h : sm_I0 48 0 = 0 := by decide +kernel
      exact h
  · refine ⟨⟨by decide +kernel, fun w hw => absurd hw (Nat.not_lt_zero w), fun _ => by decide +kernel, fun r hr => by cases hr⟩, ⟨by decide +kernel, fun p hp => absurd hp (Nat.not_lt_zero p)⟩, by decide +kernel, by decide +kernel, ⟨by omega, by decide +kernel, fun i hi => absurd hi (Nat.not_lt_zero i)⟩, ⟨by decide +kernel, fun i hi => absurd hi (Nat.not_lt_zero i)⟩, ?_, ⟨by decide +kernel, fun i hi => absurd hi (Nat.not_lt_zero i)⟩, by decide +kernel, ?_⟩
    · have h : ∀ j, j < 3 → sm_I0 93 j = nI 0 := by decide +kernel
      exact h
    · have h : sm_I0 80 50 = 0 := by decide +kernel
      exact h
