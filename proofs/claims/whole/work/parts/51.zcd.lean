/-! ===== PURE PART: the model's code of a call ===== -/
abbrev zcd (I : Nat → Nat → Int32) (k : Nat) : Nat → Nat → Int32 := sm_up I 80 (sm_up (I 80) 3 (nI k))
section ZI
variable {N : Nat} {R : Nat → Nat → Nat} {q : Nat} {S : zS} {nu : Nat} {pr : Nat → Nat} {T : zT} {na : Nat} {A : Nat → zT} {ns : Nat} {sn : Nat → Nat × Nat × Nat} {st : Nat → Int32} {nt : Nat} {tp : Nat → Nat} {fp : Int32} {im : Option zIm} {I J K : Nat → Nat → Int32}
theorem zcd_f (I : Nat → Nat → Int32) (k : Nat) : zfm [] [3] I (zcd I k) := zfm_f (zfm_refl _ _ _) (by simp) _
theorem zcd_M (h : zMi S nu T na A ns sn st nt tp fp im I) (k : Nat) : zMi S nu T na A ns sn st nt tp fp im (zcd I k) := zMi_fr h (zcd_f I k) (fun x hx => by cases hx) (fun x hx => by simp at hx; subst hx; simp [zMsf])
theorem zcd_lo (I : Nat → Nat → Int32) (k : Nat) : ∀ j, j < 80 → zcd I k j = I j := zfm_lo (zcd_f I k) (fun x hx => by cases hx)
theorem zcd_3 (I : Nat → Nat → Int32) (k : Nat) : zcd I k 80 3 = nI k := by
  show sm_up I 80 (sm_up (I 80) 3 (nI k)) 80 3 = nI k
  rw [up_s, up_s]
theorem zcd_z (h : zMi S nu T na A ns sn st nt tp fp im I) {k : Nat} {L F : List Nat} (hf : zfm L F (zcd I k) K) (hL : ∀ x ∈ L, x ∈ zMsc ∧ 100 < x) (hF : ∀ x ∈ F, x ∈ zMsf ∧ x ≠ 31 ∧ x ≠ 32) : zMi S nu T na A ns sn st nt tp fp im K := zMi_fr (zcd_M h k) hf hL hF
theorem ag_ok (nse iae v : Int32) {c : Int32} (h : c = nI 0) : zo_ag nse iae (.inl v) v c := ⟨h, fun w hw => by cases hw; rfl⟩
theorem ag_n (iae r : Int32) {c : Int32} (h : c = nI 1) : zo_ag 1 iae (.inr "java/util/NoSuchElementException") r c := ⟨Or.inl ⟨rfl, by decide, h⟩, fun w hw => by cases hw⟩
theorem ag_i (r : Int32) {c : Int32} (h : c = nI 1) : zo_ag 0 1 (.inr "java/lang/IllegalArgumentException") r c := ⟨Or.inr ⟨rfl, by decide, h⟩, fun w hw => by cases hw⟩
theorem ag_i2 (r : Int32) {c : Int32} (h : c = nI 2) : zo_ag 1 2 (.inr "java/lang/IllegalArgumentException") r c := ⟨Or.inr ⟨rfl, by decide, h⟩, fun w hw => by cases hw⟩
end ZI
