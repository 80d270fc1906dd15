def f_X11_forget (N : Nat) (R : Nat → Nat → Nat) : Nat → (Nat → Nat → Int32) → Option (Unit × (Nat → Nat → Int32)) := fun a0 I =>
  sm_gd (sm_kd a0 = (11, 18)) <|
  sm_gd (sm_kd (R a0 7) = (9, 4)) <|
  (f_X9_clear N R (R a0 7) I).bind fun p3 =>
  some ((), p3.2)
set_option maxHeartbeats 4000000 in
set_option maxRecDepth 100000 in
theorem w_X11_forget {l : Launch} (N : Nat) (R : Nat → Nat → Nat) : ∀ (a0 : Nat) (I : (Nat → Nat → Int32)) (y : (Unit × (Nat → Nat → Int32))), f_X11_forget N R a0 I = some y → sm_W l 1 mX11_forget 0 [(0, .inr (.inl a0))] [] (I, R) (.inl none) (y.2, R) := by
  intro a0 I y h
  unfold f_X11_forget at h
  refine sm_aload_n (q := 1) dX11_forget_0 rfl rfl 0 rfl ?_
  obtain ⟨hc1, h⟩ := sm_gd_e h
  refine sm_getR (r := R a0 7) (q := 4) dX11_forget_1 rfl fk_X11_46 hc1 (by decide) (by decide) rfl ?_
  obtain ⟨hc2, h⟩ := sm_gd_e h
  obtain ⟨p3, hc_p3, h⟩ := sm_bd_e h
  refine sm_callVv (q := 7) (As := []) (S := []) (e_X9_clear hc_p3) mv_X11_129 hc2 rfl (by decide) (Nat.le_of_ble_eq_true rfl) dX11_forget_4 rfl ?_
  obtain rfl := Option.some.inj h
  exact sm_vret dX11_forget_7 rfl
theorem e_X11_forget {l : Launch} {N : Nat} {R : Nat → Nat → Nat} {a0 : Nat} {I : (Nat → Nat → Int32)} {y : (Unit × (Nat → Nat → Int32))} (h : f_X11_forget N R a0 I = some y) : sm_E l 1 mX11_forget [.inr (.inl a0)] (I, R) (.inl none) (y.2, R) :=
  sm_meth (by decide) (Nat.le_of_ble_eq_true rfl) (w_X11_forget N R a0 I y h)
