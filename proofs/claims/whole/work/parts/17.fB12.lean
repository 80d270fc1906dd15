def f_X11_refuse (N : Nat) (R : Nat → Nat → Nat) : Nat → Int32 → (Nat → Nat → Int32) → Option (Int32 × (Nat → Nat → Int32)) := fun a0 a1 I =>
  sm_gd (sm_kd a0 = (11, 18)) <|
  sm_gd ((sm_kd (R a0 8)).1 = 13 ∧ ¬ (a1 < 0 ∨ (sm_kd (R a0 8)).2 ≤ (a1).toNatClampNeg)) <|
  sm_lt (sm_up I (R a0 8) (sm_up (I (R a0 8)) (a1).toNatClampNeg ((I (R a0 8) (a1).toNatClampNeg) + (1 : Int32)))) fun I3 =>
  some ((-1 : Int32), I3)
set_option maxHeartbeats 4000000 in
set_option maxRecDepth 100000 in
theorem w_X11_refuse {l : Launch} (N : Nat) (R : Nat → Nat → Nat) : ∀ (a0 : Nat) (a1 : Int32) (I : (Nat → Nat → Int32)) (y : (Int32 × (Nat → Nat → Int32))), f_X11_refuse N R a0 a1 I = some y → sm_W l 0 mX11_refuse 0 [(0, .inr (.inl a0)), (1, .inl a1)] [] (I, R) (.inl (some (.inl y.1))) (y.2, R) := by
  intro a0 a1 I y h
  unfold f_X11_refuse at h
  refine sm_aload_n (q := 1) dX11_refuse_0 rfl rfl 0 rfl ?_
  obtain ⟨hc1, h⟩ := sm_gd_e h
  refine sm_getR (r := R a0 8) (q := 4) dX11_refuse_1 rfl fk_X11_50 hc1 (by decide) (by decide) rfl ?_
  refine sm_iload_n (q := 5) dX11_refuse_4 rfl rfl 1 rfl ?_
  refine sm_dup2 (q := 6) dX11_refuse_5 rfl rfl rfl ?_
  obtain ⟨hc2, h⟩ := sm_gd_e h
  refine sm_iald (n := (sm_kd (R a0 8)).2) (q := 7) dX11_refuse_6 rfl (Prod.ext hc2.1 rfl) hc2.2 ?_
  refine sm_iconst (v := 1) (q := 8) dX11_refuse_7 rfl (by decide) ?_
  refine sm_iadd (q := 9) dX11_refuse_8 rfl ?_
  obtain ⟨I3, hI3, h⟩ := sm_lt_e h
  refine sm_iast (n := (sm_kd (R a0 8)).2) (q := 10) dX11_refuse_9 rfl (Prod.ext hc2.1 rfl) hc2.2 ?_
  refine sm_memI hI3 ?_
  refine sm_iconst (v := -1) (q := 11) dX11_refuse_10 rfl (by decide) ?_
  obtain rfl := Option.some.inj h
  exact sm_iret dX11_refuse_11 rfl
theorem e_X11_refuse {l : Launch} {N : Nat} {R : Nat → Nat → Nat} {a0 : Nat} {a1 : Int32} {I : (Nat → Nat → Int32)} {y : (Int32 × (Nat → Nat → Int32))} (h : f_X11_refuse N R a0 a1 I = some y) : sm_E l 0 mX11_refuse [.inr (.inl a0), .inl a1] (I, R) (.inl (some (.inl y.1))) (y.2, R) :=
  sm_meth (by decide) (Nat.le_of_ble_eq_true rfl) (w_X11_refuse N R a0 a1 I y h)
