def f_X11_wouldLearn (N : Nat) (R : Nat → Nat → Nat) : Nat → Nat → (Nat → Nat → Int32) → Option (Int32 × (Nat → Nat → Int32)) := fun a0 a1 I =>
  sm_gd (sm_kd a0 = (11, 18)) <|
  sm_gd (sm_kd (R a0 10) = (4, 6)) <|
  (f_X4_become N R (R a0 10) a1 I).bind fun p3 =>
  sm_gd (sm_kd (R a0 3) = (7, 9)) <|
  (f_X7_practise N R (R a0 3) (R a0 10) p3.2).bind fun p5 =>
  sm_gd (sm_kd a1 = (4, 6)) <|
  some (((p5.2 (R a0 10) 0) - (p5.2 a1 0)), p5.2)
set_option maxHeartbeats 4000000 in
set_option maxRecDepth 100000 in
theorem w_X11_wouldLearn {l : Launch} (N : Nat) (R : Nat → Nat → Nat) : ∀ (a0 : Nat) (a1 : Nat) (I : (Nat → Nat → Int32)) (y : (Int32 × (Nat → Nat → Int32))), f_X11_wouldLearn N R a0 a1 I = some y → sm_W l 3 mX11_wouldLearn 0 [(0, .inr (.inl a0)), (1, .inr (.inl a1))] [] (I, R) (.inl (some (.inl y.1))) (y.2, R) := by
  intro a0 a1 I y h
  unfold f_X11_wouldLearn at h
  refine sm_aload_n (q := 1) dX11_wouldLearn_0 rfl rfl 0 rfl ?_
  obtain ⟨hc1, h⟩ := sm_gd_e h
  refine sm_getR (r := R a0 10) (q := 4) dX11_wouldLearn_1 rfl fk_X11_64 hc1 (by decide) (by decide) rfl ?_
  refine sm_aload_n (q := 5) dX11_wouldLearn_4 rfl rfl 1 rfl ?_
  obtain ⟨hc2, h⟩ := sm_gd_e h
  obtain ⟨p3, hc_p3, h⟩ := sm_bd_e h
  refine sm_callVv (q := 8) (As := [.inr (.inl a1)]) (S := []) (e_X4_become hc_p3) mv_X11_225 hc2 rfl (by decide) (Nat.le_of_ble_eq_true rfl) dX11_wouldLearn_5 rfl ?_
  refine sm_aload_n (q := 9) dX11_wouldLearn_8 rfl rfl 0 rfl ?_
  refine sm_getR (r := R a0 3) (q := 12) dX11_wouldLearn_9 rfl fk_X11_20 hc1 (by decide) (by decide) rfl ?_
  refine sm_aload_n (q := 13) dX11_wouldLearn_12 rfl rfl 0 rfl ?_
  refine sm_getR (r := R a0 10) (q := 16) dX11_wouldLearn_13 rfl fk_X11_64 hc1 (by decide) (by decide) rfl ?_
  obtain ⟨hc4, h⟩ := sm_gd_e h
  obtain ⟨p5, hc_p5, h⟩ := sm_bd_e h
  refine sm_callVv (q := 19) (As := [.inr (.inl (R a0 10))]) (S := []) (e_X7_practise hc_p5) mv_X11_229 hc4 rfl (by decide) (Nat.le_of_ble_eq_true rfl) dX11_wouldLearn_16 rfl ?_
  refine sm_aload_n (q := 20) dX11_wouldLearn_19 rfl rfl 0 rfl ?_
  refine sm_getR (r := R a0 10) (q := 23) dX11_wouldLearn_20 rfl fk_X11_64 hc1 (by decide) (by decide) rfl ?_
  refine sm_getI (q := 26) dX11_wouldLearn_23 rfl fk_X11_202 hc2 (by decide) (by decide) ?_
  refine sm_aload_n (q := 27) dX11_wouldLearn_26 rfl rfl 1 rfl ?_
  obtain ⟨hc6, h⟩ := sm_gd_e h
  refine sm_getI (q := 30) dX11_wouldLearn_27 rfl fk_X11_202 hc6 (by decide) (by decide) ?_
  refine sm_isub (q := 31) dX11_wouldLearn_30 rfl ?_
  obtain rfl := Option.some.inj h
  exact sm_iret dX11_wouldLearn_31 rfl
theorem e_X11_wouldLearn {l : Launch} {N : Nat} {R : Nat → Nat → Nat} {a0 : Nat} {a1 : Nat} {I : (Nat → Nat → Int32)} {y : (Int32 × (Nat → Nat → Int32))} (h : f_X11_wouldLearn N R a0 a1 I = some y) : sm_E l 3 mX11_wouldLearn [.inr (.inl a0), .inr (.inl a1)] (I, R) (.inl (some (.inl y.1))) (y.2, R) :=
  sm_meth (by decide) (Nat.le_of_ble_eq_true rfl) (w_X11_wouldLearn N R a0 a1 I y h)
