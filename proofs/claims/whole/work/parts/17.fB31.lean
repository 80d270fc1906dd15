def f_X11_goToLast (N : Nat) (R : Nat → Nat → Nat) : Nat → Int32 → (Nat → Nat → Int32) → Option (Int32 × (Nat → Nat → Int32)) := fun a0 a1 I =>
  (f_J6_highestOneBit_0f7a4 N R a1 I).bind fun p1 =>
  sm_gd (sm_kd a0 = (11, 18)) <|
  (f_J6_numberOfTrailingZeros_0f7a4 N R p1.1 p1.2).bind fun p3 =>
  sm_gd (sm_kd (R a0 3) = (7, 9)) <|
  (f_X7_goThrough N R (R a0 3) (R a0 10) (p3.1 + (1 : Int32)) p3.2).bind fun p5 =>
  some ((a1 &&& (p1.1 ^^^ (-1 : Int32))), p5.2)
set_option maxHeartbeats 4000000 in
set_option maxRecDepth 100000 in
theorem w_X11_goToLast {l : Launch} (N : Nat) (R : Nat → Nat → Nat) : ∀ (a0 : Nat) (a1 : Int32) (I : (Nat → Nat → Int32)) (y : (Int32 × (Nat → Nat → Int32))), f_X11_goToLast N R a0 a1 I = some y → sm_W l 4 mX11_goToLast 0 [(0, .inr (.inl a0)), (1, .inl a1)] [] (I, R) (.inl (some (.inl y.1))) (y.2, R) := by
  intro a0 a1 I y h
  unfold f_X11_goToLast at h
  refine sm_iload_n (q := 1) dX11_goToLast_0 rfl rfl 1 rfl ?_
  obtain ⟨p1, hc_p1, h⟩ := sm_bd_e h
  refine sm_callSi (q := 4) (As := [.inl a1]) (S := []) (e_J6_highestOneBit_0f7a4 hc_p1) ms_X11_283 rfl (by decide) (Nat.le_of_ble_eq_true rfl) dX11_goToLast_1 rfl ?_
  refine sm_istore_n (L' := [(2, .inl p1.1), (0, .inr (.inl a0)), (1, .inl a1)]) (q := 5) dX11_goToLast_4 rfl rfl (by decide) rfl ?_
  refine sm_aload_n (q := 6) dX11_goToLast_5 rfl rfl 1 rfl ?_
  obtain ⟨hc2, h⟩ := sm_gd_e h
  refine sm_getR (r := R a0 3) (q := 9) dX11_goToLast_6 rfl fk_X11_20 hc2 (by decide) (by decide) rfl ?_
  refine sm_aload_n (q := 10) dX11_goToLast_9 rfl rfl 1 rfl ?_
  refine sm_getR (r := R a0 10) (q := 13) dX11_goToLast_10 rfl fk_X11_64 hc2 (by decide) (by decide) rfl ?_
  refine sm_iload_n (q := 14) dX11_goToLast_13 rfl rfl 0 rfl ?_
  obtain ⟨p3, hc_p3, h⟩ := sm_bd_e h
  refine sm_callSi (q := 17) (As := [.inl p1.1]) (S := [.inr (.inl (R a0 10)), .inr (.inl (R a0 3))]) (e_J6_numberOfTrailingZeros_0f7a4 hc_p3) ms_X11_288 rfl (by decide) (Nat.le_of_ble_eq_true rfl) dX11_goToLast_14 rfl ?_
  refine sm_iconst (v := 1) (q := 18) dX11_goToLast_17 rfl (by decide) ?_
  refine sm_iadd (q := 19) dX11_goToLast_18 rfl ?_
  obtain ⟨hc4, h⟩ := sm_gd_e h
  obtain ⟨p5, hc_p5, h⟩ := sm_bd_e h
  refine sm_callVv (q := 22) (As := [.inr (.inl (R a0 10)), .inl (p3.1 + (1 : Int32))]) (S := []) (e_X7_goThrough hc_p5) mv_X11_247 hc4 rfl (by decide) (Nat.le_of_ble_eq_true rfl) dX11_goToLast_19 rfl ?_
  refine sm_iload_n (q := 23) dX11_goToLast_22 rfl rfl 2 rfl ?_
  refine sm_iload_n (q := 24) dX11_goToLast_23 rfl rfl 0 rfl ?_
  refine sm_iconst (v := -1) (q := 25) dX11_goToLast_24 rfl (by decide) ?_
  refine sm_ixor (q := 26) dX11_goToLast_25 rfl ?_
  refine sm_iand (q := 27) dX11_goToLast_26 rfl ?_
  obtain rfl := Option.some.inj h
  exact sm_iret dX11_goToLast_27 rfl
theorem e_X11_goToLast {l : Launch} {N : Nat} {R : Nat → Nat → Nat} {a0 : Nat} {a1 : Int32} {I : (Nat → Nat → Int32)} {y : (Int32 × (Nat → Nat → Int32))} (h : f_X11_goToLast N R a0 a1 I = some y) : sm_E l 4 mX11_goToLast [.inr (.inl a0), .inl a1] (I, R) (.inl (some (.inl y.1))) (y.2, R) :=
  sm_meth (by decide) (Nat.le_of_ble_eq_true rfl) (w_X11_goToLast N R a0 a1 I y h)
