def f_X11_draw (N : Nat) (R : Nat → Nat → Nat) : Nat → Int32 → (Nat → Nat → Int32) → Option (Int32 × (Nat → Nat → Int32)) := fun a0 a1 I =>
  sm_gd (sm_kd a0 = (11, 18)) <|
  sm_lt (sm_up I a0 (sm_up (I a0) 17 (((I a0 17) * (1103515245 : Int32)) + (12345 : Int32)))) fun I2 =>
  if (1 : Int32) ≤ a1 then (
    sm_gd (¬ a1 = 0) <|
    some ((((sm_us (I2 a0 17) (16 : Int32)) &&& (32767 : Int32)) - ((sm_us (I2 a0 17) (16 : Int32)) &&& (32767 : Int32)) / a1 * a1), I2))
  else (
    some ((0 : Int32), I2))
set_option maxHeartbeats 4000000 in
set_option maxRecDepth 100000 in
theorem w_X11_draw {l : Launch} (N : Nat) (R : Nat → Nat → Nat) : ∀ (a0 : Nat) (a1 : Int32) (I : (Nat → Nat → Int32)) (y : (Int32 × (Nat → Nat → Int32))), f_X11_draw N R a0 a1 I = some y → sm_W l 0 mX11_draw 0 [(0, .inr (.inl a0)), (1, .inl a1)] [] (I, R) (.inl (some (.inl y.1))) (y.2, R) := by
  intro a0 a1 I y h
  unfold f_X11_draw at h
  refine sm_aload_n (q := 1) dX11_draw_0 rfl rfl 0 rfl ?_
  refine sm_aload_n (q := 2) dX11_draw_1 rfl rfl 0 rfl ?_
  obtain ⟨hc1, h⟩ := sm_gd_e h
  refine sm_getI (q := 5) dX11_draw_2 rfl fk_X11_349 hc1 (by decide) (by decide) ?_
  refine sm_ldcw (q := 8) dX11_draw_5 rfl co_X11_366 ?_
  refine sm_imul (q := 9) dX11_draw_8 rfl ?_
  refine sm_sipush (v := 12345) (q := 12) dX11_draw_9 rfl (by decide) ?_
  refine sm_iadd (q := 13) dX11_draw_12 rfl ?_
  obtain ⟨I2, hI2, h⟩ := sm_lt_e h
  refine sm_putI (q := 16) dX11_draw_13 rfl fk_X11_349 hc1 (by decide) (by decide) ?_
  refine sm_memI hI2 ?_
  refine sm_iload_n (q := 17) dX11_draw_16 rfl rfl 1 rfl ?_
  refine sm_iconst (v := 1) (q := 18) dX11_draw_17 rfl (by decide) ?_
  rcases sm_if_e h with ⟨hb3, h⟩ | ⟨hb3, h⟩
  · refine sm_icmp_ge (tgt := 25) (q := 21) dX11_draw_18 (by decide) rfl (fun _ => ?_) (fun hn => absurd hb3 hn)
    refine sm_aload_n (q := 26) dX11_draw_25 rfl rfl 0 rfl ?_
    refine sm_getI (q := 29) dX11_draw_26 rfl fk_X11_349 hc1 (by decide) (by decide) ?_
    refine sm_bipush (v := 16) (q := 31) dX11_draw_29 rfl (by decide) ?_
    refine sm_iushr (v := (sm_us (I2 a0 17) (16 : Int32))) (q := 32) dX11_draw_31 rfl rfl ?_
    refine sm_sipush (v := 32767) (q := 35) dX11_draw_32 rfl (by decide) ?_
    refine sm_iand (q := 36) dX11_draw_35 rfl ?_
    refine sm_iload_n (q := 37) dX11_draw_36 rfl rfl 1 rfl ?_
    obtain ⟨hc4, h⟩ := sm_gd_e h
    refine sm_irem (q := 38) dX11_draw_37 rfl hc4 ?_
    obtain rfl := Option.some.inj h
    exact sm_iret dX11_draw_38 rfl
  · refine sm_icmp_ge (tgt := 25) (q := 21) dX11_draw_18 (by decide) rfl (fun ht => absurd ht hb3) (fun _ => ?_)
    refine sm_iconst (v := 0) (q := 22) dX11_draw_21 rfl (by decide) ?_
    refine sm_goto (q := 38) dX11_draw_22 (by decide) ?_
    obtain rfl := Option.some.inj h
    exact sm_iret dX11_draw_38 rfl
theorem e_X11_draw {l : Launch} {N : Nat} {R : Nat → Nat → Nat} {a0 : Nat} {a1 : Int32} {I : (Nat → Nat → Int32)} {y : (Int32 × (Nat → Nat → Int32))} (h : f_X11_draw N R a0 a1 I = some y) : sm_E l 0 mX11_draw [.inr (.inl a0), .inl a1] (I, R) (.inl (some (.inl y.1))) (y.2, R) :=
  sm_meth (by decide) (Nat.le_of_ble_eq_true rfl) (w_X11_draw N R a0 a1 I y h)
