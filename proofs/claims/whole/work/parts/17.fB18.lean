def f_X11_undo (N : Nat) (R : Nat → Nat → Nat) : Nat → (Nat → Nat → Int32) → Option (Int32 × (Nat → Nat → Int32)) := fun a0 I =>
  sm_gd (sm_kd a0 = (11, 18)) <|
  sm_gd (sm_kd (R a0 6) = (0, 3)) <|
  if (I (R a0 6) 2) = 0 then (
    some ((-1 : Int32), I))
  else (
    sm_gd (sm_kd (R a0 3) = (7, 9)) <|
    (f_X0_takeBack N R (R a0 6) (R (R a0 3) 5) I).bind fun p5 =>
    some ((p5.2 (R a0 6) 2), p5.2))
set_option maxHeartbeats 4000000 in
set_option maxRecDepth 100000 in
theorem w_X11_undo {l : Launch} (N : Nat) (R : Nat → Nat → Nat) : ∀ (a0 : Nat) (I : (Nat → Nat → Int32)) (y : (Int32 × (Nat → Nat → Int32))), f_X11_undo N R a0 I = some y → sm_W l 3 mX11_undo 0 [(0, .inr (.inl a0))] [] (I, R) (.inl (some (.inl y.1))) (y.2, R) := by
  intro a0 I y h
  unfold f_X11_undo at h
  refine sm_aload_n (q := 1) dX11_undo_0 rfl rfl 0 rfl ?_
  obtain ⟨hc1, h⟩ := sm_gd_e h
  refine sm_getR (r := R a0 6) (q := 4) dX11_undo_1 rfl fk_X11_39 hc1 (by decide) (by decide) rfl ?_
  obtain ⟨hc2, h⟩ := sm_gd_e h
  refine sm_getI (q := 7) dX11_undo_4 rfl fk_X11_160 hc2 (by decide) (by decide) ?_
  rcases sm_if_e h with ⟨hb3, h⟩ | ⟨hb3, h⟩
  · refine sm_if_ne (tgt := 12) (q := 10) dX11_undo_7 (by decide) rfl (fun hn => absurd hb3 hn) (fun _ => ?_)
    refine sm_iconst (v := -1) (q := 11) dX11_undo_10 rfl (by decide) ?_
    obtain rfl := Option.some.inj h
    exact sm_iret dX11_undo_11 rfl
  · refine sm_if_ne (tgt := 12) (q := 10) dX11_undo_7 (by decide) rfl (fun _ => ?_) (fun he => absurd he hb3)
    refine sm_aload_n (q := 13) dX11_undo_12 rfl rfl 0 rfl ?_
    refine sm_getR (r := R a0 6) (q := 16) dX11_undo_13 rfl fk_X11_39 hc1 (by decide) (by decide) rfl ?_
    refine sm_aload_n (q := 17) dX11_undo_16 rfl rfl 0 rfl ?_
    refine sm_getR (r := R a0 3) (q := 20) dX11_undo_17 rfl fk_X11_20 hc1 (by decide) (by decide) rfl ?_
    obtain ⟨hc4, h⟩ := sm_gd_e h
    refine sm_getR (r := R (R a0 3) 5) (q := 23) dX11_undo_20 rfl fk_X11_137 hc4 (by decide) (by decide) rfl ?_
    obtain ⟨p5, hc_p5, h⟩ := sm_bd_e h
    refine sm_callVv (q := 26) (As := [.inr (.inl (R (R a0 3) 5))]) (S := []) (e_X0_takeBack hc_p5) mv_X11_253 hc2 rfl (by decide) (Nat.le_of_ble_eq_true rfl) dX11_undo_23 rfl ?_
    refine sm_aload_n (q := 27) dX11_undo_26 rfl rfl 0 rfl ?_
    refine sm_getR (r := R a0 6) (q := 30) dX11_undo_27 rfl fk_X11_39 hc1 (by decide) (by decide) rfl ?_
    refine sm_getI (q := 33) dX11_undo_30 rfl fk_X11_160 hc2 (by decide) (by decide) ?_
    obtain rfl := Option.some.inj h
    exact sm_iret dX11_undo_33 rfl
theorem e_X11_undo {l : Launch} {N : Nat} {R : Nat → Nat → Nat} {a0 : Nat} {I : (Nat → Nat → Int32)} {y : (Int32 × (Nat → Nat → Int32))} (h : f_X11_undo N R a0 I = some y) : sm_E l 3 mX11_undo [.inr (.inl a0)] (I, R) (.inl (some (.inl y.1))) (y.2, R) :=
  sm_meth (by decide) (Nat.le_of_ble_eq_true rfl) (w_X11_undo N R a0 I y h)
