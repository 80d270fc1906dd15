def f_X11_image (N : Nat) (R : Nat → Nat → Nat) : Nat → (Nat → Nat → Int32) → Option (Unit × (Nat → Nat → Int32)) := fun a0 I =>
  sm_gd (sm_kd a0 = (11, 18)) <|
  sm_gd (sm_kd (R a0 3) = (7, 9)) <|
  sm_gd (sm_kd (R a0 9) = (3, 5)) <|
  sm_gd (sm_kd (R (R a0 3) 5) = (10, 4)) <|
  (f_X10_write N R (R (R a0 3) 5) (R (R a0 9) 1) (0 : Int32) I).bind fun p5 =>
  sm_gd (sm_kd (R (R a0 9) 2) = (0, 3)) <|
  (f_X0_become N R (R (R a0 9) 2) (R a0 6) p5.2).bind fun p7 =>
  sm_gd (sm_kd (R (R a0 9) 3) = (9, 4)) <|
  (f_X9_become N R (R (R a0 9) 3) (R a0 7) p7.2).bind fun p9 =>
  sm_gd ((sm_kd (R a0 8)).1 = 13) <|
  sm_gd (((sm_kd (R a0 8)).1 = 13 ∧ (sm_kd (R (R a0 9) 4)).1 = 13) ∧ (¬ (0 : Int32) < 0 ∧ ¬ (0 : Int32) < 0 ∧ ¬ (Int32.ofNat (sm_kd (R a0 8)).2) < 0) ∧ ((0 : Int32)).toNatClampNeg + ((Int32.ofNat (sm_kd (R a0 8)).2)).toNatClampNeg ≤ (sm_kd (R a0 8)).2 ∧ ((0 : Int32)).toNatClampNeg + ((Int32.ofNat (sm_kd (R a0 8)).2)).toNatClampNeg ≤ (sm_kd (R (R a0 9) 4)).2) <|
  sm_lt (sm_up p9.2 (R (R a0 9) 4) (va_cpy (p9.2 (R a0 8)) (p9.2 (R (R a0 9) 4)) ((0 : Int32)).toNatClampNeg ((0 : Int32)).toNatClampNeg ((Int32.ofNat (sm_kd (R a0 8)).2)).toNatClampNeg)) fun I12 =>
  sm_lt (sm_up I12 (R a0 9) (sm_up (I12 (R a0 9)) 0 (1 : Int32))) fun I13 =>
  some ((), I13)
set_option maxHeartbeats 4000000 in
set_option maxRecDepth 100000 in
theorem w_X11_image {l : Launch} (N : Nat) (R : Nat → Nat → Nat) : ∀ (a0 : Nat) (I : (Nat → Nat → Int32)) (y : (Unit × (Nat → Nat → Int32))), f_X11_image N R a0 I = some y → sm_W l 2 mX11_image 0 [(0, .inr (.inl a0))] [] (I, R) (.inl none) (y.2, R) := by
  intro a0 I y h
  unfold f_X11_image at h
  refine sm_aload_n (q := 1) dX11_image_0 rfl rfl 0 rfl ?_
  obtain ⟨hc1, h⟩ := sm_gd_e h
  refine sm_getR (r := R a0 3) (q := 4) dX11_image_1 rfl fk_X11_20 hc1 (by decide) (by decide) rfl ?_
  obtain ⟨hc2, h⟩ := sm_gd_e h
  refine sm_getR (r := R (R a0 3) 5) (q := 7) dX11_image_4 rfl fk_X11_137 hc2 (by decide) (by decide) rfl ?_
  refine sm_aload_n (q := 8) dX11_image_7 rfl rfl 0 rfl ?_
  refine sm_getR (r := R a0 9) (q := 11) dX11_image_8 rfl fk_X11_57 hc1 (by decide) (by decide) rfl ?_
  obtain ⟨hc3, h⟩ := sm_gd_e h
  refine sm_getR (r := R (R a0 9) 1) (q := 14) dX11_image_11 rfl fk_X11_367 hc3 (by decide) (by decide) rfl ?_
  refine sm_iconst (v := 0) (q := 15) dX11_image_14 rfl (by decide) ?_
  obtain ⟨hc4, h⟩ := sm_gd_e h
  obtain ⟨p5, hc_p5, h⟩ := sm_bd_e h
  refine sm_callVv (q := 18) (As := [.inr (.inl (R (R a0 9) 1)), .inl (0 : Int32)]) (S := []) (e_X10_write hc_p5) mv_X11_370 hc4 rfl (by decide) (Nat.le_of_ble_eq_true rfl) dX11_image_15 rfl ?_
  refine sm_aload_n (q := 19) dX11_image_18 rfl rfl 0 rfl ?_
  refine sm_getR (r := R a0 9) (q := 22) dX11_image_19 rfl fk_X11_57 hc1 (by decide) (by decide) rfl ?_
  refine sm_getR (r := R (R a0 9) 2) (q := 25) dX11_image_22 rfl fk_X11_374 hc3 (by decide) (by decide) rfl ?_
  refine sm_aload_n (q := 26) dX11_image_25 rfl rfl 0 rfl ?_
  refine sm_getR (r := R a0 6) (q := 29) dX11_image_26 rfl fk_X11_39 hc1 (by decide) (by decide) rfl ?_
  obtain ⟨hc6, h⟩ := sm_gd_e h
  obtain ⟨p7, hc_p7, h⟩ := sm_bd_e h
  refine sm_callVv (q := 32) (As := [.inr (.inl (R a0 6))]) (S := []) (e_X0_become hc_p7) mv_X11_375 hc6 rfl (by decide) (Nat.le_of_ble_eq_true rfl) dX11_image_29 rfl ?_
  refine sm_aload_n (q := 33) dX11_image_32 rfl rfl 0 rfl ?_
  refine sm_getR (r := R a0 9) (q := 36) dX11_image_33 rfl fk_X11_57 hc1 (by decide) (by decide) rfl ?_
  refine sm_getR (r := R (R a0 9) 3) (q := 39) dX11_image_36 rfl fk_X11_378 hc3 (by decide) (by decide) rfl ?_
  refine sm_aload_n (q := 40) dX11_image_39 rfl rfl 0 rfl ?_
  refine sm_getR (r := R a0 7) (q := 43) dX11_image_40 rfl fk_X11_46 hc1 (by decide) (by decide) rfl ?_
  obtain ⟨hc8, h⟩ := sm_gd_e h
  obtain ⟨p9, hc_p9, h⟩ := sm_bd_e h
  refine sm_callVv (q := 46) (As := [.inr (.inl (R a0 7))]) (S := []) (e_X9_become hc_p9) mv_X11_379 hc8 rfl (by decide) (Nat.le_of_ble_eq_true rfl) dX11_image_43 rfl ?_
  refine sm_aload_n (q := 47) dX11_image_46 rfl rfl 0 rfl ?_
  refine sm_getR (r := R a0 8) (q := 50) dX11_image_47 rfl fk_X11_50 hc1 (by decide) (by decide) rfl ?_
  refine sm_iconst (v := 0) (q := 51) dX11_image_50 rfl (by decide) ?_
  refine sm_aload_n (q := 52) dX11_image_51 rfl rfl 0 rfl ?_
  refine sm_getR (r := R a0 9) (q := 55) dX11_image_52 rfl fk_X11_57 hc1 (by decide) (by decide) rfl ?_
  refine sm_getR (r := R (R a0 9) 4) (q := 58) dX11_image_55 rfl fk_X11_382 hc3 (by decide) (by decide) rfl ?_
  refine sm_iconst (v := 0) (q := 59) dX11_image_58 rfl (by decide) ?_
  refine sm_aload_n (q := 60) dX11_image_59 rfl rfl 0 rfl ?_
  refine sm_getR (r := R a0 8) (q := 63) dX11_image_60 rfl fk_X11_50 hc1 (by decide) (by decide) rfl ?_
  obtain ⟨hc10, h⟩ := sm_gd_e h
  refine sm_alenI (t := 0) (v := (Int32.ofNat (sm_kd (R a0 8)).2)) (q := 64) dX11_image_63 rfl (Prod.ext hc10 rfl) (by decide) rfl ?_
  obtain ⟨hc11, h⟩ := sm_gd_e h
  obtain ⟨I12, hI12, h⟩ := sm_lt_e h
  refine sm_copy (q := 67) dX11_image_64 rfl ac_X11_383 (Prod.ext hc11.1.1 rfl) (Prod.ext hc11.1.2 rfl) hc11.2.1.1 hc11.2.1.2.1 hc11.2.1.2.2 hc11.2.2.1 hc11.2.2.2 (Nat.le_of_ble_eq_true rfl) ?_
  refine sm_memI hI12 ?_
  refine sm_aload_n (q := 68) dX11_image_67 rfl rfl 0 rfl ?_
  refine sm_getR (r := R a0 9) (q := 71) dX11_image_68 rfl fk_X11_57 hc1 (by decide) (by decide) rfl ?_
  refine sm_iconst (v := 1) (q := 72) dX11_image_71 rfl (by decide) ?_
  obtain ⟨I13, hI13, h⟩ := sm_lt_e h
  refine sm_putZ (q := 75) dX11_image_72 rfl fk_X11_130 hc3 (by decide) (by decide) (by decide) ?_
  refine sm_memI hI13 ?_
  obtain rfl := Option.some.inj h
  exact sm_vret dX11_image_75 rfl
theorem e_X11_image {l : Launch} {N : Nat} {R : Nat → Nat → Nat} {a0 : Nat} {I : (Nat → Nat → Int32)} {y : (Unit × (Nat → Nat → Int32))} (h : f_X11_image N R a0 I = some y) : sm_E l 2 mX11_image [.inr (.inl a0)] (I, R) (.inl none) (y.2, R) :=
  sm_meth (by decide) (Nat.le_of_ble_eq_true rfl) (w_X11_image N R a0 I y h)
