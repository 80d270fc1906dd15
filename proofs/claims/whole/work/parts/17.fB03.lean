def f_X11_restore (N : Nat) (R : Nat → Nat → Nat) : Nat → (Nat → Nat → Int32) → Option (Int32 × (Nat → Nat → Int32)) := fun a0 I =>
  sm_gd (sm_kd a0 = (11, 16)) <|
  sm_gd (sm_kd (R a0 7) = (3, 5)) <|
  if (I (R a0 7) 0) = 0 then (
    some ((0 : Int32), I))
  else (
    sm_gd (sm_kd (R a0 3) = (7, 9)) <|
    sm_gd (sm_kd (R (R a0 3) 5) = (10, 4)) <|
    (f_X10_read N R (R (R a0 3) 5) (R (R a0 7) 1) (0 : Int32) I).bind fun p6 =>
    sm_gd (sm_kd (R a0 4) = (0, 3)) <|
    (f_X0_become N R (R a0 4) (R (R a0 7) 2) p6.2).bind fun p8 =>
    sm_gd (sm_kd (R a0 5) = (9, 4)) <|
    (f_X9_become N R (R a0 5) (R (R a0 7) 3) p8.2).bind fun p10 =>
    sm_gd ((sm_kd (R a0 6)).1 = 13) <|
    sm_gd (((sm_kd (R (R a0 7) 4)).1 = 13 ∧ (sm_kd (R a0 6)).1 = 13) ∧ (¬ (0 : Int32) < 0 ∧ ¬ (0 : Int32) < 0 ∧ ¬ (Int32.ofNat (sm_kd (R a0 6)).2) < 0) ∧ ((0 : Int32)).toNatClampNeg + ((Int32.ofNat (sm_kd (R a0 6)).2)).toNatClampNeg ≤ (sm_kd (R (R a0 7) 4)).2 ∧ ((0 : Int32)).toNatClampNeg + ((Int32.ofNat (sm_kd (R a0 6)).2)).toNatClampNeg ≤ (sm_kd (R a0 6)).2) <|
    sm_lt (sm_up p10.2 (R a0 6) (va_cpy (p10.2 (R (R a0 7) 4)) (p10.2 (R a0 6)) ((0 : Int32)).toNatClampNeg ((0 : Int32)).toNatClampNeg ((Int32.ofNat (sm_kd (R a0 6)).2)).toNatClampNeg)) fun I13 =>
    some ((1 : Int32), I13))
set_option maxHeartbeats 4000000 in
set_option maxRecDepth 100000 in
theorem w_X11_restore {l : Launch} (N : Nat) (R : Nat → Nat → Nat) : ∀ (a0 : Nat) (I : (Nat → Nat → Int32)) (y : (Int32 × (Nat → Nat → Int32))), f_X11_restore N R a0 I = some y → sm_W l 2 mX11_restore 0 [(0, .inr (.inl a0))] [] (I, R) (.inl (some (.inl y.1))) (y.2, R) := by
  intro a0 I y h
  unfold f_X11_restore at h
  refine sm_aload_n (q := 1) dX11_restore_0 rfl rfl 0 rfl ?_
  obtain ⟨hc1, h⟩ := sm_gd_e h
  refine sm_getR (r := R a0 7) (q := 4) dX11_restore_1 rfl fk_X11_48 hc1 (by decide) (by decide) rfl ?_
  obtain ⟨hc2, h⟩ := sm_gd_e h
  refine sm_getI (q := 7) dX11_restore_4 rfl fk_X11_125 hc2 (by decide) (by decide) ?_
  rcases sm_if_e h with ⟨hb3, h⟩ | ⟨hb3, h⟩
  · refine sm_if_ne (tgt := 12) (q := 10) dX11_restore_7 (by decide) rfl (fun hn => absurd hb3 hn) (fun _ => ?_)
    refine sm_iconst (v := 0) (q := 11) dX11_restore_10 rfl (by decide) ?_
    obtain rfl := Option.some.inj h
    exact sm_zret dX11_restore_11 rfl (by decide)
  · refine sm_if_ne (tgt := 12) (q := 10) dX11_restore_7 (by decide) rfl (fun _ => ?_) (fun he => absurd he hb3)
    refine sm_aload_n (q := 13) dX11_restore_12 rfl rfl 0 rfl ?_
    refine sm_getR (r := R a0 3) (q := 16) dX11_restore_13 rfl fk_X11_23 hc1 (by decide) (by decide) rfl ?_
    obtain ⟨hc4, h⟩ := sm_gd_e h
    refine sm_getR (r := R (R a0 3) 5) (q := 19) dX11_restore_16 rfl fk_X11_132 hc4 (by decide) (by decide) rfl ?_
    refine sm_aload_n (q := 20) dX11_restore_19 rfl rfl 0 rfl ?_
    refine sm_getR (r := R a0 7) (q := 23) dX11_restore_20 rfl fk_X11_48 hc1 (by decide) (by decide) rfl ?_
    refine sm_getR (r := R (R a0 7) 1) (q := 26) dX11_restore_23 rfl fk_X11_362 hc2 (by decide) (by decide) rfl ?_
    refine sm_iconst (v := 0) (q := 27) dX11_restore_26 rfl (by decide) ?_
    obtain ⟨hc5, h⟩ := sm_gd_e h
    obtain ⟨p6, hc_p6, h⟩ := sm_bd_e h
    refine sm_callVv (q := 30) (As := [.inr (.inl (R (R a0 7) 1)), .inl (0 : Int32)]) (S := []) (e_X10_read hc_p6) mv_X11_384 hc5 rfl (by decide) (Nat.le_of_ble_eq_true rfl) dX11_restore_27 rfl ?_
    refine sm_aload_n (q := 31) dX11_restore_30 rfl rfl 0 rfl ?_
    refine sm_getR (r := R a0 4) (q := 34) dX11_restore_31 rfl fk_X11_30 hc1 (by decide) (by decide) rfl ?_
    refine sm_aload_n (q := 35) dX11_restore_34 rfl rfl 0 rfl ?_
    refine sm_getR (r := R a0 7) (q := 38) dX11_restore_35 rfl fk_X11_48 hc1 (by decide) (by decide) rfl ?_
    refine sm_getR (r := R (R a0 7) 2) (q := 41) dX11_restore_38 rfl fk_X11_369 hc2 (by decide) (by decide) rfl ?_
    obtain ⟨hc7, h⟩ := sm_gd_e h
    obtain ⟨p8, hc_p8, h⟩ := sm_bd_e h
    refine sm_callVv (q := 44) (As := [.inr (.inl (R (R a0 7) 2))]) (S := []) (e_X0_become hc_p8) mv_X11_370 hc7 rfl (by decide) (Nat.le_of_ble_eq_true rfl) dX11_restore_41 rfl ?_
    refine sm_aload_n (q := 45) dX11_restore_44 rfl rfl 0 rfl ?_
    refine sm_getR (r := R a0 5) (q := 48) dX11_restore_45 rfl fk_X11_37 hc1 (by decide) (by decide) rfl ?_
    refine sm_aload_n (q := 49) dX11_restore_48 rfl rfl 0 rfl ?_
    refine sm_getR (r := R a0 7) (q := 52) dX11_restore_49 rfl fk_X11_48 hc1 (by decide) (by decide) rfl ?_
    refine sm_getR (r := R (R a0 7) 3) (q := 55) dX11_restore_52 rfl fk_X11_373 hc2 (by decide) (by decide) rfl ?_
    obtain ⟨hc9, h⟩ := sm_gd_e h
    obtain ⟨p10, hc_p10, h⟩ := sm_bd_e h
    refine sm_callVv (q := 58) (As := [.inr (.inl (R (R a0 7) 3))]) (S := []) (e_X9_become hc_p10) mv_X11_374 hc9 rfl (by decide) (Nat.le_of_ble_eq_true rfl) dX11_restore_55 rfl ?_
    refine sm_aload_n (q := 59) dX11_restore_58 rfl rfl 0 rfl ?_
    refine sm_getR (r := R a0 7) (q := 62) dX11_restore_59 rfl fk_X11_48 hc1 (by decide) (by decide) rfl ?_
    refine sm_getR (r := R (R a0 7) 4) (q := 65) dX11_restore_62 rfl fk_X11_377 hc2 (by decide) (by decide) rfl ?_
    refine sm_iconst (v := 0) (q := 66) dX11_restore_65 rfl (by decide) ?_
    refine sm_aload_n (q := 67) dX11_restore_66 rfl rfl 0 rfl ?_
    refine sm_getR (r := R a0 6) (q := 70) dX11_restore_67 rfl fk_X11_41 hc1 (by decide) (by decide) rfl ?_
    refine sm_iconst (v := 0) (q := 71) dX11_restore_70 rfl (by decide) ?_
    refine sm_aload_n (q := 72) dX11_restore_71 rfl rfl 0 rfl ?_
    refine sm_getR (r := R a0 6) (q := 75) dX11_restore_72 rfl fk_X11_41 hc1 (by decide) (by decide) rfl ?_
    obtain ⟨hc11, h⟩ := sm_gd_e h
    refine sm_alenI (t := 0) (v := (Int32.ofNat (sm_kd (R a0 6)).2)) (q := 76) dX11_restore_75 rfl (Prod.ext hc11 rfl) (by decide) rfl ?_
    obtain ⟨hc12, h⟩ := sm_gd_e h
    obtain ⟨I13, hI13, h⟩ := sm_lt_e h
    refine sm_copy (q := 79) dX11_restore_76 rfl ac_X11_378 (Prod.ext hc12.1.1 rfl) (Prod.ext hc12.1.2 rfl) hc12.2.1.1 hc12.2.1.2.1 hc12.2.1.2.2 hc12.2.2.1 hc12.2.2.2 (Nat.le_of_ble_eq_true rfl) ?_
    refine sm_memI hI13 ?_
    refine sm_iconst (v := 1) (q := 80) dX11_restore_79 rfl (by decide) ?_
    obtain rfl := Option.some.inj h
    exact sm_zret dX11_restore_80 rfl (by decide)
theorem e_X11_restore {l : Launch} {N : Nat} {R : Nat → Nat → Nat} {a0 : Nat} {I : (Nat → Nat → Int32)} {y : (Int32 × (Nat → Nat → Int32))} (h : f_X11_restore N R a0 I = some y) : sm_E l 2 mX11_restore [.inr (.inl a0)] (I, R) (.inl (some (.inl y.1))) (y.2, R) :=
  sm_meth (by decide) (Nat.le_of_ble_eq_true rfl) (w_X11_restore N R a0 I y h)
