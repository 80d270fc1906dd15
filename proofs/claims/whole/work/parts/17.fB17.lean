def f_X11_pianos (N : Nat) (R : Nat → Nat → Nat) : Nat → Int32 → (Nat → Nat → Int32) → Option (Int32 × (Nat → Nat → Int32)) := fun a0 a1 I =>
  if a1 < (1 : Int32) then (
    sm_gd (sm_kd a0 = (11, 18)) <|
    (f_X11_refuse N R a0 (1 : Int32) I).bind fun p3 =>
    some (p3.1, p3.2))
  else (
    if a1 ≤ (4 : Int32) then (
      sm_gd (sm_kd a0 = (11, 18)) <|
      sm_gd (sm_kd (R a0 3) = (7, 9)) <|
      sm_gd (sm_kd (R a0 6) = (0, 3)) <|
      (f_X0_keep N R (R a0 6) (R (R a0 3) 5) I).bind fun p8 =>
      sm_gd (sm_kd (R (R a0 3) 5) = (10, 4)) <|
      sm_lt (sm_up p8.2 (R (R a0 3) 5) (sm_up (p8.2 (R (R a0 3) 5)) 3 a1)) fun I10 =>
      some ((p8.2 (R (R a0 3) 5) 3), I10))
    else (
      sm_gd (sm_kd a0 = (11, 18)) <|
      (f_X11_refuse N R a0 (1 : Int32) I).bind fun p12 =>
      some (p12.1, p12.2)))
set_option maxHeartbeats 4000000 in
set_option maxRecDepth 100000 in
theorem w_X11_pianos {l : Launch} (N : Nat) (R : Nat → Nat → Nat) : ∀ (a0 : Nat) (a1 : Int32) (I : (Nat → Nat → Int32)) (y : (Int32 × (Nat → Nat → Int32))), f_X11_pianos N R a0 a1 I = some y → sm_W l 3 mX11_pianos 0 [(0, .inr (.inl a0)), (1, .inl a1)] [] (I, R) (.inl (some (.inl y.1))) (y.2, R) := by
  intro a0 a1 I y h
  unfold f_X11_pianos at h
  refine sm_iload_n (q := 1) dX11_pianos_0 rfl rfl 1 rfl ?_
  refine sm_iconst (v := 1) (q := 2) dX11_pianos_1 rfl (by decide) ?_
  rcases sm_if_e h with ⟨hb1, h⟩ | ⟨hb1, h⟩
  · refine sm_icmp_lt (tgt := 10) (q := 5) dX11_pianos_2 (by decide) rfl (fun _ => ?_) (fun hn => absurd hb1 hn)
    refine sm_aload_n (q := 11) dX11_pianos_10 rfl rfl 0 rfl ?_
    refine sm_iconst (v := 1) (q := 12) dX11_pianos_11 rfl (by decide) ?_
    obtain ⟨hc2, h⟩ := sm_gd_e h
    obtain ⟨p3, hc_p3, h⟩ := sm_bd_e h
    refine sm_callVi (q := 15) (As := [.inl (1 : Int32)]) (S := []) (e_X11_refuse hc_p3) mv_X11_232 hc2 rfl (by decide) (Nat.le_of_ble_eq_true rfl) dX11_pianos_12 rfl ?_
    obtain rfl := Option.some.inj h
    exact sm_iret dX11_pianos_15 rfl
  · refine sm_icmp_lt (tgt := 10) (q := 5) dX11_pianos_2 (by decide) rfl (fun ht => absurd ht hb1) (fun _ => ?_)
    refine sm_iload_n (q := 6) dX11_pianos_5 rfl rfl 1 rfl ?_
    refine sm_iconst (v := 4) (q := 7) dX11_pianos_6 rfl (by decide) ?_
    rcases sm_if_e h with ⟨hb4, h⟩ | ⟨hb4, h⟩
    · refine sm_icmp_le (tgt := 16) (q := 10) dX11_pianos_7 (by decide) rfl (fun _ => ?_) (fun hn => absurd hb4 hn)
      refine sm_aload_n (q := 17) dX11_pianos_16 rfl rfl 0 rfl ?_
      obtain ⟨hc5, h⟩ := sm_gd_e h
      refine sm_getR (r := R a0 6) (q := 20) dX11_pianos_17 rfl fk_X11_39 hc5 (by decide) (by decide) rfl ?_
      refine sm_aload_n (q := 21) dX11_pianos_20 rfl rfl 0 rfl ?_
      refine sm_getR (r := R a0 3) (q := 24) dX11_pianos_21 rfl fk_X11_20 hc5 (by decide) (by decide) rfl ?_
      obtain ⟨hc6, h⟩ := sm_gd_e h
      refine sm_getR (r := R (R a0 3) 5) (q := 27) dX11_pianos_24 rfl fk_X11_137 hc6 (by decide) (by decide) rfl ?_
      obtain ⟨hc7, h⟩ := sm_gd_e h
      obtain ⟨p8, hc_p8, h⟩ := sm_bd_e h
      refine sm_callVv (q := 30) (As := [.inr (.inl (R (R a0 3) 5))]) (S := []) (e_X0_keep hc_p8) mv_X11_235 hc7 rfl (by decide) (Nat.le_of_ble_eq_true rfl) dX11_pianos_27 rfl ?_
      refine sm_aload_n (q := 31) dX11_pianos_30 rfl rfl 0 rfl ?_
      refine sm_getR (r := R a0 3) (q := 34) dX11_pianos_31 rfl fk_X11_20 hc5 (by decide) (by decide) rfl ?_
      refine sm_getR (r := R (R a0 3) 5) (q := 37) dX11_pianos_34 rfl fk_X11_137 hc6 (by decide) (by decide) rfl ?_
      obtain ⟨hc9, h⟩ := sm_gd_e h
      refine sm_getI (q := 40) dX11_pianos_37 rfl fk_X11_143 hc9 (by decide) (by decide) ?_
      refine sm_istore_n (L' := [(2, .inl (p8.2 (R (R a0 3) 5) 3)), (0, .inr (.inl a0)), (1, .inl a1)]) (q := 41) dX11_pianos_40 rfl rfl (by decide) rfl ?_
      refine sm_aload_n (q := 42) dX11_pianos_41 rfl rfl 1 rfl ?_
      refine sm_getR (r := R a0 3) (q := 45) dX11_pianos_42 rfl fk_X11_20 hc5 (by decide) (by decide) rfl ?_
      refine sm_getR (r := R (R a0 3) 5) (q := 48) dX11_pianos_45 rfl fk_X11_137 hc6 (by decide) (by decide) rfl ?_
      refine sm_iload_n (q := 49) dX11_pianos_48 rfl rfl 2 rfl ?_
      obtain ⟨I10, hI10, h⟩ := sm_lt_e h
      refine sm_putI (q := 52) dX11_pianos_49 rfl fk_X11_143 hc9 (by decide) (by decide) ?_
      refine sm_memI hI10 ?_
      refine sm_iload_n (q := 53) dX11_pianos_52 rfl rfl 0 rfl ?_
      obtain rfl := Option.some.inj h
      exact sm_iret dX11_pianos_53 rfl
    · refine sm_icmp_le (tgt := 16) (q := 10) dX11_pianos_7 (by decide) rfl (fun ht => absurd ht hb4) (fun _ => ?_)
      refine sm_aload_n (q := 11) dX11_pianos_10 rfl rfl 0 rfl ?_
      refine sm_iconst (v := 1) (q := 12) dX11_pianos_11 rfl (by decide) ?_
      obtain ⟨hc11, h⟩ := sm_gd_e h
      obtain ⟨p12, hc_p12, h⟩ := sm_bd_e h
      refine sm_callVi (q := 15) (As := [.inl (1 : Int32)]) (S := []) (e_X11_refuse hc_p12) mv_X11_232 hc11 rfl (by decide) (Nat.le_of_ble_eq_true rfl) dX11_pianos_12 rfl ?_
      obtain rfl := Option.some.inj h
      exact sm_iret dX11_pianos_15 rfl
theorem e_X11_pianos {l : Launch} {N : Nat} {R : Nat → Nat → Nat} {a0 : Nat} {a1 : Int32} {I : (Nat → Nat → Int32)} {y : (Int32 × (Nat → Nat → Int32))} (h : f_X11_pianos N R a0 a1 I = some y) : sm_E l 3 mX11_pianos [.inr (.inl a0), .inl a1] (I, R) (.inl (some (.inl y.1))) (y.2, R) :=
  sm_meth (by decide) (Nat.le_of_ble_eq_true rfl) (w_X11_pianos N R a0 a1 I y h)
