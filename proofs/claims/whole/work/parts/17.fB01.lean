def f_X11_feed (N : Nat) (R : Nat → Nat → Nat) : Nat → Int32 → Int32 → Int32 → Int32 → Int32 → (Nat → Nat → Int32) → Option (Int32 × (Nat → Nat → Int32)) := fun a0 a1 a2 a3 a4 a5 I =>
  sm_gd (sm_kd a0 = (11, 18)) <|
  if (I a0 1) ≤ (680 : Int32) then (
    (f_X11_putFour N R a0 a1 I).bind fun p3 =>
    (f_X11_putFour N R a0 a2 p3.2).bind fun p4 =>
    (f_X11_putFour N R a0 a3 p4.2).bind fun p5 =>
    (f_X11_putFour N R a0 a4 p5.2).bind fun p6 =>
    (f_X11_putFour N R a0 a5 p6.2).bind fun p7 =>
    some ((p7.2 a0 1), p7.2))
  else (
    some ((-1 : Int32), I))
set_option maxHeartbeats 4000000 in
set_option maxRecDepth 100000 in
theorem w_X11_feed {l : Launch} (N : Nat) (R : Nat → Nat → Nat) : ∀ (a0 : Nat) (a1 : Int32) (a2 : Int32) (a3 : Int32) (a4 : Int32) (a5 : Int32) (I : (Nat → Nat → Int32)) (y : (Int32 × (Nat → Nat → Int32))), f_X11_feed N R a0 a1 a2 a3 a4 a5 I = some y → sm_W l 1 mX11_feed 0 [(0, .inr (.inl a0)), (1, .inl a1), (2, .inl a2), (3, .inl a3), (4, .inl a4), (5, .inl a5)] [] (I, R) (.inl (some (.inl y.1))) (y.2, R) := by
  intro a0 a1 a2 a3 a4 a5 I y h
  unfold f_X11_feed at h
  refine sm_aload_n (q := 1) dX11_feed_0 rfl rfl 0 rfl ?_
  obtain ⟨hc1, h⟩ := sm_gd_e h
  refine sm_getI (q := 4) dX11_feed_1 rfl fk_X11_102 hc1 (by decide) (by decide) ?_
  refine sm_sipush (v := 680) (q := 7) dX11_feed_4 rfl (by decide) ?_
  rcases sm_if_e h with ⟨hb2, h⟩ | ⟨hb2, h⟩
  · refine sm_icmp_le (tgt := 12) (q := 10) dX11_feed_7 (by decide) rfl (fun _ => ?_) (fun hn => absurd hb2 hn)
    refine sm_aload_n (q := 13) dX11_feed_12 rfl rfl 0 rfl ?_
    refine sm_iload_n (q := 14) dX11_feed_13 rfl rfl 1 rfl ?_
    obtain ⟨p3, hc_p3, h⟩ := sm_bd_e h
    refine sm_callVv (q := 17) (As := [.inl a1]) (S := []) (e_X11_putFour hc_p3) mv_X11_105 hc1 rfl (by decide) (Nat.le_of_ble_eq_true rfl) dX11_feed_14 rfl ?_
    refine sm_aload_n (q := 18) dX11_feed_17 rfl rfl 0 rfl ?_
    refine sm_iload_n (q := 19) dX11_feed_18 rfl rfl 2 rfl ?_
    obtain ⟨p4, hc_p4, h⟩ := sm_bd_e h
    refine sm_callVv (q := 22) (As := [.inl a2]) (S := []) (e_X11_putFour hc_p4) mv_X11_105 hc1 rfl (by decide) (Nat.le_of_ble_eq_true rfl) dX11_feed_19 rfl ?_
    refine sm_aload_n (q := 23) dX11_feed_22 rfl rfl 0 rfl ?_
    refine sm_iload_n (q := 24) dX11_feed_23 rfl rfl 3 rfl ?_
    obtain ⟨p5, hc_p5, h⟩ := sm_bd_e h
    refine sm_callVv (q := 27) (As := [.inl a3]) (S := []) (e_X11_putFour hc_p5) mv_X11_105 hc1 rfl (by decide) (Nat.le_of_ble_eq_true rfl) dX11_feed_24 rfl ?_
    refine sm_aload_n (q := 28) dX11_feed_27 rfl rfl 0 rfl ?_
    refine sm_iload (q := 30) dX11_feed_28 rfl 4 rfl ?_
    obtain ⟨p6, hc_p6, h⟩ := sm_bd_e h
    refine sm_callVv (q := 33) (As := [.inl a4]) (S := []) (e_X11_putFour hc_p6) mv_X11_105 hc1 rfl (by decide) (Nat.le_of_ble_eq_true rfl) dX11_feed_30 rfl ?_
    refine sm_aload_n (q := 34) dX11_feed_33 rfl rfl 0 rfl ?_
    refine sm_iload (q := 36) dX11_feed_34 rfl 5 rfl ?_
    obtain ⟨p7, hc_p7, h⟩ := sm_bd_e h
    refine sm_callVv (q := 39) (As := [.inl a5]) (S := []) (e_X11_putFour hc_p7) mv_X11_105 hc1 rfl (by decide) (Nat.le_of_ble_eq_true rfl) dX11_feed_36 rfl ?_
    refine sm_aload_n (q := 40) dX11_feed_39 rfl rfl 0 rfl ?_
    refine sm_getI (q := 43) dX11_feed_40 rfl fk_X11_102 hc1 (by decide) (by decide) ?_
    obtain rfl := Option.some.inj h
    exact sm_iret dX11_feed_43 rfl
  · refine sm_icmp_le (tgt := 12) (q := 10) dX11_feed_7 (by decide) rfl (fun ht => absurd ht hb2) (fun _ => ?_)
    refine sm_iconst (v := -1) (q := 11) dX11_feed_10 rfl (by decide) ?_
    obtain rfl := Option.some.inj h
    exact sm_iret dX11_feed_11 rfl
theorem e_X11_feed {l : Launch} {N : Nat} {R : Nat → Nat → Nat} {a0 : Nat} {a1 : Int32} {a2 : Int32} {a3 : Int32} {a4 : Int32} {a5 : Int32} {I : (Nat → Nat → Int32)} {y : (Int32 × (Nat → Nat → Int32))} (h : f_X11_feed N R a0 a1 a2 a3 a4 a5 I = some y) : sm_E l 1 mX11_feed [.inr (.inl a0), .inl a1, .inl a2, .inl a3, .inl a4, .inl a5] (I, R) (.inl (some (.inl y.1))) (y.2, R) :=
  sm_meth (by decide) (Nat.le_of_ble_eq_true rfl) (w_X11_feed N R a0 a1 a2 a3 a4 a5 I y h)
