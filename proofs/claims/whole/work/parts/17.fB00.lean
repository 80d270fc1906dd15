def f_X11_putFour_3 (N : Nat) (R : Nat → Nat → Nat) : Nat → Nat → Int32 → Int32 → (Nat → Nat → Int32) → Option (Unit × (Nat → Nat → Int32))
  | 0, _, _, _, _ => none
  | n + 1, a0, a1, a2, I =>
    if a2 < 0 then (
      some ((), I))
    else (
      sm_gd (sm_kd a0 = (11, 16)) <|
      if (700 : Int32) ≤ (I a0 1) then (
        some ((), I))
      else (
        sm_gd (sm_kd (R a0 0) = (5, 11)) <|
        sm_gd ((sm_kd (R (R a0 0) 0)).1 = 14 ∧ ¬ ((I a0 1) < 0 ∨ (sm_kd (R (R a0 0) 0)).2 ≤ ((I a0 1)).toNatClampNeg)) <|
        sm_lt (sm_up I (R (R a0 0) 0) (sm_up (I (R (R a0 0) 0)) ((I a0 1)).toNatClampNeg (sm_i8 (sm_i8 (sm_us a1 a2))))) fun I6 =>
        sm_lt (sm_up I6 a0 (sm_up (I6 a0) 1 ((I6 a0 1) + (1 : Int32)))) fun I7 =>
        f_X11_putFour_3 N R n a0 a1 (a2 + (-8)) I7))
def f_X11_putFour (N : Nat) (R : Nat → Nat → Nat) : Nat → Int32 → (Nat → Nat → Int32) → Option (Unit × (Nat → Nat → Int32)) := fun a0 a1 I =>
  f_X11_putFour_3 N R N a0 a1 (24 : Int32) I
set_option maxHeartbeats 4000000 in
set_option maxRecDepth 100000 in
theorem w_X11_putFour_3 {l : Launch} (N : Nat) (R : Nat → Nat → Nat) : ∀ (n : Nat) (a0 : Nat) (a1 : Int32) (a2 : Int32) (I : (Nat → Nat → Int32)) (y : (Unit × (Nat → Nat → Int32))), f_X11_putFour_3 N R n a0 a1 a2 I = some y → sm_W l 0 mX11_putFour 3 [(0, .inr (.inl a0)), (1, .inl a1), (2, .inl a2)] [] (I, R) (.inl none) (y.2, R) := by
  intro n
  induction n with
  | zero => intro a0 a1 a2 I y h; cases h
  | succ n ih =>
    intro a0 a1 a2 I y h
    rw [f_X11_putFour_3] at h
    refine sm_iload_n (q := 4) dX11_putFour_3 rfl rfl 2 rfl ?_
    rcases sm_if_e h with ⟨hb1, h⟩ | ⟨hb1, h⟩
    · refine sm_if_lt (tgt := 49) (q := 7) dX11_putFour_4 (by decide) rfl (fun _ => ?_) (fun hn => absurd hb1 hn)
      obtain rfl := Option.some.inj h
      exact sm_vret dX11_putFour_49 rfl
    · refine sm_if_lt (tgt := 49) (q := 7) dX11_putFour_4 (by decide) rfl (fun ht => absurd ht hb1) (fun _ => ?_)
      refine sm_aload_n (q := 8) dX11_putFour_7 rfl rfl 0 rfl ?_
      obtain ⟨hc2, h⟩ := sm_gd_e h
      refine sm_getI (q := 11) dX11_putFour_8 rfl fk_X11_93 hc2 (by decide) (by decide) ?_
      refine sm_sipush (v := 700) (q := 14) dX11_putFour_11 rfl (by decide) ?_
      rcases sm_if_e h with ⟨hb3, h⟩ | ⟨hb3, h⟩
      · refine sm_icmp_ge (tgt := 49) (q := 17) dX11_putFour_14 (by decide) rfl (fun _ => ?_) (fun hn => absurd hb3 hn)
        obtain rfl := Option.some.inj h
        exact sm_vret dX11_putFour_49 rfl
      · refine sm_icmp_ge (tgt := 49) (q := 17) dX11_putFour_14 (by decide) rfl (fun ht => absurd ht hb3) (fun _ => ?_)
        refine sm_aload_n (q := 18) dX11_putFour_17 rfl rfl 0 rfl ?_
        refine sm_getR (r := R a0 0) (q := 21) dX11_putFour_18 rfl fk_X11_10 hc2 (by decide) (by decide) rfl ?_
        obtain ⟨hc4, h⟩ := sm_gd_e h
        refine sm_getR (r := R (R a0 0) 0) (q := 24) dX11_putFour_21 rfl fk_X11_100 hc4 (by decide) (by decide) rfl ?_
        refine sm_aload_n (q := 25) dX11_putFour_24 rfl rfl 0 rfl ?_
        refine sm_getI (q := 28) dX11_putFour_25 rfl fk_X11_93 hc2 (by decide) (by decide) ?_
        refine sm_iload_n (q := 29) dX11_putFour_28 rfl rfl 1 rfl ?_
        refine sm_iload_n (q := 30) dX11_putFour_29 rfl rfl 2 rfl ?_
        refine sm_iushr (v := (sm_us a1 a2)) (q := 31) dX11_putFour_30 rfl rfl ?_
        refine sm_i2b (v := (sm_i8 (sm_us a1 a2))) (q := 32) dX11_putFour_31 rfl rfl ?_
        obtain ⟨hc5, h⟩ := sm_gd_e h
        obtain ⟨I6, hI6, h⟩ := sm_lt_e h
        refine sm_bast (n := (sm_kd (R (R a0 0) 0)).2) (q := 33) dX11_putFour_32 rfl (Prod.ext hc5.1 rfl) hc5.2 ?_
        refine sm_memI hI6 ?_
        refine sm_aload_n (q := 34) dX11_putFour_33 rfl rfl 0 rfl ?_
        refine sm_dup (q := 35) dX11_putFour_34 rfl rfl ?_
        refine sm_getI (q := 38) dX11_putFour_35 rfl fk_X11_93 hc2 (by decide) (by decide) ?_
        refine sm_iconst (v := 1) (q := 39) dX11_putFour_38 rfl (by decide) ?_
        refine sm_iadd (q := 40) dX11_putFour_39 rfl ?_
        obtain ⟨I7, hI7, h⟩ := sm_lt_e h
        refine sm_putI (q := 43) dX11_putFour_40 rfl fk_X11_93 hc2 (by decide) (by decide) ?_
        refine sm_memI hI7 ?_
        refine sm_iinc (v := (a2 + (-8))) (L' := [(2, .inl (a2 + (-8))), (0, .inr (.inl a0)), (1, .inl a1)]) (q := 46) dX11_putFour_43 rfl 2 rfl rfl (by decide) rfl ?_
        refine sm_goto (q := 3) dX11_putFour_46 (by decide) ?_
        refine sm_pick [1, 2, 0] rfl ?_
        exact ih _ _ _ _ _ h
set_option maxHeartbeats 4000000 in
set_option maxRecDepth 100000 in
theorem w_X11_putFour {l : Launch} (N : Nat) (R : Nat → Nat → Nat) : ∀ (a0 : Nat) (a1 : Int32) (I : (Nat → Nat → Int32)) (y : (Unit × (Nat → Nat → Int32))), f_X11_putFour N R a0 a1 I = some y → sm_W l 0 mX11_putFour 0 [(0, .inr (.inl a0)), (1, .inl a1)] [] (I, R) (.inl none) (y.2, R) := by
  intro a0 a1 I y h
  unfold f_X11_putFour at h
  refine sm_bipush (v := 24) (q := 2) dX11_putFour_0 rfl (by decide) ?_
  refine sm_istore_n (L' := [(2, .inl (24 : Int32)), (0, .inr (.inl a0)), (1, .inl a1)]) (q := 3) dX11_putFour_2 rfl rfl (by decide) rfl ?_
  refine sm_pick [1, 2, 0] rfl ?_
  exact w_X11_putFour_3 N R N _ _ _ _ _ h
theorem e_X11_putFour {l : Launch} {N : Nat} {R : Nat → Nat → Nat} {a0 : Nat} {a1 : Int32} {I : (Nat → Nat → Int32)} {y : (Unit × (Nat → Nat → Int32))} (h : f_X11_putFour N R a0 a1 I = some y) : sm_E l 0 mX11_putFour [.inr (.inl a0), .inl a1] (I, R) (.inl none) (y.2, R) :=
  sm_meth (by decide) (Nat.le_of_ble_eq_true rfl) (w_X11_putFour N R a0 a1 I y h)
def f_X11_feed (N : Nat) (R : Nat → Nat → Nat) : Nat → Int32 → Int32 → Int32 → Int32 → Int32 → (Nat → Nat → Int32) → Option (Int32 × (Nat → Nat → Int32)) := fun a0 a1 a2 a3 a4 a5 I =>
  sm_gd (sm_kd a0 = (11, 16)) <|
  if (I a0 1) ≤ (680 : Int32) then (
    (f_X11_putFour N R a0 a1 I).bind fun p3 =>
    (f_X11_putFour N R a0 a2 p3.2).bind fun p4 =>
    (f_X11_putFour N R a0 a3 p4.2).bind fun p5 =>
    (f_X11_putFour N R a0 a4 p5.2).bind fun p6 =>
    (f_X11_putFour N R a0 a5 p6.2).bind fun p7 =>
    some ((p7.2 a0 1), p7.2))
  else (
    some ((-1 : Int32), I))
set_option maxHeartbeats 4000000 in
set_option maxRecDepth 100000 in
theorem w_X11_feed {l : Launch} (N : Nat) (R : Nat → Nat → Nat) : ∀ (a0 : Nat) (a1 : Int32) (a2 : Int32) (a3 : Int32) (a4 : Int32) (a5 : Int32) (I : (Nat → Nat → Int32)) (y : (Int32 × (Nat → Nat → Int32))), f_X11_feed N R a0 a1 a2 a3 a4 a5 I = some y → sm_W l 1 mX11_feed 0 [(0, .inr (.inl a0)), (1, .inl a1), (2, .inl a2), (3, .inl a3), (4, .inl a4), (5, .inl a5)] [] (I, R) (.inl (some (.inl y.1))) (y.2, R) := by
  intro a0 a1 a2 a3 a4 a5 I y h
  unfold f_X11_feed at h
  refine sm_aload_n (q := 1) dX11_feed_0 rfl rfl 0 rfl ?_
  obtain ⟨hc1, h⟩ := sm_gd_e h
  refine sm_getI (q := 4) dX11_feed_1 rfl fk_X11_93 hc1 (by decide) (by decide) ?_
  refine sm_sipush (v := 680) (q := 7) dX11_feed_4 rfl (by decide) ?_
  rcases sm_if_e h with ⟨hb2, h⟩ | ⟨hb2, h⟩
  · refine sm_icmp_le (tgt := 12) (q := 10) dX11_feed_7 (by decide) rfl (fun _ => ?_) (fun hn => absurd hb2 hn)
    refine sm_aload_n (q := 13) dX11_feed_12 rfl rfl 0 rfl ?_
    refine sm_iload_n (q := 14) dX11_feed_13 rfl rfl 1 rfl ?_
    obtain ⟨p3, hc_p3, h⟩ := sm_bd_e h
    refine sm_callVv (q := 17) (As := [.inl a1]) (S := []) (e_X11_putFour hc_p3) mv_X11_96 hc1 rfl (by decide) (Nat.le_of_ble_eq_true rfl) dX11_feed_14 rfl ?_
    refine sm_aload_n (q := 18) dX11_feed_17 rfl rfl 0 rfl ?_
    refine sm_iload_n (q := 19) dX11_feed_18 rfl rfl 2 rfl ?_
    obtain ⟨p4, hc_p4, h⟩ := sm_bd_e h
    refine sm_callVv (q := 22) (As := [.inl a2]) (S := []) (e_X11_putFour hc_p4) mv_X11_96 hc1 rfl (by decide) (Nat.le_of_ble_eq_true rfl) dX11_feed_19 rfl ?_
    refine sm_aload_n (q := 23) dX11_feed_22 rfl rfl 0 rfl ?_
    refine sm_iload_n (q := 24) dX11_feed_23 rfl rfl 3 rfl ?_
    obtain ⟨p5, hc_p5, h⟩ := sm_bd_e h
    refine sm_callVv (q := 27) (As := [.inl a3]) (S := []) (e_X11_putFour hc_p5) mv_X11_96 hc1 rfl (by decide) (Nat.le_of_ble_eq_true rfl) dX11_feed_24 rfl ?_
    refine sm_aload_n (q := 28) dX11_feed_27 rfl rfl 0 rfl ?_
    refine sm_iload (q := 30) dX11_feed_28 rfl 4 rfl ?_
    obtain ⟨p6, hc_p6, h⟩ := sm_bd_e h
    refine sm_callVv (q := 33) (As := [.inl a4]) (S := []) (e_X11_putFour hc_p6) mv_X11_96 hc1 rfl (by decide) (Nat.le_of_ble_eq_true rfl) dX11_feed_30 rfl ?_
    refine sm_aload_n (q := 34) dX11_feed_33 rfl rfl 0 rfl ?_
    refine sm_iload (q := 36) dX11_feed_34 rfl 5 rfl ?_
    obtain ⟨p7, hc_p7, h⟩ := sm_bd_e h
    refine sm_callVv (q := 39) (As := [.inl a5]) (S := []) (e_X11_putFour hc_p7) mv_X11_96 hc1 rfl (by decide) (Nat.le_of_ble_eq_true rfl) dX11_feed_36 rfl ?_
    refine sm_aload_n (q := 40) dX11_feed_39 rfl rfl 0 rfl ?_
    refine sm_getI (q := 43) dX11_feed_40 rfl fk_X11_93 hc1 (by decide) (by decide) ?_
    obtain rfl := Option.some.inj h
    exact sm_iret dX11_feed_43 rfl
  · refine sm_icmp_le (tgt := 12) (q := 10) dX11_feed_7 (by decide) rfl (fun ht => absurd ht hb2) (fun _ => ?_)
    refine sm_iconst (v := -1) (q := 11) dX11_feed_10 rfl (by decide) ?_
    obtain rfl := Option.some.inj h
    exact sm_iret dX11_feed_11 rfl
theorem e_X11_feed {l : Launch} {N : Nat} {R : Nat → Nat → Nat} {a0 : Nat} {a1 : Int32} {a2 : Int32} {a3 : Int32} {a4 : Int32} {a5 : Int32} {I : (Nat → Nat → Int32)} {y : (Int32 × (Nat → Nat → Int32))} (h : f_X11_feed N R a0 a1 a2 a3 a4 a5 I = some y) : sm_E l 1 mX11_feed [.inr (.inl a0), .inl a1, .inl a2, .inl a3, .inl a4, .inl a5] (I, R) (.inl (some (.inl y.1))) (y.2, R) :=
  sm_meth (by decide) (Nat.le_of_ble_eq_true rfl) (w_X11_feed N R a0 a1 a2 a3 a4 a5 I y h)
def f_X11_school (N : Nat) : Nat → Int32 → sm_M → Option ((Int32 ⊕ String) × sm_M) := fun a0 a1 M9 =>
  if a1 < 0 then (
    some (.inr "java/lang/IllegalArgumentException", (M9.1, M9.2)))
  else (
    sm_gd (sm_kd a0 = (11, 16)) <|
    if a1 ≤ (M9.1 a0 1) then (
      sm_lt (sm_up M9.1 a0 (sm_up (M9.1 a0) 1 (0 : Int32))) fun I4 =>
      sm_gd (sm_kd (M9.2 a0 0) = (5, 11)) <|
      (f_X5_readSchool N M9.2 (M9.2 a0 0) a1 I4).bind fun p6 =>
      sm_lt (sm_up p6.2 a0 (sm_up (p6.2 a0) 2 (p6.2 (M9.2 a0 0) 9))) fun I7 =>
      if (I7 (M9.2 a0 0) 8) = 0 then (
        sm_lt (sm_up M9.2 a0 (sm_up (M9.2 a0) 3 (M9.2 (M9.2 a0 0) 2))) fun Q9 =>
        sm_gd (sm_kd (Q9 a0 0) = (5, 11)) <|
        sm_lt (sm_up Q9 (Q9 a0 0) (sm_up (Q9 (Q9 a0 0)) 2 (M9.2 a0 3))) fun Q11 =>
        sm_gd (sm_kd (Q11 a0 4) = (0, 3)) <|
        (f_X0_clear N Q11 (Q11 a0 4) I7).bind fun p13 =>
        sm_gd (sm_kd (Q11 a0 5) = (9, 4)) <|
        (f_X9_clear N Q11 (Q11 a0 5) p13.2).bind fun p15 =>
        sm_gd (sm_kd (Q11 a0 7) = (3, 5)) <|
        sm_lt (sm_up p15.2 (Q11 a0 7) (sm_up (p15.2 (Q11 a0 7)) 0 (0 : Int32))) fun I17 =>
        some (.inl (0 : Int32), (I17, Q11)))
      else (
        sm_gd ((sm_kd (M9.2 a0 6)).1 = 13 ∧ ¬ ((0 : Int32) < 0 ∨ (sm_kd (M9.2 a0 6)).2 ≤ ((0 : Int32)).toNatClampNeg)) <|
        sm_lt (sm_up I7 (M9.2 a0 6) (sm_up (I7 (M9.2 a0 6)) ((0 : Int32)).toNatClampNeg ((I7 (M9.2 a0 6) ((0 : Int32)).toNatClampNeg) + (1 : Int32)))) fun I19 =>
        some (.inl (I19 (M9.2 a0 0) 8), (I19, M9.2))))
    else (
      some (.inr "java/lang/IllegalArgumentException", (M9.1, M9.2))))
set_option maxHeartbeats 4000000 in
set_option maxRecDepth 100000 in
theorem w_X11_school {l : Launch} (hl : l.stackTraces = false) (N : Nat) : ∀ (a0 : Nat) (a1 : Int32) (M9 : sm_M) (y : ((Int32 ⊕ String) × sm_M)), f_X11_school N a0 a1 M9 = some y → sm_W l 74 mX11_school 0 [(0, .inr (.inl a0)), (1, .inl a1)] [] M9 (sm_oI y.1) y.2 := by
  intro a0 a1 M9 y h
  unfold f_X11_school at h
  refine sm_iload_n (q := 1) dX11_school_0 rfl rfl 1 rfl ?_
  rcases sm_if_e h with ⟨hb1, h⟩ | ⟨hb1, h⟩
  · refine sm_if_lt (tgt := 12) (q := 4) dX11_school_1 (by decide) rfl (fun _ => ?_) (fun hn => absurd hb1 hn)
    obtain rfl := Option.some.inj h
    exact sm_throw (tx := "the tape has not so many bytes") (j := 0) hl (by decide +kernel) (by decide +kernel) (by decide +kernel) (by decide) bxI_0 bxI_1 bxI_2 bxI_5 cl_X11_104 in_IAE (List.mem_of_getElem? (i := 0) rfl) th_X11_108 tg_X11_104_108 (Nat.le_of_ble_eq_true rfl) dX11_school_12 dX11_school_15 dX11_school_16 dX11_school_18 dX11_school_21
  · refine sm_if_lt (tgt := 12) (q := 4) dX11_school_1 (by decide) rfl (fun ht => absurd ht hb1) (fun _ => ?_)
    refine sm_iload_n (q := 5) dX11_school_4 rfl rfl 1 rfl ?_
    refine sm_aload_n (q := 6) dX11_school_5 rfl rfl 0 rfl ?_
    obtain ⟨hc2, h⟩ := sm_gd_e h
    refine sm_getI (q := 9) dX11_school_6 rfl fk_X11_93 hc2 (by decide) (by decide) ?_
    rcases sm_if_e h with ⟨hb3, h⟩ | ⟨hb3, h⟩
    · refine sm_icmp_le (tgt := 22) (q := 12) dX11_school_9 (by decide) rfl (fun _ => ?_) (fun hn => absurd hb3 hn)
      refine sm_aload_n (q := 23) dX11_school_22 rfl rfl 0 rfl ?_
      refine sm_iconst (v := 0) (q := 24) dX11_school_23 rfl (by decide) ?_
      obtain ⟨I4, hI4, h⟩ := sm_lt_e h
      refine sm_putI (q := 27) dX11_school_24 rfl fk_X11_93 hc2 (by decide) (by decide) ?_
      refine sm_memI hI4 ?_
      refine sm_aload_n (q := 28) dX11_school_27 rfl rfl 0 rfl ?_
      refine sm_getR (r := M9.2 a0 0) (q := 31) dX11_school_28 rfl fk_X11_10 hc2 (by decide) (by decide) rfl ?_
      refine sm_iload_n (q := 32) dX11_school_31 rfl rfl 1 rfl ?_
      obtain ⟨hc5, h⟩ := sm_gd_e h
      obtain ⟨p6, hc_p6, h⟩ := sm_bd_e h
      refine sm_callVv (q := 35) (As := [.inl a1]) (S := []) (e_X5_readSchool hc_p6) mv_X11_111 hc5 rfl (by decide) (Nat.le_of_ble_eq_true rfl) dX11_school_32 rfl ?_
      refine sm_aload_n (q := 36) dX11_school_35 rfl rfl 0 rfl ?_
      refine sm_aload_n (q := 37) dX11_school_36 rfl rfl 0 rfl ?_
      refine sm_getR (r := M9.2 a0 0) (q := 40) dX11_school_37 rfl fk_X11_10 hc2 (by decide) (by decide) rfl ?_
      refine sm_getI (q := 43) dX11_school_40 rfl fk_X11_114 hc5 (by decide) (by decide) ?_
      obtain ⟨I7, hI7, h⟩ := sm_lt_e h
      refine sm_putI (q := 46) dX11_school_43 rfl fk_X11_16 hc2 (by decide) (by decide) ?_
      refine sm_memI hI7 ?_
      refine sm_aload_n (q := 47) dX11_school_46 rfl rfl 0 rfl ?_
      refine sm_getR (r := M9.2 a0 0) (q := 50) dX11_school_47 rfl fk_X11_10 hc2 (by decide) (by decide) rfl ?_
      refine sm_getI (q := 53) dX11_school_50 rfl fk_X11_117 hc5 (by decide) (by decide) ?_
      rcases sm_if_e h with ⟨hb8, h⟩ | ⟨hb8, h⟩
      · refine sm_if_eq (tgt := 74) (q := 56) dX11_school_53 (by decide) rfl (fun _ => ?_) (fun hn => absurd hb8 hn)
        refine sm_aload_n (q := 75) dX11_school_74 rfl rfl 0 rfl ?_
        refine sm_getR (r := M9.2 a0 3) (q := 78) dX11_school_75 rfl fk_X11_23 hc2 (by decide) (by decide) rfl ?_
        refine sm_astore_n (L' := [(2, .inr (.inl (M9.2 a0 3))), (0, .inr (.inl a0)), (1, .inl a1)]) (q := 79) dX11_school_78 rfl rfl (by decide) rfl ?_
        refine sm_aload_n (q := 80) dX11_school_79 rfl rfl 1 rfl ?_
        refine sm_aload_n (q := 81) dX11_school_80 rfl rfl 1 rfl ?_
        refine sm_getR (r := M9.2 a0 0) (q := 84) dX11_school_81 rfl fk_X11_10 hc2 (by decide) (by decide) rfl ?_
        refine sm_getR (r := M9.2 (M9.2 a0 0) 2) (q := 87) dX11_school_84 rfl fk_X11_120 hc5 (by decide) (by decide) rfl ?_
        obtain ⟨Q9, hQ9, h⟩ := sm_lt_e h
        refine sm_putR (q := 90) dX11_school_87 rfl fk_X11_23 hc2 (by decide) (by decide) ?_
        refine sm_memR hQ9 ?_
        refine sm_aload_n (q := 91) dX11_school_90 rfl rfl 1 rfl ?_
        refine sm_getR (r := Q9 a0 0) (q := 94) dX11_school_91 rfl fk_X11_10 hc2 (by decide) (by decide) rfl ?_
        refine sm_aload_n (q := 95) dX11_school_94 rfl rfl 0 rfl ?_
        obtain ⟨hc10, h⟩ := sm_gd_e h
        obtain ⟨Q11, hQ11, h⟩ := sm_lt_e h
        refine sm_putR (q := 98) dX11_school_95 rfl fk_X11_120 hc10 (by decide) (by decide) ?_
        refine sm_memR hQ11 ?_
        refine sm_aload_n (q := 99) dX11_school_98 rfl rfl 1 rfl ?_
        refine sm_getR (r := Q11 a0 4) (q := 102) dX11_school_99 rfl fk_X11_30 hc2 (by decide) (by decide) rfl ?_
        obtain ⟨hc12, h⟩ := sm_gd_e h
        obtain ⟨p13, hc_p13, h⟩ := sm_bd_e h
        refine sm_callVv (q := 105) (As := []) (S := []) (e_X0_clear hc_p13) mv_X11_121 hc12 rfl (by decide) (Nat.le_of_ble_eq_true rfl) dX11_school_102 rfl ?_
        refine sm_aload_n (q := 106) dX11_school_105 rfl rfl 1 rfl ?_
        refine sm_getR (r := Q11 a0 5) (q := 109) dX11_school_106 rfl fk_X11_37 hc2 (by decide) (by decide) rfl ?_
        obtain ⟨hc14, h⟩ := sm_gd_e h
        obtain ⟨p15, hc_p15, h⟩ := sm_bd_e h
        refine sm_callVv (q := 112) (As := []) (S := []) (e_X9_clear hc_p15) mv_X11_124 hc14 rfl (by decide) (Nat.le_of_ble_eq_true rfl) dX11_school_109 rfl ?_
        refine sm_aload_n (q := 113) dX11_school_112 rfl rfl 1 rfl ?_
        refine sm_getR (r := Q11 a0 7) (q := 116) dX11_school_113 rfl fk_X11_48 hc2 (by decide) (by decide) rfl ?_
        refine sm_iconst (v := 0) (q := 117) dX11_school_116 rfl (by decide) ?_
        obtain ⟨hc16, h⟩ := sm_gd_e h
        obtain ⟨I17, hI17, h⟩ := sm_lt_e h
        refine sm_putZ (q := 120) dX11_school_117 rfl fk_X11_125 hc16 (by decide) (by decide) (by decide) ?_
        refine sm_memI hI17 ?_
        refine sm_iconst (v := 0) (q := 121) dX11_school_120 rfl (by decide) ?_
        obtain rfl := Option.some.inj h
        exact sm_iret dX11_school_121 rfl
      · refine sm_if_eq (tgt := 74) (q := 56) dX11_school_53 (by decide) rfl (fun ht => absurd ht hb8) (fun _ => ?_)
        refine sm_aload_n (q := 57) dX11_school_56 rfl rfl 0 rfl ?_
        refine sm_getR (r := M9.2 a0 6) (q := 60) dX11_school_57 rfl fk_X11_41 hc2 (by decide) (by decide) rfl ?_
        refine sm_iconst (v := 0) (q := 61) dX11_school_60 rfl (by decide) ?_
        refine sm_dup2 (q := 62) dX11_school_61 rfl rfl rfl ?_
        obtain ⟨hc18, h⟩ := sm_gd_e h
        refine sm_iald (n := (sm_kd (M9.2 a0 6)).2) (q := 63) dX11_school_62 rfl (Prod.ext hc18.1 rfl) hc18.2 ?_
        refine sm_iconst (v := 1) (q := 64) dX11_school_63 rfl (by decide) ?_
        refine sm_iadd (q := 65) dX11_school_64 rfl ?_
        obtain ⟨I19, hI19, h⟩ := sm_lt_e h
        refine sm_iast (n := (sm_kd (M9.2 a0 6)).2) (q := 66) dX11_school_65 rfl (Prod.ext hc18.1 rfl) hc18.2 ?_
        refine sm_memI hI19 ?_
        refine sm_aload_n (q := 67) dX11_school_66 rfl rfl 0 rfl ?_
        refine sm_getR (r := M9.2 a0 0) (q := 70) dX11_school_67 rfl fk_X11_10 hc2 (by decide) (by decide) rfl ?_
        refine sm_getI (q := 73) dX11_school_70 rfl fk_X11_117 hc5 (by decide) (by decide) ?_
        obtain rfl := Option.some.inj h
        exact sm_iret dX11_school_73 rfl
    · refine sm_icmp_le (tgt := 22) (q := 12) dX11_school_9 (by decide) rfl (fun ht => absurd ht hb3) (fun _ => ?_)
      obtain rfl := Option.some.inj h
      exact sm_throw (tx := "the tape has not so many bytes") (j := 0) hl (by decide +kernel) (by decide +kernel) (by decide +kernel) (by decide) bxI_0 bxI_1 bxI_2 bxI_5 cl_X11_104 in_IAE (List.mem_of_getElem? (i := 0) rfl) th_X11_108 tg_X11_104_108 (Nat.le_of_ble_eq_true rfl) dX11_school_12 dX11_school_15 dX11_school_16 dX11_school_18 dX11_school_21
theorem e_X11_school {l : Launch} (hl : l.stackTraces = false) {N : Nat} {a0 : Nat} {a1 : Int32} {M9 : sm_M} {y : ((Int32 ⊕ String) × sm_M)} (h : f_X11_school N a0 a1 M9 = some y) : sm_E l 74 mX11_school [.inr (.inl a0), .inl a1] M9 (sm_oI y.1) y.2 :=
  sm_meth (by decide) (Nat.le_of_ble_eq_true rfl) (w_X11_school hl N a0 a1 M9 y h)
theorem ek_X11_school {l : Launch} (hl : l.stackTraces = false) {N : Nat} {a0 : Nat} {a1 : Int32} {M9 : sm_M} {r : Int32} {J : sm_M} (h : f_X11_school N a0 a1 M9 = some (.inl r, J)) : sm_E l 74 mX11_school [.inr (.inl a0), .inl a1] M9 (.inl (some (.inl r))) J := by
  have h1 := e_X11_school (l := l) hl h
  exact h1
theorem ex_X11_school {l : Launch} (hl : l.stackTraces = false) {N : Nat} {a0 : Nat} {a1 : Int32} {M9 : sm_M} {E : String} {J : sm_M} (h : f_X11_school N a0 a1 M9 = some (.inr E, J)) : sm_E l 74 mX11_school [.inr (.inl a0), .inl a1] M9 (.inr E) J := by
  have h1 := e_X11_school (l := l) hl h
  exact h1
def f_X11_fault (N : Nat) (R : Nat → Nat → Nat) : Nat → (Nat → Nat → Int32) → Option (Int32 × (Nat → Nat → Int32)) := fun a0 I =>
  sm_gd (sm_kd a0 = (11, 16)) <|
  some ((I a0 2), I)
set_option maxHeartbeats 4000000 in
set_option maxRecDepth 100000 in
theorem w_X11_fault {l : Launch} (N : Nat) (R : Nat → Nat → Nat) : ∀ (a0 : Nat) (I : (Nat → Nat → Int32)) (y : (Int32 × (Nat → Nat → Int32))), f_X11_fault N R a0 I = some y → sm_W l 0 mX11_fault 0 [(0, .inr (.inl a0))] [] (I, R) (.inl (some (.inl y.1))) (y.2, R) := by
  intro a0 I y h
  unfold f_X11_fault at h
  refine sm_aload_n (q := 1) dX11_fault_0 rfl rfl 0 rfl ?_
  obtain ⟨hc1, h⟩ := sm_gd_e h
  refine sm_getI (q := 4) dX11_fault_1 rfl fk_X11_16 hc1 (by decide) (by decide) ?_
  obtain rfl := Option.some.inj h
  exact sm_iret dX11_fault_4 rfl
theorem e_X11_fault {l : Launch} {N : Nat} {R : Nat → Nat → Nat} {a0 : Nat} {I : (Nat → Nat → Int32)} {y : (Int32 × (Nat → Nat → Int32))} (h : f_X11_fault N R a0 I = some y) : sm_E l 0 mX11_fault [.inr (.inl a0)] (I, R) (.inl (some (.inl y.1))) (y.2, R) :=
  sm_meth (by decide) (Nat.le_of_ble_eq_true rfl) (w_X11_fault N R a0 I y h)
def f_X11_whoseIsDone_4 (N : Nat) (R : Nat → Nat → Nat) : Nat → Nat → Int32 → Int32 → (Nat → Nat → Int32) → Option (Int32 × (Nat → Nat → Int32))
  | 0, _, _, _, _ => none
  | n + 1, a0, a1, a2, I =>
    sm_gd (sm_kd a0 = (11, 16)) <|
    sm_gd (sm_kd (R a0 3) = (7, 9)) <|
    sm_gd (sm_kd (R (R a0 3) 5) = (10, 4)) <|
    if (I (R (R a0 3) 5) 1) ≤ a2 then (
      some (a1, I))
    else (
      sm_gd ((sm_kd (R (R (R a0 3) 5) 0)).1 = 16 ∧ ¬ (a2 < 0 ∨ (sm_kd (R (R (R a0 3) 5) 0)).2 ≤ (a2).toNatClampNeg)) <|
      (f_X7_isDone N R (R a0 3) (R (R (R (R a0 3) 5) 0) (a2).toNatClampNeg) I).bind fun p6 =>
      if p6.1 = 0 then (
        f_X11_whoseIsDone_4 N R n a0 a1 (a2 + 1) p6.2)
      else (
        f_X11_whoseIsDone_4 N R n a0 (a1 ||| ((1 : Int32) <<< (a2 &&& 31))) (a2 + 1) p6.2))
def f_X11_whoseIsDone (N : Nat) (R : Nat → Nat → Nat) : Nat → (Nat → Nat → Int32) → Option (Int32 × (Nat → Nat → Int32)) := fun a0 I =>
  f_X11_whoseIsDone_4 N R N a0 (0 : Int32) (0 : Int32) I
set_option maxHeartbeats 4000000 in
set_option maxRecDepth 100000 in
theorem w_X11_whoseIsDone_4 {l : Launch} (N : Nat) (R : Nat → Nat → Nat) : ∀ (n : Nat) (a0 : Nat) (a1 : Int32) (a2 : Int32) (I : (Nat → Nat → Int32)) (y : (Int32 × (Nat → Nat → Int32))), f_X11_whoseIsDone_4 N R n a0 a1 a2 I = some y → sm_W l 2 mX11_whoseIsDone 4 [(0, .inr (.inl a0)), (1, .inl a1), (2, .inl a2)] [] (I, R) (.inl (some (.inl y.1))) (y.2, R) := by
  intro n
  induction n with
  | zero => intro a0 a1 a2 I y h; cases h
  | succ n ih =>
    intro a0 a1 a2 I y h
    rw [f_X11_whoseIsDone_4] at h
    refine sm_iload_n (q := 5) dX11_whoseIsDone_4 rfl rfl 2 rfl ?_
    refine sm_aload_n (q := 6) dX11_whoseIsDone_5 rfl rfl 0 rfl ?_
    obtain ⟨hc1, h⟩ := sm_gd_e h
    refine sm_getR (r := R a0 3) (q := 9) dX11_whoseIsDone_6 rfl fk_X11_23 hc1 (by decide) (by decide) rfl ?_
    obtain ⟨hc2, h⟩ := sm_gd_e h
    refine sm_getR (r := R (R a0 3) 5) (q := 12) dX11_whoseIsDone_9 rfl fk_X11_132 hc2 (by decide) (by decide) rfl ?_
    obtain ⟨hc3, h⟩ := sm_gd_e h
    refine sm_getI (q := 15) dX11_whoseIsDone_12 rfl fk_X11_135 hc3 (by decide) (by decide) ?_
    rcases sm_if_e h with ⟨hb4, h⟩ | ⟨hb4, h⟩
    · refine sm_icmp_ge (tgt := 52) (q := 18) dX11_whoseIsDone_15 (by decide) rfl (fun _ => ?_) (fun hn => absurd hb4 hn)
      refine sm_iload_n (q := 53) dX11_whoseIsDone_52 rfl rfl 1 rfl ?_
      obtain rfl := Option.some.inj h
      exact sm_iret dX11_whoseIsDone_53 rfl
    · refine sm_icmp_ge (tgt := 52) (q := 18) dX11_whoseIsDone_15 (by decide) rfl (fun ht => absurd ht hb4) (fun _ => ?_)
      refine sm_aload_n (q := 19) dX11_whoseIsDone_18 rfl rfl 0 rfl ?_
      refine sm_getR (r := R a0 3) (q := 22) dX11_whoseIsDone_19 rfl fk_X11_23 hc1 (by decide) (by decide) rfl ?_
      refine sm_aload_n (q := 23) dX11_whoseIsDone_22 rfl rfl 0 rfl ?_
      refine sm_getR (r := R a0 3) (q := 26) dX11_whoseIsDone_23 rfl fk_X11_23 hc1 (by decide) (by decide) rfl ?_
      refine sm_getR (r := R (R a0 3) 5) (q := 29) dX11_whoseIsDone_26 rfl fk_X11_132 hc2 (by decide) (by decide) rfl ?_
      refine sm_getR (r := R (R (R a0 3) 5) 0) (q := 32) dX11_whoseIsDone_29 rfl fk_X11_165 hc3 (by decide) (by decide) rfl ?_
      refine sm_iload_n (q := 33) dX11_whoseIsDone_32 rfl rfl 2 rfl ?_
      obtain ⟨hc5, h⟩ := sm_gd_e h
      refine sm_aald (t := 3) (n := (sm_kd (R (R (R a0 3) 5) 0)).2) (q := 34) dX11_whoseIsDone_33 rfl (Prod.ext hc5.1 rfl) (Or.inl ⟨rfl, rfl⟩) hc5.2 rfl ?_
      obtain ⟨p6, hc_p6, h⟩ := sm_bd_e h
      refine sm_callVi (q := 37) (As := [.inr (.inl (R (R (R (R a0 3) 5) 0) (a2).toNatClampNeg))]) (S := []) (e_X7_isDone hc_p6) mv_X11_169 hc2 rfl (by decide) (Nat.le_of_ble_eq_true rfl) dX11_whoseIsDone_34 rfl ?_
      rcases sm_if_e h with ⟨hb7, h⟩ | ⟨hb7, h⟩
      · refine sm_if_eq (tgt := 46) (q := 40) dX11_whoseIsDone_37 (by decide) rfl (fun _ => ?_) (fun hn => absurd hb7 hn)
        refine sm_iinc (v := (a2 + 1)) (L' := [(2, .inl (a2 + 1)), (0, .inr (.inl a0)), (1, .inl a1)]) (q := 49) dX11_whoseIsDone_46 rfl 2 rfl rfl (by decide) rfl ?_
        refine sm_goto (q := 4) dX11_whoseIsDone_49 (by decide) ?_
        refine sm_pick [1, 2, 0] rfl ?_
        exact ih _ _ _ _ _ h
      · refine sm_if_eq (tgt := 46) (q := 40) dX11_whoseIsDone_37 (by decide) rfl (fun ht => absurd ht hb7) (fun _ => ?_)
        refine sm_iload_n (q := 41) dX11_whoseIsDone_40 rfl rfl 1 rfl ?_
        refine sm_iconst (v := 1) (q := 42) dX11_whoseIsDone_41 rfl (by decide) ?_
        refine sm_iload_n (q := 43) dX11_whoseIsDone_42 rfl rfl 2 rfl ?_
        refine sm_ishl (q := 44) dX11_whoseIsDone_43 rfl ?_
        refine sm_ior (q := 45) dX11_whoseIsDone_44 rfl ?_
        refine sm_istore_n (L' := [(1, .inl (a1 ||| ((1 : Int32) <<< (a2 &&& 31)))), (0, .inr (.inl a0)), (2, .inl a2)]) (q := 46) dX11_whoseIsDone_45 rfl rfl (by decide) rfl ?_
        refine sm_iinc (v := (a2 + 1)) (L' := [(2, .inl (a2 + 1)), (1, .inl (a1 ||| ((1 : Int32) <<< (a2 &&& 31)))), (0, .inr (.inl a0))]) (q := 49) dX11_whoseIsDone_46 rfl 2 rfl rfl (by decide) rfl ?_
        refine sm_goto (q := 4) dX11_whoseIsDone_49 (by decide) ?_
        refine sm_pick [2, 1, 0] rfl ?_
        exact ih _ _ _ _ _ h
set_option maxHeartbeats 4000000 in
set_option maxRecDepth 100000 in
theorem w_X11_whoseIsDone {l : Launch} (N : Nat) (R : Nat → Nat → Nat) : ∀ (a0 : Nat) (I : (Nat → Nat → Int32)) (y : (Int32 × (Nat → Nat → Int32))), f_X11_whoseIsDone N R a0 I = some y → sm_W l 2 mX11_whoseIsDone 0 [(0, .inr (.inl a0))] [] (I, R) (.inl (some (.inl y.1))) (y.2, R) := by
  intro a0 I y h
  unfold f_X11_whoseIsDone at h
  refine sm_iconst (v := 0) (q := 1) dX11_whoseIsDone_0 rfl (by decide) ?_
  refine sm_istore_n (L' := [(1, .inl (0 : Int32)), (0, .inr (.inl a0))]) (q := 2) dX11_whoseIsDone_1 rfl rfl (by decide) rfl ?_
  refine sm_iconst (v := 0) (q := 3) dX11_whoseIsDone_2 rfl (by decide) ?_
  refine sm_istore_n (L' := [(2, .inl (0 : Int32)), (1, .inl (0 : Int32)), (0, .inr (.inl a0))]) (q := 4) dX11_whoseIsDone_3 rfl rfl (by decide) rfl ?_
  refine sm_pick [2, 1, 0] rfl ?_
  exact w_X11_whoseIsDone_4 N R N _ _ _ _ _ h
theorem e_X11_whoseIsDone {l : Launch} {N : Nat} {R : Nat → Nat → Nat} {a0 : Nat} {I : (Nat → Nat → Int32)} {y : (Int32 × (Nat → Nat → Int32))} (h : f_X11_whoseIsDone N R a0 I = some y) : sm_E l 2 mX11_whoseIsDone [.inr (.inl a0)] (I, R) (.inl (some (.inl y.1))) (y.2, R) :=
  sm_meth (by decide) (Nat.le_of_ble_eq_true rfl) (w_X11_whoseIsDone N R a0 I y h)
def f_X11_count (N : Nat) (R : Nat → Nat → Nat) : Nat → Int32 → (Nat → Nat → Int32) → Option ((Int32 ⊕ String) × (Nat → Nat → Int32)) := fun a0 a1 I =>
  if a1 = 0 then (
    sm_gd (sm_kd a0 = (11, 16)) <|
    sm_gd (sm_kd (R a0 3) = (7, 9)) <|
    some (.inl (I (R a0 3) 3), I))
  else (
    if a1 = 1 then (
      sm_gd (sm_kd a0 = (11, 16)) <|
      sm_gd (sm_kd (R a0 3) = (7, 9)) <|
      sm_gd (sm_kd (R (R a0 3) 5) = (10, 4)) <|
      some (.inl (I (R (R a0 3) 5) 1), I))
    else (
      if a1 = 2 then (
        sm_gd (sm_kd a0 = (11, 16)) <|
        sm_gd (sm_kd (R a0 3) = (7, 9)) <|
        sm_gd (sm_kd (R (R a0 3) 5) = (10, 4)) <|
        some (.inl (I (R (R a0 3) 5) 3), I))
      else (
        if a1 = 3 then (
          sm_gd (sm_kd a0 = (11, 16)) <|
          sm_gd (sm_kd (R a0 3) = (7, 9)) <|
          sm_gd (sm_kd (R (R a0 3) 5) = (10, 4)) <|
          some (.inl (I (R (R a0 3) 5) 2), I))
        else (
          if a1 = 4 then (
            sm_gd (sm_kd a0 = (11, 16)) <|
            sm_gd (sm_kd (R a0 3) = (7, 9)) <|
            sm_gd (sm_kd (R (R a0 3) 5) = (10, 4)) <|
            (f_X10_awayIn N R (R (R a0 3) 5) (1 : Int32) I).bind fun p20 =>
            some (.inl p20.1, p20.2))
          else (
            if a1 = 5 then (
              sm_gd (sm_kd a0 = (11, 16)) <|
              (f_X11_whoseIsDone N R a0 I).bind fun p23 =>
              some (.inl p23.1, p23.2))
            else (
              if a1 = 6 then (
                sm_gd (sm_kd a0 = (11, 16)) <|
                sm_gd (sm_kd (R a0 3) = (7, 9)) <|
                sm_gd (sm_kd (R (R a0 3) 5) = (10, 4)) <|
                (f_X10_skillOfAll N R (R (R a0 3) 5) I).bind fun p28 =>
                some (.inl p28.1, p28.2))
              else (
                if a1 = 7 then (
                  sm_gd (sm_kd a0 = (11, 16)) <|
                  sm_gd (sm_kd (R a0 4) = (0, 3)) <|
                  some (.inl (I (R a0 4) 2), I))
                else (
                  if a1 = 8 then (
                    sm_gd (sm_kd a0 = (11, 16)) <|
                    sm_gd (sm_kd (R a0 5) = (9, 4)) <|
                    some (.inl (I (R a0 5) 3), I))
                  else (
                    if a1 = 9 then (
                      sm_gd (sm_kd a0 = (11, 16)) <|
                      some (.inl (I a0 1), I))
                    else (
                      if a1 = 10 then (
                        sm_gd (sm_kd a0 = (11, 16)) <|
                        sm_gd ((sm_kd (R a0 6)).1 = 13 ∧ ¬ ((0 : Int32) < 0 ∨ (sm_kd (R a0 6)).2 ≤ ((0 : Int32)).toNatClampNeg)) <|
                        some (.inl (I (R a0 6) ((0 : Int32)).toNatClampNeg), I))
                      else (
                        if a1 = 11 then (
                          sm_gd (sm_kd a0 = (11, 16)) <|
                          sm_gd ((sm_kd (R a0 6)).1 = 13 ∧ ¬ ((1 : Int32) < 0 ∨ (sm_kd (R a0 6)).2 ≤ ((1 : Int32)).toNatClampNeg)) <|
                          some (.inl (I (R a0 6) ((1 : Int32)).toNatClampNeg), I))
                        else (
                          if a1 = 12 then (
                            sm_gd (sm_kd a0 = (11, 16)) <|
                            sm_gd ((sm_kd (R a0 6)).1 = 13 ∧ ¬ ((2 : Int32) < 0 ∨ (sm_kd (R a0 6)).2 ≤ ((2 : Int32)).toNatClampNeg)) <|
                            some (.inl (I (R a0 6) ((2 : Int32)).toNatClampNeg), I))
                          else (
                            some (.inr "java/util/NoSuchElementException", I))))))))))))))
set_option maxHeartbeats 4000000 in
set_option maxRecDepth 100000 in
theorem w_X11_count {l : Launch} (hl : l.stackTraces = false) (N : Nat) (R : Nat → Nat → Nat) : ∀ (a0 : Nat) (a1 : Int32) (I : (Nat → Nat → Int32)) (y : ((Int32 ⊕ String) × (Nat → Nat → Int32))), f_X11_count N R a0 a1 I = some y → sm_W l 3 mX11_count 0 [(0, .inr (.inl a0)), (1, .inl a1)] [] (I, R) (sm_oI y.1) (y.2, R) := by
  intro a0 a1 I y h
  unfold f_X11_count at h
  refine sm_iload_n (q := 1) dX11_count_0 rfl rfl 1 rfl ?_
  rcases sm_if_e h with ⟨hb1, h⟩ | ⟨hb1, h⟩
  · refine sm_tableIn (q := 68) (off := 67) dX11_count_1 (by rw [hb1]; decide) (by rw [hb1]; decide) (by rw [hb1]; decide) (by decide) ?_
    refine sm_aload_n (q := 69) dX11_count_68 rfl rfl 0 rfl ?_
    obtain ⟨hc2, h⟩ := sm_gd_e h
    refine sm_getR (r := R a0 3) (q := 72) dX11_count_69 rfl fk_X11_23 hc2 (by decide) (by decide) rfl ?_
    obtain ⟨hc3, h⟩ := sm_gd_e h
    refine sm_getI (q := 75) dX11_count_72 rfl fk_X11_129 hc3 (by decide) (by decide) ?_
    obtain rfl := Option.some.inj h
    exact sm_iret dX11_count_75 rfl
  · rcases sm_if_e h with ⟨hb4, h⟩ | ⟨hb4, h⟩
    · refine sm_tableIn (q := 76) (off := 75) dX11_count_1 (by rw [hb4]; decide) (by rw [hb4]; decide) (by rw [hb4]; decide) (by decide) ?_
      refine sm_aload_n (q := 77) dX11_count_76 rfl rfl 0 rfl ?_
      obtain ⟨hc5, h⟩ := sm_gd_e h
      refine sm_getR (r := R a0 3) (q := 80) dX11_count_77 rfl fk_X11_23 hc5 (by decide) (by decide) rfl ?_
      obtain ⟨hc6, h⟩ := sm_gd_e h
      refine sm_getR (r := R (R a0 3) 5) (q := 83) dX11_count_80 rfl fk_X11_132 hc6 (by decide) (by decide) rfl ?_
      obtain ⟨hc7, h⟩ := sm_gd_e h
      refine sm_getI (q := 86) dX11_count_83 rfl fk_X11_135 hc7 (by decide) (by decide) ?_
      obtain rfl := Option.some.inj h
      exact sm_iret dX11_count_86 rfl
    · rcases sm_if_e h with ⟨hb8, h⟩ | ⟨hb8, h⟩
      · refine sm_tableIn (q := 87) (off := 86) dX11_count_1 (by rw [hb8]; decide) (by rw [hb8]; decide) (by rw [hb8]; decide) (by decide) ?_
        refine sm_aload_n (q := 88) dX11_count_87 rfl rfl 0 rfl ?_
        obtain ⟨hc9, h⟩ := sm_gd_e h
        refine sm_getR (r := R a0 3) (q := 91) dX11_count_88 rfl fk_X11_23 hc9 (by decide) (by decide) rfl ?_
        obtain ⟨hc10, h⟩ := sm_gd_e h
        refine sm_getR (r := R (R a0 3) 5) (q := 94) dX11_count_91 rfl fk_X11_132 hc10 (by decide) (by decide) rfl ?_
        obtain ⟨hc11, h⟩ := sm_gd_e h
        refine sm_getI (q := 97) dX11_count_94 rfl fk_X11_138 hc11 (by decide) (by decide) ?_
        obtain rfl := Option.some.inj h
        exact sm_iret dX11_count_97 rfl
      · rcases sm_if_e h with ⟨hb12, h⟩ | ⟨hb12, h⟩
        · refine sm_tableIn (q := 98) (off := 97) dX11_count_1 (by rw [hb12]; decide) (by rw [hb12]; decide) (by rw [hb12]; decide) (by decide) ?_
          refine sm_aload_n (q := 99) dX11_count_98 rfl rfl 0 rfl ?_
          obtain ⟨hc13, h⟩ := sm_gd_e h
          refine sm_getR (r := R a0 3) (q := 102) dX11_count_99 rfl fk_X11_23 hc13 (by decide) (by decide) rfl ?_
          obtain ⟨hc14, h⟩ := sm_gd_e h
          refine sm_getR (r := R (R a0 3) 5) (q := 105) dX11_count_102 rfl fk_X11_132 hc14 (by decide) (by decide) rfl ?_
          obtain ⟨hc15, h⟩ := sm_gd_e h
          refine sm_getI (q := 108) dX11_count_105 rfl fk_X11_141 hc15 (by decide) (by decide) ?_
          obtain rfl := Option.some.inj h
          exact sm_iret dX11_count_108 rfl
        · rcases sm_if_e h with ⟨hb16, h⟩ | ⟨hb16, h⟩
          · refine sm_tableIn (q := 109) (off := 108) dX11_count_1 (by rw [hb16]; decide) (by rw [hb16]; decide) (by rw [hb16]; decide) (by decide) ?_
            refine sm_aload_n (q := 110) dX11_count_109 rfl rfl 0 rfl ?_
            obtain ⟨hc17, h⟩ := sm_gd_e h
            refine sm_getR (r := R a0 3) (q := 113) dX11_count_110 rfl fk_X11_23 hc17 (by decide) (by decide) rfl ?_
            obtain ⟨hc18, h⟩ := sm_gd_e h
            refine sm_getR (r := R (R a0 3) 5) (q := 116) dX11_count_113 rfl fk_X11_132 hc18 (by decide) (by decide) rfl ?_
            refine sm_iconst (v := 1) (q := 117) dX11_count_116 rfl (by decide) ?_
            obtain ⟨hc19, h⟩ := sm_gd_e h
            obtain ⟨p20, hc_p20, h⟩ := sm_bd_e h
            refine sm_callVi (q := 120) (As := [.inl (1 : Int32)]) (S := []) (e_X10_awayIn hc_p20) mv_X11_144 hc19 rfl (by decide) (Nat.le_of_ble_eq_true rfl) dX11_count_117 rfl ?_
            obtain rfl := Option.some.inj h
            exact sm_iret dX11_count_120 rfl
          · rcases sm_if_e h with ⟨hb21, h⟩ | ⟨hb21, h⟩
            · refine sm_tableIn (q := 121) (off := 120) dX11_count_1 (by rw [hb21]; decide) (by rw [hb21]; decide) (by rw [hb21]; decide) (by decide) ?_
              refine sm_aload_n (q := 122) dX11_count_121 rfl rfl 0 rfl ?_
              obtain ⟨hc22, h⟩ := sm_gd_e h
              obtain ⟨p23, hc_p23, h⟩ := sm_bd_e h
              refine sm_callVi (q := 125) (As := []) (S := []) (e_X11_whoseIsDone hc_p23) mv_X11_148 hc22 rfl (by decide) (Nat.le_of_ble_eq_true rfl) dX11_count_122 rfl ?_
              obtain rfl := Option.some.inj h
              exact sm_iret dX11_count_125 rfl
            · rcases sm_if_e h with ⟨hb24, h⟩ | ⟨hb24, h⟩
              · refine sm_tableIn (q := 126) (off := 125) dX11_count_1 (by rw [hb24]; decide) (by rw [hb24]; decide) (by rw [hb24]; decide) (by decide) ?_
                refine sm_aload_n (q := 127) dX11_count_126 rfl rfl 0 rfl ?_
                obtain ⟨hc25, h⟩ := sm_gd_e h
                refine sm_getR (r := R a0 3) (q := 130) dX11_count_127 rfl fk_X11_23 hc25 (by decide) (by decide) rfl ?_
                obtain ⟨hc26, h⟩ := sm_gd_e h
                refine sm_getR (r := R (R a0 3) 5) (q := 133) dX11_count_130 rfl fk_X11_132 hc26 (by decide) (by decide) rfl ?_
                obtain ⟨hc27, h⟩ := sm_gd_e h
                obtain ⟨p28, hc_p28, h⟩ := sm_bd_e h
                refine sm_callVi (q := 136) (As := []) (S := []) (e_X10_skillOfAll hc_p28) mv_X11_152 hc27 rfl (by decide) (Nat.le_of_ble_eq_true rfl) dX11_count_133 rfl ?_
                obtain rfl := Option.some.inj h
                exact sm_iret dX11_count_136 rfl
              · rcases sm_if_e h with ⟨hb29, h⟩ | ⟨hb29, h⟩
                · refine sm_tableIn (q := 137) (off := 136) dX11_count_1 (by rw [hb29]; decide) (by rw [hb29]; decide) (by rw [hb29]; decide) (by decide) ?_
                  refine sm_aload_n (q := 138) dX11_count_137 rfl rfl 0 rfl ?_
                  obtain ⟨hc30, h⟩ := sm_gd_e h
                  refine sm_getR (r := R a0 4) (q := 141) dX11_count_138 rfl fk_X11_30 hc30 (by decide) (by decide) rfl ?_
                  obtain ⟨hc31, h⟩ := sm_gd_e h
                  refine sm_getI (q := 144) dX11_count_141 rfl fk_X11_155 hc31 (by decide) (by decide) ?_
                  obtain rfl := Option.some.inj h
                  exact sm_iret dX11_count_144 rfl
                · rcases sm_if_e h with ⟨hb32, h⟩ | ⟨hb32, h⟩
                  · refine sm_tableIn (q := 145) (off := 144) dX11_count_1 (by rw [hb32]; decide) (by rw [hb32]; decide) (by rw [hb32]; decide) (by decide) ?_
                    refine sm_aload_n (q := 146) dX11_count_145 rfl rfl 0 rfl ?_
                    obtain ⟨hc33, h⟩ := sm_gd_e h
                    refine sm_getR (r := R a0 5) (q := 149) dX11_count_146 rfl fk_X11_37 hc33 (by decide) (by decide) rfl ?_
                    obtain ⟨hc34, h⟩ := sm_gd_e h
                    refine sm_getI (q := 152) dX11_count_149 rfl fk_X11_157 hc34 (by decide) (by decide) ?_
                    obtain rfl := Option.some.inj h
                    exact sm_iret dX11_count_152 rfl
                  · rcases sm_if_e h with ⟨hb35, h⟩ | ⟨hb35, h⟩
                    · refine sm_tableIn (q := 153) (off := 152) dX11_count_1 (by rw [hb35]; decide) (by rw [hb35]; decide) (by rw [hb35]; decide) (by decide) ?_
                      refine sm_aload_n (q := 154) dX11_count_153 rfl rfl 0 rfl ?_
                      obtain ⟨hc36, h⟩ := sm_gd_e h
                      refine sm_getI (q := 157) dX11_count_154 rfl fk_X11_93 hc36 (by decide) (by decide) ?_
                      obtain rfl := Option.some.inj h
                      exact sm_iret dX11_count_157 rfl
                    · rcases sm_if_e h with ⟨hb37, h⟩ | ⟨hb37, h⟩
                      · refine sm_tableIn (q := 158) (off := 157) dX11_count_1 (by rw [hb37]; decide) (by rw [hb37]; decide) (by rw [hb37]; decide) (by decide) ?_
                        refine sm_aload_n (q := 159) dX11_count_158 rfl rfl 0 rfl ?_
                        obtain ⟨hc38, h⟩ := sm_gd_e h
                        refine sm_getR (r := R a0 6) (q := 162) dX11_count_159 rfl fk_X11_41 hc38 (by decide) (by decide) rfl ?_
                        refine sm_iconst (v := 0) (q := 163) dX11_count_162 rfl (by decide) ?_
                        obtain ⟨hc39, h⟩ := sm_gd_e h
                        refine sm_iald (n := (sm_kd (R a0 6)).2) (q := 164) dX11_count_163 rfl (Prod.ext hc39.1 rfl) hc39.2 ?_
                        obtain rfl := Option.some.inj h
                        exact sm_iret dX11_count_164 rfl
                      · rcases sm_if_e h with ⟨hb40, h⟩ | ⟨hb40, h⟩
                        · refine sm_tableIn (q := 165) (off := 164) dX11_count_1 (by rw [hb40]; decide) (by rw [hb40]; decide) (by rw [hb40]; decide) (by decide) ?_
                          refine sm_aload_n (q := 166) dX11_count_165 rfl rfl 0 rfl ?_
                          obtain ⟨hc41, h⟩ := sm_gd_e h
                          refine sm_getR (r := R a0 6) (q := 169) dX11_count_166 rfl fk_X11_41 hc41 (by decide) (by decide) rfl ?_
                          refine sm_iconst (v := 1) (q := 170) dX11_count_169 rfl (by decide) ?_
                          obtain ⟨hc42, h⟩ := sm_gd_e h
                          refine sm_iald (n := (sm_kd (R a0 6)).2) (q := 171) dX11_count_170 rfl (Prod.ext hc42.1 rfl) hc42.2 ?_
                          obtain rfl := Option.some.inj h
                          exact sm_iret dX11_count_171 rfl
                        · rcases sm_if_e h with ⟨hb43, h⟩ | ⟨hb43, h⟩
                          · refine sm_tableIn (q := 172) (off := 171) dX11_count_1 (by rw [hb43]; decide) (by rw [hb43]; decide) (by rw [hb43]; decide) (by decide) ?_
                            refine sm_aload_n (q := 173) dX11_count_172 rfl rfl 0 rfl ?_
                            obtain ⟨hc44, h⟩ := sm_gd_e h
                            refine sm_getR (r := R a0 6) (q := 176) dX11_count_173 rfl fk_X11_41 hc44 (by decide) (by decide) rfl ?_
                            refine sm_iconst (v := 2) (q := 177) dX11_count_176 rfl (by decide) ?_
                            obtain ⟨hc45, h⟩ := sm_gd_e h
                            refine sm_iald (n := (sm_kd (R a0 6)).2) (q := 178) dX11_count_177 rfl (Prod.ext hc45.1 rfl) hc45.2 ?_
                            obtain rfl := Option.some.inj h
                            exact sm_iret dX11_count_178 rfl
                          · refine sm_tableOut (q := 179) dX11_count_1 (sm_sw (fun v h1 h2 he => (fun e => e.elim (fun e => hb1 (he.trans ((congrArg Int32.ofInt e).trans (by decide)))) (fun e => e.elim (fun e => hb4 (he.trans ((congrArg Int32.ofInt e).trans (by decide)))) (fun e => e.elim (fun e => hb8 (he.trans ((congrArg Int32.ofInt e).trans (by decide)))) (fun e => e.elim (fun e => hb12 (he.trans ((congrArg Int32.ofInt e).trans (by decide)))) (fun e => e.elim (fun e => hb16 (he.trans ((congrArg Int32.ofInt e).trans (by decide)))) (fun e => e.elim (fun e => hb21 (he.trans ((congrArg Int32.ofInt e).trans (by decide)))) (fun e => e.elim (fun e => hb24 (he.trans ((congrArg Int32.ofInt e).trans (by decide)))) (fun e => e.elim (fun e => hb29 (he.trans ((congrArg Int32.ofInt e).trans (by decide)))) (fun e => e.elim (fun e => hb32 (he.trans ((congrArg Int32.ofInt e).trans (by decide)))) (fun e => e.elim (fun e => hb35 (he.trans ((congrArg Int32.ofInt e).trans (by decide)))) (fun e => e.elim (fun e => hb37 (he.trans ((congrArg Int32.ofInt e).trans (by decide)))) (fun e => e.elim (fun e => hb40 (he.trans ((congrArg Int32.ofInt e).trans (by decide)))) (fun e => hb43 (he.trans ((congrArg Int32.ofInt e).trans (by decide)))))))))))))))) (show v = 0 ∨ v = 1 ∨ v = 2 ∨ v = 3 ∨ v = 4 ∨ v = 5 ∨ v = 6 ∨ v = 7 ∨ v = 8 ∨ v = 9 ∨ v = 10 ∨ v = 11 ∨ v = 12 by omega))) (by decide) ?_
                            obtain rfl := Option.some.inj h
                            exact sm_throw (tx := "no such count") (j := 16) hl (by decide +kernel) (by decide +kernel) (by decide +kernel) (by decide) bxN_0 bxN_1 bxN_2 bxN_5 cl_X11_160 in_NSE (List.mem_of_getElem? (i := 16) rfl) th_X11_164 tg_X11_160_164 (Nat.le_of_ble_eq_true rfl) dX11_count_179 dX11_count_182 dX11_count_183 dX11_count_185 dX11_count_188
theorem e_X11_count {l : Launch} (hl : l.stackTraces = false) {N : Nat} {R : Nat → Nat → Nat} {a0 : Nat} {a1 : Int32} {I : (Nat → Nat → Int32)} {y : ((Int32 ⊕ String) × (Nat → Nat → Int32))} (h : f_X11_count N R a0 a1 I = some y) : sm_E l 3 mX11_count [.inr (.inl a0), .inl a1] (I, R) (sm_oI y.1) (y.2, R) :=
  sm_meth (by decide) (Nat.le_of_ble_eq_true rfl) (w_X11_count hl N R a0 a1 I y h)
theorem ek_X11_count {l : Launch} (hl : l.stackTraces = false) {N : Nat} {R : Nat → Nat → Nat} {a0 : Nat} {a1 : Int32} {I : (Nat → Nat → Int32)} {r : Int32} {J : (Nat → Nat → Int32)} (h : f_X11_count N R a0 a1 I = some (.inl r, J)) : sm_E l 3 mX11_count [.inr (.inl a0), .inl a1] (I, R) (.inl (some (.inl r))) (J, R) := by
  have h1 := e_X11_count (l := l) hl h
  exact h1
theorem ex_X11_count {l : Launch} (hl : l.stackTraces = false) {N : Nat} {R : Nat → Nat → Nat} {a0 : Nat} {a1 : Int32} {I : (Nat → Nat → Int32)} {E : String} {J : (Nat → Nat → Int32)} (h : f_X11_count N R a0 a1 I = some (.inr E, J)) : sm_E l 3 mX11_count [.inr (.inl a0), .inl a1] (I, R) (.inr E) (J, R) := by
  have h1 := e_X11_count (l := l) hl h
  exact h1
def f_X11_needPiece (N : Nat) (R : Nat → Nat → Nat) : Nat → Int32 → (Nat → Nat → Int32) → Option ((Unit ⊕ String) × (Nat → Nat → Int32)) := fun a0 a1 I =>
  if a1 < 0 then (
    some (.inr "java/util/NoSuchElementException", I))
  else (
    sm_gd (sm_kd a0 = (11, 16)) <|
    sm_gd (sm_kd (R a0 3) = (7, 9)) <|
    if a1 < (I (R a0 3) 3) then (
      some (.inl (), I))
    else (
      some (.inr "java/util/NoSuchElementException", I)))
set_option maxHeartbeats 4000000 in
set_option maxRecDepth 100000 in
theorem w_X11_needPiece {l : Launch} (hl : l.stackTraces = false) (N : Nat) (R : Nat → Nat → Nat) : ∀ (a0 : Nat) (a1 : Int32) (I : (Nat → Nat → Int32)) (y : ((Unit ⊕ String) × (Nat → Nat → Int32))), f_X11_needPiece N R a0 a1 I = some y → sm_W l 0 mX11_needPiece 0 [(0, .inr (.inl a0)), (1, .inl a1)] [] (I, R) (sm_oU y.1) (y.2, R) := by
  intro a0 a1 I y h
  unfold f_X11_needPiece at h
  refine sm_iload_n (q := 1) dX11_needPiece_0 rfl rfl 1 rfl ?_
  rcases sm_if_e h with ⟨hb1, h⟩ | ⟨hb1, h⟩
  · refine sm_if_lt (tgt := 15) (q := 4) dX11_needPiece_1 (by decide) rfl (fun _ => ?_) (fun hn => absurd hb1 hn)
    obtain rfl := Option.some.inj h
    exact sm_throwW (tx := "no such piece") (j := 17) hl (by decide +kernel) (by decide +kernel) (by decide +kernel) (by decide) bxN_0 bxN_1 bxN_2 bxN_5 cl_X11_160 in_NSE (List.mem_of_getElem? (i := 17) rfl) th_X11_164 tg_X11_160_164 (Nat.le_of_ble_eq_true rfl) dX11_needPiece_15 dX11_needPiece_18 dX11_needPiece_19 dX11_needPiece_22 dX11_needPiece_25
  · refine sm_if_lt (tgt := 15) (q := 4) dX11_needPiece_1 (by decide) rfl (fun ht => absurd ht hb1) (fun _ => ?_)
    refine sm_iload_n (q := 5) dX11_needPiece_4 rfl rfl 1 rfl ?_
    refine sm_aload_n (q := 6) dX11_needPiece_5 rfl rfl 0 rfl ?_
    obtain ⟨hc2, h⟩ := sm_gd_e h
    refine sm_getR (r := R a0 3) (q := 9) dX11_needPiece_6 rfl fk_X11_23 hc2 (by decide) (by decide) rfl ?_
    obtain ⟨hc3, h⟩ := sm_gd_e h
    refine sm_getI (q := 12) dX11_needPiece_9 rfl fk_X11_129 hc3 (by decide) (by decide) ?_
    rcases sm_if_e h with ⟨hb4, h⟩ | ⟨hb4, h⟩
    · refine sm_icmp_lt (tgt := 26) (q := 15) dX11_needPiece_12 (by decide) rfl (fun _ => ?_) (fun hn => absurd hb4 hn)
      obtain rfl := Option.some.inj h
      exact sm_vret dX11_needPiece_26 rfl
    · refine sm_icmp_lt (tgt := 26) (q := 15) dX11_needPiece_12 (by decide) rfl (fun ht => absurd ht hb4) (fun _ => ?_)
      obtain rfl := Option.some.inj h
      exact sm_throwW (tx := "no such piece") (j := 17) hl (by decide +kernel) (by decide +kernel) (by decide +kernel) (by decide) bxN_0 bxN_1 bxN_2 bxN_5 cl_X11_160 in_NSE (List.mem_of_getElem? (i := 17) rfl) th_X11_164 tg_X11_160_164 (Nat.le_of_ble_eq_true rfl) dX11_needPiece_15 dX11_needPiece_18 dX11_needPiece_19 dX11_needPiece_22 dX11_needPiece_25
theorem e_X11_needPiece {l : Launch} (hl : l.stackTraces = false) {N : Nat} {R : Nat → Nat → Nat} {a0 : Nat} {a1 : Int32} {I : (Nat → Nat → Int32)} {y : ((Unit ⊕ String) × (Nat → Nat → Int32))} (h : f_X11_needPiece N R a0 a1 I = some y) : sm_E l 0 mX11_needPiece [.inr (.inl a0), .inl a1] (I, R) (sm_oU y.1) (y.2, R) :=
  sm_meth (by decide) (Nat.le_of_ble_eq_true rfl) (w_X11_needPiece hl N R a0 a1 I y h)
theorem ek_X11_needPiece {l : Launch} (hl : l.stackTraces = false) {N : Nat} {R : Nat → Nat → Nat} {a0 : Nat} {a1 : Int32} {I : (Nat → Nat → Int32)} {r : Unit} {J : (Nat → Nat → Int32)} (h : f_X11_needPiece N R a0 a1 I = some (.inl r, J)) : sm_E l 0 mX11_needPiece [.inr (.inl a0), .inl a1] (I, R) (.inl none) (J, R) := by
  have h1 := e_X11_needPiece (l := l) hl h
  exact h1
theorem ex_X11_needPiece {l : Launch} (hl : l.stackTraces = false) {N : Nat} {R : Nat → Nat → Nat} {a0 : Nat} {a1 : Int32} {I : (Nat → Nat → Int32)} {E : String} {J : (Nat → Nat → Int32)} (h : f_X11_needPiece N R a0 a1 I = some (.inr E, J)) : sm_E l 0 mX11_needPiece [.inr (.inl a0), .inl a1] (I, R) (.inr E) (J, R) := by
  have h1 := e_X11_needPiece (l := l) hl h
  exact h1
def f_X11_piece (N : Nat) (R : Nat → Nat → Nat) : Nat → Int32 → Int32 → (Nat → Nat → Int32) → Option ((Int32 ⊕ String) × (Nat → Nat → Int32)) := fun a0 a1 a2 I =>
  sm_gd (sm_kd a0 = (11, 16)) <|
  sm_tb (f_X11_needPiece N R a0 a1 I) fun r3 J4 =>
  if a2 = 0 then (
    sm_gd (sm_kd (R a0 3) = (7, 9)) <|
    sm_gd ((sm_kd (R (R a0 3) 0)).1 = 13 ∧ ¬ (a1 < 0 ∨ (sm_kd (R (R a0 3) 0)).2 ≤ (a1).toNatClampNeg)) <|
    some (.inl (J4 (R (R a0 3) 0) (a1).toNatClampNeg), J4))
  else (
    if a2 = 1 then (
      sm_gd (sm_kd (R a0 3) = (7, 9)) <|
      sm_gd ((sm_kd (R (R a0 3) 1)).1 = 13 ∧ ¬ (a1 < 0 ∨ (sm_kd (R (R a0 3) 1)).2 ≤ (a1).toNatClampNeg)) <|
      some (.inl (J4 (R (R a0 3) 1) (a1).toNatClampNeg), J4))
    else (
      if a2 = 2 then (
        sm_gd (sm_kd (R a0 3) = (7, 9)) <|
        (f_X7_steps N R (R a0 3) a1 J4).bind fun p13 =>
        some (.inl p13.1, p13.2))
      else (
        some (.inr "java/util/NoSuchElementException", J4))))
set_option maxHeartbeats 4000000 in
set_option maxRecDepth 100000 in
theorem w_X11_piece {l : Launch} (hl : l.stackTraces = false) (N : Nat) (R : Nat → Nat → Nat) : ∀ (a0 : Nat) (a1 : Int32) (a2 : Int32) (I : (Nat → Nat → Int32)) (y : ((Int32 ⊕ String) × (Nat → Nat → Int32))), f_X11_piece N R a0 a1 a2 I = some y → sm_W l 2 mX11_piece 0 [(0, .inr (.inl a0)), (1, .inl a1), (2, .inl a2)] [] (I, R) (sm_oI y.1) (y.2, R) := by
  intro a0 a1 a2 I y h
  unfold f_X11_piece at h
  refine sm_aload_n (q := 1) dX11_piece_0 rfl rfl 0 rfl ?_
  refine sm_iload_n (q := 2) dX11_piece_1 rfl rfl 1 rfl ?_
  obtain ⟨hc1, h⟩ := sm_gd_e h
  rcases sm_tb_e h with ⟨r3, J4, hc_p2, h⟩ | ⟨E9, J9, hc_p2, h⟩
  · refine sm_callVv (q := 5) (As := [.inl a1]) (S := []) (ek_X11_needPiece hl hc_p2) mv_X11_173 hc1 rfl (by decide) (Nat.le_of_ble_eq_true rfl) dX11_piece_2 rfl ?_
    refine sm_iload_n (q := 6) dX11_piece_5 rfl rfl 2 rfl ?_
    rcases sm_if_e h with ⟨hb5, h⟩ | ⟨hb5, h⟩
    · refine sm_tableIn (q := 32) (off := 26) dX11_piece_6 (by rw [hb5]; decide) (by rw [hb5]; decide) (by rw [hb5]; decide) (by decide) ?_
      refine sm_aload_n (q := 33) dX11_piece_32 rfl rfl 0 rfl ?_
      refine sm_getR (r := R a0 3) (q := 36) dX11_piece_33 rfl fk_X11_23 hc1 (by decide) (by decide) rfl ?_
      obtain ⟨hc6, h⟩ := sm_gd_e h
      refine sm_getR (r := R (R a0 3) 0) (q := 39) dX11_piece_36 rfl fk_X11_176 hc6 (by decide) (by decide) rfl ?_
      refine sm_iload_n (q := 40) dX11_piece_39 rfl rfl 1 rfl ?_
      obtain ⟨hc7, h⟩ := sm_gd_e h
      refine sm_iald (n := (sm_kd (R (R a0 3) 0)).2) (q := 41) dX11_piece_40 rfl (Prod.ext hc7.1 rfl) hc7.2 ?_
      obtain rfl := Option.some.inj h
      exact sm_iret dX11_piece_41 rfl
    · rcases sm_if_e h with ⟨hb8, h⟩ | ⟨hb8, h⟩
      · refine sm_tableIn (q := 42) (off := 36) dX11_piece_6 (by rw [hb8]; decide) (by rw [hb8]; decide) (by rw [hb8]; decide) (by decide) ?_
        refine sm_aload_n (q := 43) dX11_piece_42 rfl rfl 0 rfl ?_
        refine sm_getR (r := R a0 3) (q := 46) dX11_piece_43 rfl fk_X11_23 hc1 (by decide) (by decide) rfl ?_
        obtain ⟨hc9, h⟩ := sm_gd_e h
        refine sm_getR (r := R (R a0 3) 1) (q := 49) dX11_piece_46 rfl fk_X11_179 hc9 (by decide) (by decide) rfl ?_
        refine sm_iload_n (q := 50) dX11_piece_49 rfl rfl 1 rfl ?_
        obtain ⟨hc10, h⟩ := sm_gd_e h
        refine sm_iald (n := (sm_kd (R (R a0 3) 1)).2) (q := 51) dX11_piece_50 rfl (Prod.ext hc10.1 rfl) hc10.2 ?_
        obtain rfl := Option.some.inj h
        exact sm_iret dX11_piece_51 rfl
      · rcases sm_if_e h with ⟨hb11, h⟩ | ⟨hb11, h⟩
        · refine sm_tableIn (q := 52) (off := 46) dX11_piece_6 (by rw [hb11]; decide) (by rw [hb11]; decide) (by rw [hb11]; decide) (by decide) ?_
          refine sm_aload_n (q := 53) dX11_piece_52 rfl rfl 0 rfl ?_
          refine sm_getR (r := R a0 3) (q := 56) dX11_piece_53 rfl fk_X11_23 hc1 (by decide) (by decide) rfl ?_
          refine sm_iload_n (q := 57) dX11_piece_56 rfl rfl 1 rfl ?_
          obtain ⟨hc12, h⟩ := sm_gd_e h
          obtain ⟨p13, hc_p13, h⟩ := sm_bd_e h
          refine sm_callVi (q := 60) (As := [.inl a1]) (S := []) (e_X7_steps hc_p13) mv_X11_182 hc12 rfl (by decide) (Nat.le_of_ble_eq_true rfl) dX11_piece_57 rfl ?_
          obtain rfl := Option.some.inj h
          exact sm_iret dX11_piece_60 rfl
        · refine sm_tableOut (q := 61) dX11_piece_6 (sm_sw (fun v h1 h2 he => (fun e => e.elim (fun e => hb5 (he.trans ((congrArg Int32.ofInt e).trans (by decide)))) (fun e => e.elim (fun e => hb8 (he.trans ((congrArg Int32.ofInt e).trans (by decide)))) (fun e => hb11 (he.trans ((congrArg Int32.ofInt e).trans (by decide)))))) (show v = 0 ∨ v = 1 ∨ v = 2 by omega))) (by decide) ?_
          obtain rfl := Option.some.inj h
          exact sm_throw (tx := "no such what of a piece") (j := 18) hl (by decide +kernel) (by decide +kernel) (by decide +kernel) (by decide) bxN_0 bxN_1 bxN_2 bxN_5 cl_X11_160 in_NSE (List.mem_of_getElem? (i := 18) rfl) th_X11_164 tg_X11_160_164 (Nat.le_of_ble_eq_true rfl) dX11_piece_61 dX11_piece_64 dX11_piece_65 dX11_piece_67 dX11_piece_70
  · obtain rfl := Option.some.inj h
    exact sm_callVX (E := E9) (As := [.inl a1]) (S := []) (ex_X11_needPiece hl hc_p2) mv_X11_173 hc1 rfl (by decide) (Nat.le_of_ble_eq_true rfl) dX11_piece_2
theorem e_X11_piece {l : Launch} (hl : l.stackTraces = false) {N : Nat} {R : Nat → Nat → Nat} {a0 : Nat} {a1 : Int32} {a2 : Int32} {I : (Nat → Nat → Int32)} {y : ((Int32 ⊕ String) × (Nat → Nat → Int32))} (h : f_X11_piece N R a0 a1 a2 I = some y) : sm_E l 2 mX11_piece [.inr (.inl a0), .inl a1, .inl a2] (I, R) (sm_oI y.1) (y.2, R) :=
  sm_meth (by decide) (Nat.le_of_ble_eq_true rfl) (w_X11_piece hl N R a0 a1 a2 I y h)
theorem ek_X11_piece {l : Launch} (hl : l.stackTraces = false) {N : Nat} {R : Nat → Nat → Nat} {a0 : Nat} {a1 : Int32} {a2 : Int32} {I : (Nat → Nat → Int32)} {r : Int32} {J : (Nat → Nat → Int32)} (h : f_X11_piece N R a0 a1 a2 I = some (.inl r, J)) : sm_E l 2 mX11_piece [.inr (.inl a0), .inl a1, .inl a2] (I, R) (.inl (some (.inl r))) (J, R) := by
  have h1 := e_X11_piece (l := l) hl h
  exact h1
theorem ex_X11_piece {l : Launch} (hl : l.stackTraces = false) {N : Nat} {R : Nat → Nat → Nat} {a0 : Nat} {a1 : Int32} {a2 : Int32} {I : (Nat → Nat → Int32)} {E : String} {J : (Nat → Nat → Int32)} (h : f_X11_piece N R a0 a1 a2 I = some (.inr E, J)) : sm_E l 2 mX11_piece [.inr (.inl a0), .inl a1, .inl a2] (I, R) (.inr E) (J, R) := by
  have h1 := e_X11_piece (l := l) hl h
  exact h1
def f_X11_bar (N : Nat) (R : Nat → Nat → Nat) : Nat → Int32 → Int32 → (Nat → Nat → Int32) → Option ((Int32 ⊕ String) × (Nat → Nat → Int32)) := fun a0 a1 a2 I =>
  sm_gd (sm_kd a0 = (11, 16)) <|
  sm_tb (f_X11_needPiece N R a0 a1 I) fun r3 J4 =>
  if a2 < 0 then (
    some (.inr "java/util/NoSuchElementException", J4))
  else (
    sm_gd (sm_kd (R a0 3) = (7, 9)) <|
    sm_gd ((sm_kd (R (R a0 3) 0)).1 = 13 ∧ ¬ (a1 < 0 ∨ (sm_kd (R (R a0 3) 0)).2 ≤ (a1).toNatClampNeg)) <|
    if a2 < (J4 (R (R a0 3) 0) (a1).toNatClampNeg) then (
      (f_X7_hardOf N R (R a0 3) a1 a2 J4).bind fun p9 =>
      some (.inl p9.1, p9.2))
    else (
      some (.inr "java/util/NoSuchElementException", J4)))
set_option maxHeartbeats 4000000 in
set_option maxRecDepth 100000 in
theorem w_X11_bar {l : Launch} (hl : l.stackTraces = false) (N : Nat) (R : Nat → Nat → Nat) : ∀ (a0 : Nat) (a1 : Int32) (a2 : Int32) (I : (Nat → Nat → Int32)) (y : ((Int32 ⊕ String) × (Nat → Nat → Int32))), f_X11_bar N R a0 a1 a2 I = some y → sm_W l 1 mX11_bar 0 [(0, .inr (.inl a0)), (1, .inl a1), (2, .inl a2)] [] (I, R) (sm_oI y.1) (y.2, R) := by
  intro a0 a1 a2 I y h
  unfold f_X11_bar at h
  refine sm_aload_n (q := 1) dX11_bar_0 rfl rfl 0 rfl ?_
  refine sm_iload_n (q := 2) dX11_bar_1 rfl rfl 1 rfl ?_
  obtain ⟨hc1, h⟩ := sm_gd_e h
  rcases sm_tb_e h with ⟨r3, J4, hc_p2, h⟩ | ⟨E9, J9, hc_p2, h⟩
  · refine sm_callVv (q := 5) (As := [.inl a1]) (S := []) (ek_X11_needPiece hl hc_p2) mv_X11_173 hc1 rfl (by decide) (Nat.le_of_ble_eq_true rfl) dX11_bar_2 rfl ?_
    refine sm_iload_n (q := 6) dX11_bar_5 rfl rfl 2 rfl ?_
    rcases sm_if_e h with ⟨hb5, h⟩ | ⟨hb5, h⟩
    · refine sm_if_lt (tgt := 22) (q := 9) dX11_bar_6 (by decide) rfl (fun _ => ?_) (fun hn => absurd hb5 hn)
      obtain rfl := Option.some.inj h
      exact sm_throw (tx := "no such bar") (j := 19) hl (by decide +kernel) (by decide +kernel) (by decide +kernel) (by decide) bxN_0 bxN_1 bxN_2 bxN_5 cl_X11_160 in_NSE (List.mem_of_getElem? (i := 19) rfl) th_X11_164 tg_X11_160_164 (Nat.le_of_ble_eq_true rfl) dX11_bar_22 dX11_bar_25 dX11_bar_26 dX11_bar_28 dX11_bar_31
    · refine sm_if_lt (tgt := 22) (q := 9) dX11_bar_6 (by decide) rfl (fun ht => absurd ht hb5) (fun _ => ?_)
      refine sm_iload_n (q := 10) dX11_bar_9 rfl rfl 2 rfl ?_
      refine sm_aload_n (q := 11) dX11_bar_10 rfl rfl 0 rfl ?_
      refine sm_getR (r := R a0 3) (q := 14) dX11_bar_11 rfl fk_X11_23 hc1 (by decide) (by decide) rfl ?_
      obtain ⟨hc6, h⟩ := sm_gd_e h
      refine sm_getR (r := R (R a0 3) 0) (q := 17) dX11_bar_14 rfl fk_X11_176 hc6 (by decide) (by decide) rfl ?_
      refine sm_iload_n (q := 18) dX11_bar_17 rfl rfl 1 rfl ?_
      obtain ⟨hc7, h⟩ := sm_gd_e h
      refine sm_iald (n := (sm_kd (R (R a0 3) 0)).2) (q := 19) dX11_bar_18 rfl (Prod.ext hc7.1 rfl) hc7.2 ?_
      rcases sm_if_e h with ⟨hb8, h⟩ | ⟨hb8, h⟩
      · refine sm_icmp_lt (tgt := 32) (q := 22) dX11_bar_19 (by decide) rfl (fun _ => ?_) (fun hn => absurd hb8 hn)
        refine sm_aload_n (q := 33) dX11_bar_32 rfl rfl 0 rfl ?_
        refine sm_getR (r := R a0 3) (q := 36) dX11_bar_33 rfl fk_X11_23 hc1 (by decide) (by decide) rfl ?_
        refine sm_iload_n (q := 37) dX11_bar_36 rfl rfl 1 rfl ?_
        refine sm_iload_n (q := 38) dX11_bar_37 rfl rfl 2 rfl ?_
        obtain ⟨p9, hc_p9, h⟩ := sm_bd_e h
        refine sm_callVi (q := 41) (As := [.inl a1, .inl a2]) (S := []) (e_X7_hardOf hc_p9) mv_X11_189 hc6 rfl (by decide) (Nat.le_of_ble_eq_true rfl) dX11_bar_38 rfl ?_
        obtain rfl := Option.some.inj h
        exact sm_iret dX11_bar_41 rfl
      · refine sm_icmp_lt (tgt := 32) (q := 22) dX11_bar_19 (by decide) rfl (fun ht => absurd ht hb8) (fun _ => ?_)
        obtain rfl := Option.some.inj h
        exact sm_throw (tx := "no such bar") (j := 19) hl (by decide +kernel) (by decide +kernel) (by decide +kernel) (by decide) bxN_0 bxN_1 bxN_2 bxN_5 cl_X11_160 in_NSE (List.mem_of_getElem? (i := 19) rfl) th_X11_164 tg_X11_160_164 (Nat.le_of_ble_eq_true rfl) dX11_bar_22 dX11_bar_25 dX11_bar_26 dX11_bar_28 dX11_bar_31
  · obtain rfl := Option.some.inj h
    exact sm_callVX (E := E9) (As := [.inl a1]) (S := []) (ex_X11_needPiece hl hc_p2) mv_X11_173 hc1 rfl (by decide) (Nat.le_of_ble_eq_true rfl) dX11_bar_2
theorem e_X11_bar {l : Launch} (hl : l.stackTraces = false) {N : Nat} {R : Nat → Nat → Nat} {a0 : Nat} {a1 : Int32} {a2 : Int32} {I : (Nat → Nat → Int32)} {y : ((Int32 ⊕ String) × (Nat → Nat → Int32))} (h : f_X11_bar N R a0 a1 a2 I = some y) : sm_E l 1 mX11_bar [.inr (.inl a0), .inl a1, .inl a2] (I, R) (sm_oI y.1) (y.2, R) :=
  sm_meth (by decide) (Nat.le_of_ble_eq_true rfl) (w_X11_bar hl N R a0 a1 a2 I y h)
theorem ek_X11_bar {l : Launch} (hl : l.stackTraces = false) {N : Nat} {R : Nat → Nat → Nat} {a0 : Nat} {a1 : Int32} {a2 : Int32} {I : (Nat → Nat → Int32)} {r : Int32} {J : (Nat → Nat → Int32)} (h : f_X11_bar N R a0 a1 a2 I = some (.inl r, J)) : sm_E l 1 mX11_bar [.inr (.inl a0), .inl a1, .inl a2] (I, R) (.inl (some (.inl r))) (J, R) := by
  have h1 := e_X11_bar (l := l) hl h
  exact h1
theorem ex_X11_bar {l : Launch} (hl : l.stackTraces = false) {N : Nat} {R : Nat → Nat → Nat} {a0 : Nat} {a1 : Int32} {a2 : Int32} {I : (Nat → Nat → Int32)} {E : String} {J : (Nat → Nat → Int32)} (h : f_X11_bar N R a0 a1 a2 I = some (.inr E, J)) : sm_E l 1 mX11_bar [.inr (.inl a0), .inl a1, .inl a2] (I, R) (.inr E) (J, R) := by
  have h1 := e_X11_bar (l := l) hl h
  exact h1
def f_X11_needPupil (N : Nat) (R : Nat → Nat → Nat) : Nat → Int32 → (Nat → Nat → Int32) → Option ((Nat ⊕ String) × (Nat → Nat → Int32)) := fun a0 a1 I =>
  if a1 < 0 then (
    some (.inr "java/util/NoSuchElementException", I))
  else (
    sm_gd (sm_kd a0 = (11, 16)) <|
    sm_gd (sm_kd (R a0 3) = (7, 9)) <|
    sm_gd (sm_kd (R (R a0 3) 5) = (10, 4)) <|
    if a1 < (I (R (R a0 3) 5) 1) then (
      sm_gd ((sm_kd (R (R (R a0 3) 5) 0)).1 = 16 ∧ ¬ (a1 < 0 ∨ (sm_kd (R (R (R a0 3) 5) 0)).2 ≤ (a1).toNatClampNeg)) <|
      some (.inl (R (R (R (R a0 3) 5) 0) (a1).toNatClampNeg), I))
    else (
      some (.inr "java/util/NoSuchElementException", I)))
set_option maxHeartbeats 4000000 in
set_option maxRecDepth 100000 in
theorem w_X11_needPupil {l : Launch} (hl : l.stackTraces = false) (N : Nat) (R : Nat → Nat → Nat) : ∀ (a0 : Nat) (a1 : Int32) (I : (Nat → Nat → Int32)) (y : ((Nat ⊕ String) × (Nat → Nat → Int32))), f_X11_needPupil N R a0 a1 I = some y → sm_W l 0 mX11_needPupil 0 [(0, .inr (.inl a0)), (1, .inl a1)] [] (I, R) (sm_oR y.1) (y.2, R) := by
  intro a0 a1 I y h
  unfold f_X11_needPupil at h
  refine sm_iload_n (q := 1) dX11_needPupil_0 rfl rfl 1 rfl ?_
  rcases sm_if_e h with ⟨hb1, h⟩ | ⟨hb1, h⟩
  · refine sm_if_lt (tgt := 18) (q := 4) dX11_needPupil_1 (by decide) rfl (fun _ => ?_) (fun hn => absurd hb1 hn)
    obtain rfl := Option.some.inj h
    exact sm_throwW (tx := "no such pupil") (j := 20) hl (by decide +kernel) (by decide +kernel) (by decide +kernel) (by decide) bxN_0 bxN_1 bxN_2 bxN_5 cl_X11_160 in_NSE (List.mem_of_getElem? (i := 20) rfl) th_X11_164 tg_X11_160_164 (Nat.le_of_ble_eq_true rfl) dX11_needPupil_18 dX11_needPupil_21 dX11_needPupil_22 dX11_needPupil_25 dX11_needPupil_28
  · refine sm_if_lt (tgt := 18) (q := 4) dX11_needPupil_1 (by decide) rfl (fun ht => absurd ht hb1) (fun _ => ?_)
    refine sm_iload_n (q := 5) dX11_needPupil_4 rfl rfl 1 rfl ?_
    refine sm_aload_n (q := 6) dX11_needPupil_5 rfl rfl 0 rfl ?_
    obtain ⟨hc2, h⟩ := sm_gd_e h
    refine sm_getR (r := R a0 3) (q := 9) dX11_needPupil_6 rfl fk_X11_23 hc2 (by decide) (by decide) rfl ?_
    obtain ⟨hc3, h⟩ := sm_gd_e h
    refine sm_getR (r := R (R a0 3) 5) (q := 12) dX11_needPupil_9 rfl fk_X11_132 hc3 (by decide) (by decide) rfl ?_
    obtain ⟨hc4, h⟩ := sm_gd_e h
    refine sm_getI (q := 15) dX11_needPupil_12 rfl fk_X11_135 hc4 (by decide) (by decide) ?_
    rcases sm_if_e h with ⟨hb5, h⟩ | ⟨hb5, h⟩
    · refine sm_icmp_lt (tgt := 29) (q := 18) dX11_needPupil_15 (by decide) rfl (fun _ => ?_) (fun hn => absurd hb5 hn)
      refine sm_aload_n (q := 30) dX11_needPupil_29 rfl rfl 0 rfl ?_
      refine sm_getR (r := R a0 3) (q := 33) dX11_needPupil_30 rfl fk_X11_23 hc2 (by decide) (by decide) rfl ?_
      refine sm_getR (r := R (R a0 3) 5) (q := 36) dX11_needPupil_33 rfl fk_X11_132 hc3 (by decide) (by decide) rfl ?_
      refine sm_getR (r := R (R (R a0 3) 5) 0) (q := 39) dX11_needPupil_36 rfl fk_X11_165 hc4 (by decide) (by decide) rfl ?_
      refine sm_iload_n (q := 40) dX11_needPupil_39 rfl rfl 1 rfl ?_
      obtain ⟨hc6, h⟩ := sm_gd_e h
      refine sm_aald (t := 3) (n := (sm_kd (R (R (R a0 3) 5) 0)).2) (q := 41) dX11_needPupil_40 rfl (Prod.ext hc6.1 rfl) (Or.inl ⟨rfl, rfl⟩) hc6.2 rfl ?_
      obtain rfl := Option.some.inj h
      exact sm_aret dX11_needPupil_41 rfl
    · refine sm_icmp_lt (tgt := 29) (q := 18) dX11_needPupil_15 (by decide) rfl (fun ht => absurd ht hb5) (fun _ => ?_)
      obtain rfl := Option.some.inj h
      exact sm_throwW (tx := "no such pupil") (j := 20) hl (by decide +kernel) (by decide +kernel) (by decide +kernel) (by decide) bxN_0 bxN_1 bxN_2 bxN_5 cl_X11_160 in_NSE (List.mem_of_getElem? (i := 20) rfl) th_X11_164 tg_X11_160_164 (Nat.le_of_ble_eq_true rfl) dX11_needPupil_18 dX11_needPupil_21 dX11_needPupil_22 dX11_needPupil_25 dX11_needPupil_28
theorem e_X11_needPupil {l : Launch} (hl : l.stackTraces = false) {N : Nat} {R : Nat → Nat → Nat} {a0 : Nat} {a1 : Int32} {I : (Nat → Nat → Int32)} {y : ((Nat ⊕ String) × (Nat → Nat → Int32))} (h : f_X11_needPupil N R a0 a1 I = some y) : sm_E l 0 mX11_needPupil [.inr (.inl a0), .inl a1] (I, R) (sm_oR y.1) (y.2, R) :=
  sm_meth (by decide) (Nat.le_of_ble_eq_true rfl) (w_X11_needPupil hl N R a0 a1 I y h)
theorem ek_X11_needPupil {l : Launch} (hl : l.stackTraces = false) {N : Nat} {R : Nat → Nat → Nat} {a0 : Nat} {a1 : Int32} {I : (Nat → Nat → Int32)} {r : Nat} {J : (Nat → Nat → Int32)} (h : f_X11_needPupil N R a0 a1 I = some (.inl r, J)) : sm_E l 0 mX11_needPupil [.inr (.inl a0), .inl a1] (I, R) (.inl (some (.inr (.inl r)))) (J, R) := by
  have h1 := e_X11_needPupil (l := l) hl h
  exact h1
theorem ex_X11_needPupil {l : Launch} (hl : l.stackTraces = false) {N : Nat} {R : Nat → Nat → Nat} {a0 : Nat} {a1 : Int32} {I : (Nat → Nat → Int32)} {E : String} {J : (Nat → Nat → Int32)} (h : f_X11_needPupil N R a0 a1 I = some (.inr E, J)) : sm_E l 0 mX11_needPupil [.inr (.inl a0), .inl a1] (I, R) (.inr E) (J, R) := by
  have h1 := e_X11_needPupil (l := l) hl h
  exact h1
def f_X11_wouldLearn (N : Nat) (R : Nat → Nat → Nat) : Nat → Nat → (Nat → Nat → Int32) → Option (Int32 × (Nat → Nat → Int32)) := fun a0 a1 I =>
  sm_gd (sm_kd a0 = (11, 16)) <|
  sm_gd (sm_kd (R a0 8) = (4, 6)) <|
  (f_X4_become N R (R a0 8) a1 I).bind fun p3 =>
  sm_gd (sm_kd (R a0 3) = (7, 9)) <|
  (f_X7_practise N R (R a0 3) (R a0 8) p3.2).bind fun p5 =>
  sm_gd (sm_kd a1 = (4, 6)) <|
  some (((p5.2 (R a0 8) 0) - (p5.2 a1 0)), p5.2)
set_option maxHeartbeats 4000000 in
set_option maxRecDepth 100000 in
theorem w_X11_wouldLearn {l : Launch} (N : Nat) (R : Nat → Nat → Nat) : ∀ (a0 : Nat) (a1 : Nat) (I : (Nat → Nat → Int32)) (y : (Int32 × (Nat → Nat → Int32))), f_X11_wouldLearn N R a0 a1 I = some y → sm_W l 3 mX11_wouldLearn 0 [(0, .inr (.inl a0)), (1, .inr (.inl a1))] [] (I, R) (.inl (some (.inl y.1))) (y.2, R) := by
  intro a0 a1 I y h
  unfold f_X11_wouldLearn at h
  refine sm_aload_n (q := 1) dX11_wouldLearn_0 rfl rfl 0 rfl ?_
  obtain ⟨hc1, h⟩ := sm_gd_e h
  refine sm_getR (r := R a0 8) (q := 4) dX11_wouldLearn_1 rfl fk_X11_55 hc1 (by decide) (by decide) rfl ?_
  refine sm_aload_n (q := 5) dX11_wouldLearn_4 rfl rfl 1 rfl ?_
  obtain ⟨hc2, h⟩ := sm_gd_e h
  obtain ⟨p3, hc_p3, h⟩ := sm_bd_e h
  refine sm_callVv (q := 8) (As := [.inr (.inl a1)]) (S := []) (e_X4_become hc_p3) mv_X11_220 hc2 rfl (by decide) (Nat.le_of_ble_eq_true rfl) dX11_wouldLearn_5 rfl ?_
  refine sm_aload_n (q := 9) dX11_wouldLearn_8 rfl rfl 0 rfl ?_
  refine sm_getR (r := R a0 3) (q := 12) dX11_wouldLearn_9 rfl fk_X11_23 hc1 (by decide) (by decide) rfl ?_
  refine sm_aload_n (q := 13) dX11_wouldLearn_12 rfl rfl 0 rfl ?_
  refine sm_getR (r := R a0 8) (q := 16) dX11_wouldLearn_13 rfl fk_X11_55 hc1 (by decide) (by decide) rfl ?_
  obtain ⟨hc4, h⟩ := sm_gd_e h
  obtain ⟨p5, hc_p5, h⟩ := sm_bd_e h
  refine sm_callVv (q := 19) (As := [.inr (.inl (R a0 8))]) (S := []) (e_X7_practise hc_p5) mv_X11_224 hc4 rfl (by decide) (Nat.le_of_ble_eq_true rfl) dX11_wouldLearn_16 rfl ?_
  refine sm_aload_n (q := 20) dX11_wouldLearn_19 rfl rfl 0 rfl ?_
  refine sm_getR (r := R a0 8) (q := 23) dX11_wouldLearn_20 rfl fk_X11_55 hc1 (by decide) (by decide) rfl ?_
  refine sm_getI (q := 26) dX11_wouldLearn_23 rfl fk_X11_197 hc2 (by decide) (by decide) ?_
  refine sm_aload_n (q := 27) dX11_wouldLearn_26 rfl rfl 1 rfl ?_
  obtain ⟨hc6, h⟩ := sm_gd_e h
  refine sm_getI (q := 30) dX11_wouldLearn_27 rfl fk_X11_197 hc6 (by decide) (by decide) ?_
  refine sm_isub (q := 31) dX11_wouldLearn_30 rfl ?_
  obtain rfl := Option.some.inj h
  exact sm_iret dX11_wouldLearn_31 rfl
theorem e_X11_wouldLearn {l : Launch} {N : Nat} {R : Nat → Nat → Nat} {a0 : Nat} {a1 : Nat} {I : (Nat → Nat → Int32)} {y : (Int32 × (Nat → Nat → Int32))} (h : f_X11_wouldLearn N R a0 a1 I = some y) : sm_E l 3 mX11_wouldLearn [.inr (.inl a0), .inr (.inl a1)] (I, R) (.inl (some (.inl y.1))) (y.2, R) :=
  sm_meth (by decide) (Nat.le_of_ble_eq_true rfl) (w_X11_wouldLearn N R a0 a1 I y h)
def f_X11_pupil (N : Nat) (R : Nat → Nat → Nat) : Nat → Int32 → Int32 → (Nat → Nat → Int32) → Option ((Int32 ⊕ String) × (Nat → Nat → Int32)) := fun a0 a1 a2 I =>
  sm_gd (sm_kd a0 = (11, 16)) <|
  sm_tb (f_X11_needPupil N R a0 a1 I) fun r3 J4 =>
  if a2 = 0 then (
    sm_gd (sm_kd r3 = (4, 6)) <|
    some (.inl (J4 r3 0), J4))
  else (
    if a2 = 1 then (
      sm_gd (sm_kd r3 = (4, 6)) <|
      some (.inl (J4 r3 1), J4))
    else (
      if a2 = 2 then (
        sm_gd (sm_kd r3 = (4, 6)) <|
        some (.inl (J4 r3 2), J4))
      else (
        if a2 = 3 then (
          sm_gd (sm_kd r3 = (4, 6)) <|
          some (.inl (J4 r3 3), J4))
        else (
          if a2 = 4 then (
            sm_gd (sm_kd r3 = (4, 6)) <|
            some (.inl (J4 r3 4), J4))
          else (
            if a2 = 5 then (
              sm_gd (sm_kd r3 = (4, 6)) <|
              some (.inl (J4 r3 5), J4))
            else (
              if a2 = 6 then (
                (f_X11_wouldLearn N R a0 r3 J4).bind fun p18 =>
                some (.inl p18.1, p18.2))
              else (
                some (.inr "java/util/NoSuchElementException", J4))))))))
set_option maxHeartbeats 4000000 in
set_option maxRecDepth 100000 in
theorem w_X11_pupil {l : Launch} (hl : l.stackTraces = false) (N : Nat) (R : Nat → Nat → Nat) : ∀ (a0 : Nat) (a1 : Int32) (a2 : Int32) (I : (Nat → Nat → Int32)) (y : ((Int32 ⊕ String) × (Nat → Nat → Int32))), f_X11_pupil N R a0 a1 a2 I = some y → sm_W l 4 mX11_pupil 0 [(0, .inr (.inl a0)), (1, .inl a1), (2, .inl a2)] [] (I, R) (sm_oI y.1) (y.2, R) := by
  intro a0 a1 a2 I y h
  unfold f_X11_pupil at h
  refine sm_aload_n (q := 1) dX11_pupil_0 rfl rfl 0 rfl ?_
  refine sm_iload_n (q := 2) dX11_pupil_1 rfl rfl 1 rfl ?_
  obtain ⟨hc1, h⟩ := sm_gd_e h
  rcases sm_tb_e h with ⟨r3, J4, hc_p2, h⟩ | ⟨E9, J9, hc_p2, h⟩
  · refine sm_callVr (q := 5) (As := [.inl a1]) (S := []) (ek_X11_needPupil hl hc_p2) mv_X11_193 hc1 rfl (by decide) (Nat.le_of_ble_eq_true rfl) dX11_pupil_2 rfl ?_
    refine sm_astore_n (L' := [(3, .inr (.inl r3)), (0, .inr (.inl a0)), (1, .inl a1), (2, .inl a2)]) (q := 6) dX11_pupil_5 rfl rfl (by decide) rfl ?_
    refine sm_iload_n (q := 7) dX11_pupil_6 rfl rfl 3 rfl ?_
    rcases sm_if_e h with ⟨hb5, h⟩ | ⟨hb5, h⟩
    · refine sm_tableIn (q := 48) (off := 41) dX11_pupil_7 (by rw [hb5]; decide) (by rw [hb5]; decide) (by rw [hb5]; decide) (by decide) ?_
      refine sm_aload_n (q := 49) dX11_pupil_48 rfl rfl 0 rfl ?_
      obtain ⟨hc6, h⟩ := sm_gd_e h
      refine sm_getI (q := 52) dX11_pupil_49 rfl fk_X11_197 hc6 (by decide) (by decide) ?_
      obtain rfl := Option.some.inj h
      exact sm_iret dX11_pupil_52 rfl
    · rcases sm_if_e h with ⟨hb7, h⟩ | ⟨hb7, h⟩
      · refine sm_tableIn (q := 53) (off := 46) dX11_pupil_7 (by rw [hb7]; decide) (by rw [hb7]; decide) (by rw [hb7]; decide) (by decide) ?_
        refine sm_aload_n (q := 54) dX11_pupil_53 rfl rfl 0 rfl ?_
        obtain ⟨hc8, h⟩ := sm_gd_e h
        refine sm_getI (q := 57) dX11_pupil_54 rfl fk_X11_200 hc8 (by decide) (by decide) ?_
        obtain rfl := Option.some.inj h
        exact sm_iret dX11_pupil_57 rfl
      · rcases sm_if_e h with ⟨hb9, h⟩ | ⟨hb9, h⟩
        · refine sm_tableIn (q := 58) (off := 51) dX11_pupil_7 (by rw [hb9]; decide) (by rw [hb9]; decide) (by rw [hb9]; decide) (by decide) ?_
          refine sm_aload_n (q := 59) dX11_pupil_58 rfl rfl 0 rfl ?_
          obtain ⟨hc10, h⟩ := sm_gd_e h
          refine sm_getI (q := 62) dX11_pupil_59 rfl fk_X11_203 hc10 (by decide) (by decide) ?_
          obtain rfl := Option.some.inj h
          exact sm_iret dX11_pupil_62 rfl
        · rcases sm_if_e h with ⟨hb11, h⟩ | ⟨hb11, h⟩
          · refine sm_tableIn (q := 63) (off := 56) dX11_pupil_7 (by rw [hb11]; decide) (by rw [hb11]; decide) (by rw [hb11]; decide) (by decide) ?_
            refine sm_aload_n (q := 64) dX11_pupil_63 rfl rfl 0 rfl ?_
            obtain ⟨hc12, h⟩ := sm_gd_e h
            refine sm_getI (q := 67) dX11_pupil_64 rfl fk_X11_206 hc12 (by decide) (by decide) ?_
            obtain rfl := Option.some.inj h
            exact sm_iret dX11_pupil_67 rfl
          · rcases sm_if_e h with ⟨hb13, h⟩ | ⟨hb13, h⟩
            · refine sm_tableIn (q := 68) (off := 61) dX11_pupil_7 (by rw [hb13]; decide) (by rw [hb13]; decide) (by rw [hb13]; decide) (by decide) ?_
              refine sm_aload_n (q := 69) dX11_pupil_68 rfl rfl 0 rfl ?_
              obtain ⟨hc14, h⟩ := sm_gd_e h
              refine sm_getI (q := 72) dX11_pupil_69 rfl fk_X11_208 hc14 (by decide) (by decide) ?_
              obtain rfl := Option.some.inj h
              exact sm_iret dX11_pupil_72 rfl
            · rcases sm_if_e h with ⟨hb15, h⟩ | ⟨hb15, h⟩
              · refine sm_tableIn (q := 73) (off := 66) dX11_pupil_7 (by rw [hb15]; decide) (by rw [hb15]; decide) (by rw [hb15]; decide) (by decide) ?_
                refine sm_aload_n (q := 74) dX11_pupil_73 rfl rfl 0 rfl ?_
                obtain ⟨hc16, h⟩ := sm_gd_e h
                refine sm_getI (q := 77) dX11_pupil_74 rfl fk_X11_211 hc16 (by decide) (by decide) ?_
                obtain rfl := Option.some.inj h
                exact sm_iret dX11_pupil_77 rfl
              · rcases sm_if_e h with ⟨hb17, h⟩ | ⟨hb17, h⟩
                · refine sm_tableIn (q := 78) (off := 71) dX11_pupil_7 (by rw [hb17]; decide) (by rw [hb17]; decide) (by rw [hb17]; decide) (by decide) ?_
                  refine sm_aload_n (q := 79) dX11_pupil_78 rfl rfl 1 rfl ?_
                  refine sm_aload_n (q := 80) dX11_pupil_79 rfl rfl 0 rfl ?_
                  obtain ⟨p18, hc_p18, h⟩ := sm_bd_e h
                  refine sm_callVi (q := 83) (As := [.inr (.inl r3)]) (S := []) (e_X11_wouldLearn hc_p18) mv_X11_214 hc1 rfl (by decide) (Nat.le_of_ble_eq_true rfl) dX11_pupil_80 rfl ?_
                  obtain rfl := Option.some.inj h
                  exact sm_iret dX11_pupil_83 rfl
                · refine sm_tableOut (q := 84) dX11_pupil_7 (sm_sw (fun v h1 h2 he => (fun e => e.elim (fun e => hb5 (he.trans ((congrArg Int32.ofInt e).trans (by decide)))) (fun e => e.elim (fun e => hb7 (he.trans ((congrArg Int32.ofInt e).trans (by decide)))) (fun e => e.elim (fun e => hb9 (he.trans ((congrArg Int32.ofInt e).trans (by decide)))) (fun e => e.elim (fun e => hb11 (he.trans ((congrArg Int32.ofInt e).trans (by decide)))) (fun e => e.elim (fun e => hb13 (he.trans ((congrArg Int32.ofInt e).trans (by decide)))) (fun e => e.elim (fun e => hb15 (he.trans ((congrArg Int32.ofInt e).trans (by decide)))) (fun e => hb17 (he.trans ((congrArg Int32.ofInt e).trans (by decide)))))))))) (show v = 0 ∨ v = 1 ∨ v = 2 ∨ v = 3 ∨ v = 4 ∨ v = 5 ∨ v = 6 by omega))) (by decide) ?_
                  obtain rfl := Option.some.inj h
                  exact sm_throw (tx := "no such what of a pupil") (j := 21) hl (by decide +kernel) (by decide +kernel) (by decide +kernel) (by decide) bxN_0 bxN_1 bxN_2 bxN_5 cl_X11_160 in_NSE (List.mem_of_getElem? (i := 21) rfl) th_X11_164 tg_X11_160_164 (Nat.le_of_ble_eq_true rfl) dX11_pupil_84 dX11_pupil_87 dX11_pupil_88 dX11_pupil_90 dX11_pupil_93
  · obtain rfl := Option.some.inj h
    exact sm_callVX (E := E9) (As := [.inl a1]) (S := []) (ex_X11_needPupil hl hc_p2) mv_X11_193 hc1 rfl (by decide) (Nat.le_of_ble_eq_true rfl) dX11_pupil_2
theorem e_X11_pupil {l : Launch} (hl : l.stackTraces = false) {N : Nat} {R : Nat → Nat → Nat} {a0 : Nat} {a1 : Int32} {a2 : Int32} {I : (Nat → Nat → Int32)} {y : ((Int32 ⊕ String) × (Nat → Nat → Int32))} (h : f_X11_pupil N R a0 a1 a2 I = some y) : sm_E l 4 mX11_pupil [.inr (.inl a0), .inl a1, .inl a2] (I, R) (sm_oI y.1) (y.2, R) :=
  sm_meth (by decide) (Nat.le_of_ble_eq_true rfl) (w_X11_pupil hl N R a0 a1 a2 I y h)
theorem ek_X11_pupil {l : Launch} (hl : l.stackTraces = false) {N : Nat} {R : Nat → Nat → Nat} {a0 : Nat} {a1 : Int32} {a2 : Int32} {I : (Nat → Nat → Int32)} {r : Int32} {J : (Nat → Nat → Int32)} (h : f_X11_pupil N R a0 a1 a2 I = some (.inl r, J)) : sm_E l 4 mX11_pupil [.inr (.inl a0), .inl a1, .inl a2] (I, R) (.inl (some (.inl r))) (J, R) := by
  have h1 := e_X11_pupil (l := l) hl h
  exact h1
theorem ex_X11_pupil {l : Launch} (hl : l.stackTraces = false) {N : Nat} {R : Nat → Nat → Nat} {a0 : Nat} {a1 : Int32} {a2 : Int32} {I : (Nat → Nat → Int32)} {E : String} {J : (Nat → Nat → Int32)} (h : f_X11_pupil N R a0 a1 a2 I = some (.inr E, J)) : sm_E l 4 mX11_pupil [.inr (.inl a0), .inl a1, .inl a2] (I, R) (.inr E) (J, R) := by
  have h1 := e_X11_pupil (l := l) hl h
  exact h1
def f_X11_refuse (N : Nat) (R : Nat → Nat → Nat) : Nat → Int32 → (Nat → Nat → Int32) → Option (Int32 × (Nat → Nat → Int32)) := fun a0 a1 I =>
  sm_gd (sm_kd a0 = (11, 16)) <|
  sm_gd ((sm_kd (R a0 6)).1 = 13 ∧ ¬ (a1 < 0 ∨ (sm_kd (R a0 6)).2 ≤ (a1).toNatClampNeg)) <|
  sm_lt (sm_up I (R a0 6) (sm_up (I (R a0 6)) (a1).toNatClampNeg ((I (R a0 6) (a1).toNatClampNeg) + (1 : Int32)))) fun I3 =>
  some ((-1 : Int32), I3)
set_option maxHeartbeats 4000000 in
set_option maxRecDepth 100000 in
theorem w_X11_refuse {l : Launch} (N : Nat) (R : Nat → Nat → Nat) : ∀ (a0 : Nat) (a1 : Int32) (I : (Nat → Nat → Int32)) (y : (Int32 × (Nat → Nat → Int32))), f_X11_refuse N R a0 a1 I = some y → sm_W l 0 mX11_refuse 0 [(0, .inr (.inl a0)), (1, .inl a1)] [] (I, R) (.inl (some (.inl y.1))) (y.2, R) := by
  intro a0 a1 I y h
  unfold f_X11_refuse at h
  refine sm_aload_n (q := 1) dX11_refuse_0 rfl rfl 0 rfl ?_
  obtain ⟨hc1, h⟩ := sm_gd_e h
  refine sm_getR (r := R a0 6) (q := 4) dX11_refuse_1 rfl fk_X11_41 hc1 (by decide) (by decide) rfl ?_
  refine sm_iload_n (q := 5) dX11_refuse_4 rfl rfl 1 rfl ?_
  refine sm_dup2 (q := 6) dX11_refuse_5 rfl rfl rfl ?_
  obtain ⟨hc2, h⟩ := sm_gd_e h
  refine sm_iald (n := (sm_kd (R a0 6)).2) (q := 7) dX11_refuse_6 rfl (Prod.ext hc2.1 rfl) hc2.2 ?_
  refine sm_iconst (v := 1) (q := 8) dX11_refuse_7 rfl (by decide) ?_
  refine sm_iadd (q := 9) dX11_refuse_8 rfl ?_
  obtain ⟨I3, hI3, h⟩ := sm_lt_e h
  refine sm_iast (n := (sm_kd (R a0 6)).2) (q := 10) dX11_refuse_9 rfl (Prod.ext hc2.1 rfl) hc2.2 ?_
  refine sm_memI hI3 ?_
  refine sm_iconst (v := -1) (q := 11) dX11_refuse_10 rfl (by decide) ?_
  obtain rfl := Option.some.inj h
  exact sm_iret dX11_refuse_11 rfl
theorem e_X11_refuse {l : Launch} {N : Nat} {R : Nat → Nat → Nat} {a0 : Nat} {a1 : Int32} {I : (Nat → Nat → Int32)} {y : (Int32 × (Nat → Nat → Int32))} (h : f_X11_refuse N R a0 a1 I = some y) : sm_E l 0 mX11_refuse [.inr (.inl a0), .inl a1] (I, R) (.inl (some (.inl y.1))) (y.2, R) :=
  sm_meth (by decide) (Nat.le_of_ble_eq_true rfl) (w_X11_refuse N R a0 a1 I y h)
def f_X11_weeks_51 (N : Nat) (R : Nat → Nat → Nat) : Nat → Nat → Int32 → Int32 → (Nat → Nat → Int32) → Option (Int32 × (Nat → Nat → Int32))
  | 0, _, _, _, _ => none
  | n + 1, a0, a1, a2, I =>
    sm_gd (sm_kd a0 = (11, 16)) <|
    sm_gd (sm_kd (R a0 3) = (7, 9)) <|
    sm_gd (sm_kd (R (R a0 3) 5) = (10, 4)) <|
    if (I (R (R a0 3) 5) 1) ≤ a2 then (
      sm_lt (sm_up I (R (R a0 3) 5) (sm_up (I (R (R a0 3) 5)) 2 ((I (R (R a0 3) 5) 2) + a1))) fun I5 =>
      some ((I5 (R (R a0 3) 5) 2), I5))
    else (
      sm_gd ((sm_kd (R (R (R a0 3) 5) 0)).1 = 16 ∧ ¬ (a2 < 0 ∨ (sm_kd (R (R (R a0 3) 5) 0)).2 ≤ (a2).toNatClampNeg)) <|
      (f_X7_passWeeks N R (R a0 3) (R (R (R (R a0 3) 5) 0) (a2).toNatClampNeg) a1 I).bind fun p7 =>
      f_X11_weeks_51 N R n a0 a1 (a2 + 1) p7.2)
def f_X11_weeks (N : Nat) (R : Nat → Nat → Nat) : Nat → Int32 → (Nat → Nat → Int32) → Option (Int32 × (Nat → Nat → Int32)) := fun a0 a1 I =>
  if a1 < (1 : Int32) then (
    sm_gd (sm_kd a0 = (11, 16)) <|
    (f_X11_refuse N R a0 (1 : Int32) I).bind fun p3 =>
    some (p3.1, p3.2))
  else (
    if (20 : Int32) < a1 then (
      sm_gd (sm_kd a0 = (11, 16)) <|
      (f_X11_refuse N R a0 (1 : Int32) I).bind fun p6 =>
      some (p6.1, p6.2))
    else (
      sm_gd (sm_kd a0 = (11, 16)) <|
      sm_gd (sm_kd (R a0 3) = (7, 9)) <|
      sm_gd (sm_kd (R (R a0 3) 5) = (10, 4)) <|
      if (I (R (R a0 3) 5) 2) ≤ ((999 : Int32) - a1) then (
        sm_gd (sm_kd (R a0 4) = (0, 3)) <|
        (f_X0_keep N R (R a0 4) (R (R a0 3) 5) I).bind fun p12 =>
        f_X11_weeks_51 N R N a0 a1 (0 : Int32) p12.2)
      else (
        (f_X11_refuse N R a0 (1 : Int32) I).bind fun p13 =>
        some (p13.1, p13.2))))
set_option maxHeartbeats 4000000 in
set_option maxRecDepth 100000 in
theorem w_X11_weeks_51 {l : Launch} (N : Nat) (R : Nat → Nat → Nat) : ∀ (n : Nat) (a0 : Nat) (a1 : Int32) (a2 : Int32) (I : (Nat → Nat → Int32)) (y : (Int32 × (Nat → Nat → Int32))), f_X11_weeks_51 N R n a0 a1 a2 I = some y → sm_W l 4 mX11_weeks 51 [(0, .inr (.inl a0)), (1, .inl a1), (2, .inl a2)] [] (I, R) (.inl (some (.inl y.1))) (y.2, R) := by
  intro n
  induction n with
  | zero => intro a0 a1 a2 I y h; cases h
  | succ n ih =>
    intro a0 a1 a2 I y h
    rw [f_X11_weeks_51] at h
    refine sm_iload_n (q := 52) dX11_weeks_51 rfl rfl 2 rfl ?_
    refine sm_aload_n (q := 53) dX11_weeks_52 rfl rfl 0 rfl ?_
    obtain ⟨hc1, h⟩ := sm_gd_e h
    refine sm_getR (r := R a0 3) (q := 56) dX11_weeks_53 rfl fk_X11_23 hc1 (by decide) (by decide) rfl ?_
    obtain ⟨hc2, h⟩ := sm_gd_e h
    refine sm_getR (r := R (R a0 3) 5) (q := 59) dX11_weeks_56 rfl fk_X11_132 hc2 (by decide) (by decide) rfl ?_
    obtain ⟨hc3, h⟩ := sm_gd_e h
    refine sm_getI (q := 62) dX11_weeks_59 rfl fk_X11_135 hc3 (by decide) (by decide) ?_
    rcases sm_if_e h with ⟨hb4, h⟩ | ⟨hb4, h⟩
    · refine sm_icmp_ge (tgt := 91) (q := 65) dX11_weeks_62 (by decide) rfl (fun _ => ?_) (fun hn => absurd hb4 hn)
      refine sm_aload_n (q := 92) dX11_weeks_91 rfl rfl 0 rfl ?_
      refine sm_getR (r := R a0 3) (q := 95) dX11_weeks_92 rfl fk_X11_23 hc1 (by decide) (by decide) rfl ?_
      refine sm_getR (r := R (R a0 3) 5) (q := 98) dX11_weeks_95 rfl fk_X11_132 hc2 (by decide) (by decide) rfl ?_
      refine sm_dup (q := 99) dX11_weeks_98 rfl rfl ?_
      refine sm_getI (q := 102) dX11_weeks_99 rfl fk_X11_141 hc3 (by decide) (by decide) ?_
      refine sm_iload_n (q := 103) dX11_weeks_102 rfl rfl 1 rfl ?_
      refine sm_iadd (q := 104) dX11_weeks_103 rfl ?_
      obtain ⟨I5, hI5, h⟩ := sm_lt_e h
      refine sm_putI (q := 107) dX11_weeks_104 rfl fk_X11_141 hc3 (by decide) (by decide) ?_
      refine sm_memI hI5 ?_
      refine sm_aload_n (q := 108) dX11_weeks_107 rfl rfl 0 rfl ?_
      refine sm_getR (r := R a0 3) (q := 111) dX11_weeks_108 rfl fk_X11_23 hc1 (by decide) (by decide) rfl ?_
      refine sm_getR (r := R (R a0 3) 5) (q := 114) dX11_weeks_111 rfl fk_X11_132 hc2 (by decide) (by decide) rfl ?_
      refine sm_getI (q := 117) dX11_weeks_114 rfl fk_X11_141 hc3 (by decide) (by decide) ?_
      obtain rfl := Option.some.inj h
      exact sm_iret dX11_weeks_117 rfl
    · refine sm_icmp_ge (tgt := 91) (q := 65) dX11_weeks_62 (by decide) rfl (fun ht => absurd ht hb4) (fun _ => ?_)
      refine sm_aload_n (q := 66) dX11_weeks_65 rfl rfl 0 rfl ?_
      refine sm_getR (r := R a0 3) (q := 69) dX11_weeks_66 rfl fk_X11_23 hc1 (by decide) (by decide) rfl ?_
      refine sm_aload_n (q := 70) dX11_weeks_69 rfl rfl 0 rfl ?_
      refine sm_getR (r := R a0 3) (q := 73) dX11_weeks_70 rfl fk_X11_23 hc1 (by decide) (by decide) rfl ?_
      refine sm_getR (r := R (R a0 3) 5) (q := 76) dX11_weeks_73 rfl fk_X11_132 hc2 (by decide) (by decide) rfl ?_
      refine sm_getR (r := R (R (R a0 3) 5) 0) (q := 79) dX11_weeks_76 rfl fk_X11_165 hc3 (by decide) (by decide) rfl ?_
      refine sm_iload_n (q := 80) dX11_weeks_79 rfl rfl 2 rfl ?_
      obtain ⟨hc6, h⟩ := sm_gd_e h
      refine sm_aald (t := 3) (n := (sm_kd (R (R (R a0 3) 5) 0)).2) (q := 81) dX11_weeks_80 rfl (Prod.ext hc6.1 rfl) (Or.inl ⟨rfl, rfl⟩) hc6.2 rfl ?_
      refine sm_iload_n (q := 82) dX11_weeks_81 rfl rfl 1 rfl ?_
      obtain ⟨p7, hc_p7, h⟩ := sm_bd_e h
      refine sm_callVv (q := 85) (As := [.inr (.inl (R (R (R (R a0 3) 5) 0) (a2).toNatClampNeg)), .inl a1]) (S := []) (e_X7_passWeeks hc_p7) mv_X11_234 hc2 rfl (by decide) (Nat.le_of_ble_eq_true rfl) dX11_weeks_82 rfl ?_
      refine sm_iinc (v := (a2 + 1)) (L' := [(2, .inl (a2 + 1)), (0, .inr (.inl a0)), (1, .inl a1)]) (q := 88) dX11_weeks_85 rfl 2 rfl rfl (by decide) rfl ?_
      refine sm_goto (q := 51) dX11_weeks_88 (by decide) ?_
      refine sm_pick [1, 2, 0] rfl ?_
      exact ih _ _ _ _ _ h
set_option maxHeartbeats 4000000 in
set_option maxRecDepth 100000 in
theorem w_X11_weeks {l : Launch} (N : Nat) (R : Nat → Nat → Nat) : ∀ (a0 : Nat) (a1 : Int32) (I : (Nat → Nat → Int32)) (y : (Int32 × (Nat → Nat → Int32))), f_X11_weeks N R a0 a1 I = some y → sm_W l 4 mX11_weeks 0 [(0, .inr (.inl a0)), (1, .inl a1)] [] (I, R) (.inl (some (.inl y.1))) (y.2, R) := by
  intro a0 a1 I y h
  unfold f_X11_weeks at h
  refine sm_iload_n (q := 1) dX11_weeks_0 rfl rfl 1 rfl ?_
  refine sm_iconst (v := 1) (q := 2) dX11_weeks_1 rfl (by decide) ?_
  rcases sm_if_e h with ⟨hb1, h⟩ | ⟨hb1, h⟩
  · refine sm_icmp_lt (tgt := 29) (q := 5) dX11_weeks_2 (by decide) rfl (fun _ => ?_) (fun hn => absurd hb1 hn)
    refine sm_aload_n (q := 30) dX11_weeks_29 rfl rfl 0 rfl ?_
    refine sm_iconst (v := 1) (q := 31) dX11_weeks_30 rfl (by decide) ?_
    obtain ⟨hc2, h⟩ := sm_gd_e h
    obtain ⟨p3, hc_p3, h⟩ := sm_bd_e h
    refine sm_callVi (q := 34) (As := [.inl (1 : Int32)]) (S := []) (e_X11_refuse hc_p3) mv_X11_227 hc2 rfl (by decide) (Nat.le_of_ble_eq_true rfl) dX11_weeks_31 rfl ?_
    obtain rfl := Option.some.inj h
    exact sm_iret dX11_weeks_34 rfl
  · refine sm_icmp_lt (tgt := 29) (q := 5) dX11_weeks_2 (by decide) rfl (fun ht => absurd ht hb1) (fun _ => ?_)
    refine sm_iload_n (q := 6) dX11_weeks_5 rfl rfl 1 rfl ?_
    refine sm_bipush (v := 20) (q := 8) dX11_weeks_6 rfl (by decide) ?_
    rcases sm_if_e h with ⟨hb4, h⟩ | ⟨hb4, h⟩
    · refine sm_icmp_gt (tgt := 29) (q := 11) dX11_weeks_8 (by decide) rfl (fun _ => ?_) (fun hn => absurd hb4 hn)
      refine sm_aload_n (q := 30) dX11_weeks_29 rfl rfl 0 rfl ?_
      refine sm_iconst (v := 1) (q := 31) dX11_weeks_30 rfl (by decide) ?_
      obtain ⟨hc5, h⟩ := sm_gd_e h
      obtain ⟨p6, hc_p6, h⟩ := sm_bd_e h
      refine sm_callVi (q := 34) (As := [.inl (1 : Int32)]) (S := []) (e_X11_refuse hc_p6) mv_X11_227 hc5 rfl (by decide) (Nat.le_of_ble_eq_true rfl) dX11_weeks_31 rfl ?_
      obtain rfl := Option.some.inj h
      exact sm_iret dX11_weeks_34 rfl
    · refine sm_icmp_gt (tgt := 29) (q := 11) dX11_weeks_8 (by decide) rfl (fun ht => absurd ht hb4) (fun _ => ?_)
      refine sm_aload_n (q := 12) dX11_weeks_11 rfl rfl 0 rfl ?_
      obtain ⟨hc7, h⟩ := sm_gd_e h
      refine sm_getR (r := R a0 3) (q := 15) dX11_weeks_12 rfl fk_X11_23 hc7 (by decide) (by decide) rfl ?_
      obtain ⟨hc8, h⟩ := sm_gd_e h
      refine sm_getR (r := R (R a0 3) 5) (q := 18) dX11_weeks_15 rfl fk_X11_132 hc8 (by decide) (by decide) rfl ?_
      obtain ⟨hc9, h⟩ := sm_gd_e h
      refine sm_getI (q := 21) dX11_weeks_18 rfl fk_X11_141 hc9 (by decide) (by decide) ?_
      refine sm_sipush (v := 999) (q := 24) dX11_weeks_21 rfl (by decide) ?_
      refine sm_iload_n (q := 25) dX11_weeks_24 rfl rfl 1 rfl ?_
      refine sm_isub (q := 26) dX11_weeks_25 rfl ?_
      rcases sm_if_e h with ⟨hb10, h⟩ | ⟨hb10, h⟩
      · refine sm_icmp_le (tgt := 35) (q := 29) dX11_weeks_26 (by decide) rfl (fun _ => ?_) (fun hn => absurd hb10 hn)
        refine sm_aload_n (q := 36) dX11_weeks_35 rfl rfl 0 rfl ?_
        refine sm_getR (r := R a0 4) (q := 39) dX11_weeks_36 rfl fk_X11_30 hc7 (by decide) (by decide) rfl ?_
        refine sm_aload_n (q := 40) dX11_weeks_39 rfl rfl 0 rfl ?_
        refine sm_getR (r := R a0 3) (q := 43) dX11_weeks_40 rfl fk_X11_23 hc7 (by decide) (by decide) rfl ?_
        refine sm_getR (r := R (R a0 3) 5) (q := 46) dX11_weeks_43 rfl fk_X11_132 hc8 (by decide) (by decide) rfl ?_
        obtain ⟨hc11, h⟩ := sm_gd_e h
        obtain ⟨p12, hc_p12, h⟩ := sm_bd_e h
        refine sm_callVv (q := 49) (As := [.inr (.inl (R (R a0 3) 5))]) (S := []) (e_X0_keep hc_p12) mv_X11_230 hc11 rfl (by decide) (Nat.le_of_ble_eq_true rfl) dX11_weeks_46 rfl ?_
        refine sm_iconst (v := 0) (q := 50) dX11_weeks_49 rfl (by decide) ?_
        refine sm_istore_n (L' := [(2, .inl (0 : Int32)), (0, .inr (.inl a0)), (1, .inl a1)]) (q := 51) dX11_weeks_50 rfl rfl (by decide) rfl ?_
        refine sm_pick [1, 2, 0] rfl ?_
        exact w_X11_weeks_51 N R N _ _ _ _ _ h
      · refine sm_icmp_le (tgt := 35) (q := 29) dX11_weeks_26 (by decide) rfl (fun ht => absurd ht hb10) (fun _ => ?_)
        refine sm_aload_n (q := 30) dX11_weeks_29 rfl rfl 0 rfl ?_
        refine sm_iconst (v := 1) (q := 31) dX11_weeks_30 rfl (by decide) ?_
        obtain ⟨p13, hc_p13, h⟩ := sm_bd_e h
        refine sm_callVi (q := 34) (As := [.inl (1 : Int32)]) (S := []) (e_X11_refuse hc_p13) mv_X11_227 hc7 rfl (by decide) (Nat.le_of_ble_eq_true rfl) dX11_weeks_31 rfl ?_
        obtain rfl := Option.some.inj h
        exact sm_iret dX11_weeks_34 rfl
theorem e_X11_weeks {l : Launch} {N : Nat} {R : Nat → Nat → Nat} {a0 : Nat} {a1 : Int32} {I : (Nat → Nat → Int32)} {y : (Int32 × (Nat → Nat → Int32))} (h : f_X11_weeks N R a0 a1 I = some y) : sm_E l 4 mX11_weeks [.inr (.inl a0), .inl a1] (I, R) (.inl (some (.inl y.1))) (y.2, R) :=
  sm_meth (by decide) (Nat.le_of_ble_eq_true rfl) (w_X11_weeks N R a0 a1 I y h)
def f_X11_door (N : Nat) (R : Nat → Nat → Nat) : Nat → Int32 → Int32 → (Nat → Nat → Int32) → Option ((Int32 ⊕ String) × (Nat → Nat → Int32)) := fun a0 a1 a2 I =>
  sm_gd (sm_kd a0 = (11, 16)) <|
  sm_tb (f_X11_needPupil N R a0 a1 I) fun r3 J4 =>
  sm_gd (sm_kd (R a0 3) = (7, 9)) <|
  sm_gd (sm_kd (R (R a0 3) 5) = (10, 4)) <|
  (f_X10_couldGo N R (R (R a0 3) 5) r3 a2 J4).bind fun p7 =>
  if p7.1 = 0 then (
    (f_X11_refuse N R a0 (1 : Int32) p7.2).bind fun p9 =>
    some (.inl p9.1, p9.2))
  else (
    sm_gd (sm_kd (R a0 4) = (0, 3)) <|
    (f_X0_keep N R (R a0 4) (R (R a0 3) 5) p7.2).bind fun p11 =>
    (f_X7_goThrough N R (R a0 3) r3 a2 p11.2).bind fun p12 =>
    sm_gd (sm_kd r3 = (4, 6)) <|
    some (.inl (p12.2 r3 0), p12.2))
set_option maxHeartbeats 4000000 in
set_option maxRecDepth 100000 in
theorem w_X11_door {l : Launch} (hl : l.stackTraces = false) (N : Nat) (R : Nat → Nat → Nat) : ∀ (a0 : Nat) (a1 : Int32) (a2 : Int32) (I : (Nat → Nat → Int32)) (y : ((Int32 ⊕ String) × (Nat → Nat → Int32))), f_X11_door N R a0 a1 a2 I = some y → sm_W l 4 mX11_door 0 [(0, .inr (.inl a0)), (1, .inl a1), (2, .inl a2)] [] (I, R) (sm_oI y.1) (y.2, R) := by
  intro a0 a1 a2 I y h
  unfold f_X11_door at h
  refine sm_aload_n (q := 1) dX11_door_0 rfl rfl 0 rfl ?_
  refine sm_iload_n (q := 2) dX11_door_1 rfl rfl 1 rfl ?_
  obtain ⟨hc1, h⟩ := sm_gd_e h
  rcases sm_tb_e h with ⟨r3, J4, hc_p2, h⟩ | ⟨E9, J9, hc_p2, h⟩
  · refine sm_callVr (q := 5) (As := [.inl a1]) (S := []) (ek_X11_needPupil hl hc_p2) mv_X11_193 hc1 rfl (by decide) (Nat.le_of_ble_eq_true rfl) dX11_door_2 rfl ?_
    refine sm_astore_n (L' := [(3, .inr (.inl r3)), (0, .inr (.inl a0)), (1, .inl a1), (2, .inl a2)]) (q := 6) dX11_door_5 rfl rfl (by decide) rfl ?_
    refine sm_aload_n (q := 7) dX11_door_6 rfl rfl 1 rfl ?_
    refine sm_getR (r := R a0 3) (q := 10) dX11_door_7 rfl fk_X11_23 hc1 (by decide) (by decide) rfl ?_
    obtain ⟨hc5, h⟩ := sm_gd_e h
    refine sm_getR (r := R (R a0 3) 5) (q := 13) dX11_door_10 rfl fk_X11_132 hc5 (by decide) (by decide) rfl ?_
    refine sm_aload_n (q := 14) dX11_door_13 rfl rfl 0 rfl ?_
    refine sm_iload_n (q := 15) dX11_door_14 rfl rfl 3 rfl ?_
    obtain ⟨hc6, h⟩ := sm_gd_e h
    obtain ⟨p7, hc_p7, h⟩ := sm_bd_e h
    refine sm_callVi (q := 18) (As := [.inr (.inl r3), .inl a2]) (S := []) (e_X10_couldGo hc_p7) mv_X11_238 hc6 rfl (by decide) (Nat.le_of_ble_eq_true rfl) dX11_door_15 rfl ?_
    rcases sm_if_e h with ⟨hb8, h⟩ | ⟨hb8, h⟩
    · refine sm_if_ne (tgt := 27) (q := 21) dX11_door_18 (by decide) rfl (fun hn => absurd hb8 hn) (fun _ => ?_)
      refine sm_aload_n (q := 22) dX11_door_21 rfl rfl 1 rfl ?_
      refine sm_iconst (v := 1) (q := 23) dX11_door_22 rfl (by decide) ?_
      obtain ⟨p9, hc_p9, h⟩ := sm_bd_e h
      refine sm_callVi (q := 26) (As := [.inl (1 : Int32)]) (S := []) (e_X11_refuse hc_p9) mv_X11_227 hc1 rfl (by decide) (Nat.le_of_ble_eq_true rfl) dX11_door_23 rfl ?_
      obtain rfl := Option.some.inj h
      exact sm_iret dX11_door_26 rfl
    · refine sm_if_ne (tgt := 27) (q := 21) dX11_door_18 (by decide) rfl (fun _ => ?_) (fun he => absurd he hb8)
      refine sm_aload_n (q := 28) dX11_door_27 rfl rfl 1 rfl ?_
      refine sm_getR (r := R a0 4) (q := 31) dX11_door_28 rfl fk_X11_30 hc1 (by decide) (by decide) rfl ?_
      refine sm_aload_n (q := 32) dX11_door_31 rfl rfl 1 rfl ?_
      refine sm_getR (r := R a0 3) (q := 35) dX11_door_32 rfl fk_X11_23 hc1 (by decide) (by decide) rfl ?_
      refine sm_getR (r := R (R a0 3) 5) (q := 38) dX11_door_35 rfl fk_X11_132 hc5 (by decide) (by decide) rfl ?_
      obtain ⟨hc10, h⟩ := sm_gd_e h
      obtain ⟨p11, hc_p11, h⟩ := sm_bd_e h
      refine sm_callVv (q := 41) (As := [.inr (.inl (R (R a0 3) 5))]) (S := []) (e_X0_keep hc_p11) mv_X11_230 hc10 rfl (by decide) (Nat.le_of_ble_eq_true rfl) dX11_door_38 rfl ?_
      refine sm_aload_n (q := 42) dX11_door_41 rfl rfl 1 rfl ?_
      refine sm_getR (r := R a0 3) (q := 45) dX11_door_42 rfl fk_X11_23 hc1 (by decide) (by decide) rfl ?_
      refine sm_aload_n (q := 46) dX11_door_45 rfl rfl 0 rfl ?_
      refine sm_iload_n (q := 47) dX11_door_46 rfl rfl 3 rfl ?_
      obtain ⟨p12, hc_p12, h⟩ := sm_bd_e h
      refine sm_callVv (q := 50) (As := [.inr (.inl r3), .inl a2]) (S := []) (e_X7_goThrough hc_p12) mv_X11_242 hc5 rfl (by decide) (Nat.le_of_ble_eq_true rfl) dX11_door_47 rfl ?_
      refine sm_aload_n (q := 51) dX11_door_50 rfl rfl 0 rfl ?_
      obtain ⟨hc13, h⟩ := sm_gd_e h
      refine sm_getI (q := 54) dX11_door_51 rfl fk_X11_197 hc13 (by decide) (by decide) ?_
      obtain rfl := Option.some.inj h
      exact sm_iret dX11_door_54 rfl
  · obtain rfl := Option.some.inj h
    exact sm_callVX (E := E9) (As := [.inl a1]) (S := []) (ex_X11_needPupil hl hc_p2) mv_X11_193 hc1 rfl (by decide) (Nat.le_of_ble_eq_true rfl) dX11_door_2
theorem e_X11_door {l : Launch} (hl : l.stackTraces = false) {N : Nat} {R : Nat → Nat → Nat} {a0 : Nat} {a1 : Int32} {a2 : Int32} {I : (Nat → Nat → Int32)} {y : ((Int32 ⊕ String) × (Nat → Nat → Int32))} (h : f_X11_door N R a0 a1 a2 I = some y) : sm_E l 4 mX11_door [.inr (.inl a0), .inl a1, .inl a2] (I, R) (sm_oI y.1) (y.2, R) :=
  sm_meth (by decide) (Nat.le_of_ble_eq_true rfl) (w_X11_door hl N R a0 a1 a2 I y h)
theorem ek_X11_door {l : Launch} (hl : l.stackTraces = false) {N : Nat} {R : Nat → Nat → Nat} {a0 : Nat} {a1 : Int32} {a2 : Int32} {I : (Nat → Nat → Int32)} {r : Int32} {J : (Nat → Nat → Int32)} (h : f_X11_door N R a0 a1 a2 I = some (.inl r, J)) : sm_E l 4 mX11_door [.inr (.inl a0), .inl a1, .inl a2] (I, R) (.inl (some (.inl r))) (J, R) := by
  have h1 := e_X11_door (l := l) hl h
  exact h1
theorem ex_X11_door {l : Launch} (hl : l.stackTraces = false) {N : Nat} {R : Nat → Nat → Nat} {a0 : Nat} {a1 : Int32} {a2 : Int32} {I : (Nat → Nat → Int32)} {E : String} {J : (Nat → Nat → Int32)} (h : f_X11_door N R a0 a1 a2 I = some (.inr E, J)) : sm_E l 4 mX11_door [.inr (.inl a0), .inl a1, .inl a2] (I, R) (.inr E) (J, R) := by
  have h1 := e_X11_door (l := l) hl h
  exact h1
def f_X11_gloves (N : Nat) (R : Nat → Nat → Nat) : Nat → Int32 → Int32 → (Nat → Nat → Int32) → Option ((Int32 ⊕ String) × (Nat → Nat → Int32)) := fun a0 a1 a2 I =>
  sm_gd (sm_kd a0 = (11, 16)) <|
  sm_tb (f_X11_needPupil N R a0 a1 I) fun r3 J4 =>
  if a2 < (1 : Int32) then (
    (f_X11_refuse N R a0 (1 : Int32) J4).bind fun p6 =>
    some (.inl p6.1, p6.2))
  else (
    if a2 ≤ (9 : Int32) then (
      sm_gd (sm_kd (R a0 3) = (7, 9)) <|
      sm_gd (sm_kd (R a0 4) = (0, 3)) <|
      (f_X0_keep N R (R a0 4) (R (R a0 3) 5) J4).bind fun p10 =>
      sm_gd (sm_kd r3 = (4, 6)) <|
      (f_X4_addSore N R r3 (-a2) p10.2).bind fun p12 =>
      some (.inl (p12.2 r3 1), p12.2))
    else (
      (f_X11_refuse N R a0 (1 : Int32) J4).bind fun p13 =>
      some (.inl p13.1, p13.2)))
set_option maxHeartbeats 4000000 in
set_option maxRecDepth 100000 in
theorem w_X11_gloves {l : Launch} (hl : l.stackTraces = false) (N : Nat) (R : Nat → Nat → Nat) : ∀ (a0 : Nat) (a1 : Int32) (a2 : Int32) (I : (Nat → Nat → Int32)) (y : ((Int32 ⊕ String) × (Nat → Nat → Int32))), f_X11_gloves N R a0 a1 a2 I = some y → sm_W l 3 mX11_gloves 0 [(0, .inr (.inl a0)), (1, .inl a1), (2, .inl a2)] [] (I, R) (sm_oI y.1) (y.2, R) := by
  intro a0 a1 a2 I y h
  unfold f_X11_gloves at h
  refine sm_aload_n (q := 1) dX11_gloves_0 rfl rfl 0 rfl ?_
  refine sm_iload_n (q := 2) dX11_gloves_1 rfl rfl 1 rfl ?_
  obtain ⟨hc1, h⟩ := sm_gd_e h
  rcases sm_tb_e h with ⟨r3, J4, hc_p2, h⟩ | ⟨E9, J9, hc_p2, h⟩
  · refine sm_callVr (q := 5) (As := [.inl a1]) (S := []) (ek_X11_needPupil hl hc_p2) mv_X11_193 hc1 rfl (by decide) (Nat.le_of_ble_eq_true rfl) dX11_gloves_2 rfl ?_
    refine sm_astore_n (L' := [(3, .inr (.inl r3)), (0, .inr (.inl a0)), (1, .inl a1), (2, .inl a2)]) (q := 6) dX11_gloves_5 rfl rfl (by decide) rfl ?_
    refine sm_iload_n (q := 7) dX11_gloves_6 rfl rfl 3 rfl ?_
    refine sm_iconst (v := 1) (q := 8) dX11_gloves_7 rfl (by decide) ?_
    rcases sm_if_e h with ⟨hb5, h⟩ | ⟨hb5, h⟩
    · refine sm_icmp_lt (tgt := 17) (q := 11) dX11_gloves_8 (by decide) rfl (fun _ => ?_) (fun hn => absurd hb5 hn)
      refine sm_aload_n (q := 18) dX11_gloves_17 rfl rfl 1 rfl ?_
      refine sm_iconst (v := 1) (q := 19) dX11_gloves_18 rfl (by decide) ?_
      obtain ⟨p6, hc_p6, h⟩ := sm_bd_e h
      refine sm_callVi (q := 22) (As := [.inl (1 : Int32)]) (S := []) (e_X11_refuse hc_p6) mv_X11_227 hc1 rfl (by decide) (Nat.le_of_ble_eq_true rfl) dX11_gloves_19 rfl ?_
      obtain rfl := Option.some.inj h
      exact sm_iret dX11_gloves_22 rfl
    · refine sm_icmp_lt (tgt := 17) (q := 11) dX11_gloves_8 (by decide) rfl (fun ht => absurd ht hb5) (fun _ => ?_)
      refine sm_iload_n (q := 12) dX11_gloves_11 rfl rfl 3 rfl ?_
      refine sm_bipush (v := 9) (q := 14) dX11_gloves_12 rfl (by decide) ?_
      rcases sm_if_e h with ⟨hb7, h⟩ | ⟨hb7, h⟩
      · refine sm_icmp_le (tgt := 23) (q := 17) dX11_gloves_14 (by decide) rfl (fun _ => ?_) (fun hn => absurd hb7 hn)
        refine sm_aload_n (q := 24) dX11_gloves_23 rfl rfl 1 rfl ?_
        refine sm_getR (r := R a0 4) (q := 27) dX11_gloves_24 rfl fk_X11_30 hc1 (by decide) (by decide) rfl ?_
        refine sm_aload_n (q := 28) dX11_gloves_27 rfl rfl 1 rfl ?_
        refine sm_getR (r := R a0 3) (q := 31) dX11_gloves_28 rfl fk_X11_23 hc1 (by decide) (by decide) rfl ?_
        obtain ⟨hc8, h⟩ := sm_gd_e h
        refine sm_getR (r := R (R a0 3) 5) (q := 34) dX11_gloves_31 rfl fk_X11_132 hc8 (by decide) (by decide) rfl ?_
        obtain ⟨hc9, h⟩ := sm_gd_e h
        obtain ⟨p10, hc_p10, h⟩ := sm_bd_e h
        refine sm_callVv (q := 37) (As := [.inr (.inl (R (R a0 3) 5))]) (S := []) (e_X0_keep hc_p10) mv_X11_230 hc9 rfl (by decide) (Nat.le_of_ble_eq_true rfl) dX11_gloves_34 rfl ?_
        refine sm_aload_n (q := 38) dX11_gloves_37 rfl rfl 0 rfl ?_
        refine sm_iload_n (q := 39) dX11_gloves_38 rfl rfl 3 rfl ?_
        refine sm_ineg (q := 40) dX11_gloves_39 rfl ?_
        obtain ⟨hc11, h⟩ := sm_gd_e h
        obtain ⟨p12, hc_p12, h⟩ := sm_bd_e h
        refine sm_callVv (q := 43) (As := [.inl (-a2)]) (S := []) (e_X4_addSore hc_p12) mv_X11_245 hc11 rfl (by decide) (Nat.le_of_ble_eq_true rfl) dX11_gloves_40 rfl ?_
        refine sm_aload_n (q := 44) dX11_gloves_43 rfl rfl 0 rfl ?_
        refine sm_getI (q := 47) dX11_gloves_44 rfl fk_X11_200 hc11 (by decide) (by decide) ?_
        obtain rfl := Option.some.inj h
        exact sm_iret dX11_gloves_47 rfl
      · refine sm_icmp_le (tgt := 23) (q := 17) dX11_gloves_14 (by decide) rfl (fun ht => absurd ht hb7) (fun _ => ?_)
        refine sm_aload_n (q := 18) dX11_gloves_17 rfl rfl 1 rfl ?_
        refine sm_iconst (v := 1) (q := 19) dX11_gloves_18 rfl (by decide) ?_
        obtain ⟨p13, hc_p13, h⟩ := sm_bd_e h
        refine sm_callVi (q := 22) (As := [.inl (1 : Int32)]) (S := []) (e_X11_refuse hc_p13) mv_X11_227 hc1 rfl (by decide) (Nat.le_of_ble_eq_true rfl) dX11_gloves_19 rfl ?_
        obtain rfl := Option.some.inj h
        exact sm_iret dX11_gloves_22 rfl
  · obtain rfl := Option.some.inj h
    exact sm_callVX (E := E9) (As := [.inl a1]) (S := []) (ex_X11_needPupil hl hc_p2) mv_X11_193 hc1 rfl (by decide) (Nat.le_of_ble_eq_true rfl) dX11_gloves_2
theorem e_X11_gloves {l : Launch} (hl : l.stackTraces = false) {N : Nat} {R : Nat → Nat → Nat} {a0 : Nat} {a1 : Int32} {a2 : Int32} {I : (Nat → Nat → Int32)} {y : ((Int32 ⊕ String) × (Nat → Nat → Int32))} (h : f_X11_gloves N R a0 a1 a2 I = some y) : sm_E l 3 mX11_gloves [.inr (.inl a0), .inl a1, .inl a2] (I, R) (sm_oI y.1) (y.2, R) :=
  sm_meth (by decide) (Nat.le_of_ble_eq_true rfl) (w_X11_gloves hl N R a0 a1 a2 I y h)
theorem ek_X11_gloves {l : Launch} (hl : l.stackTraces = false) {N : Nat} {R : Nat → Nat → Nat} {a0 : Nat} {a1 : Int32} {a2 : Int32} {I : (Nat → Nat → Int32)} {r : Int32} {J : (Nat → Nat → Int32)} (h : f_X11_gloves N R a0 a1 a2 I = some (.inl r, J)) : sm_E l 3 mX11_gloves [.inr (.inl a0), .inl a1, .inl a2] (I, R) (.inl (some (.inl r))) (J, R) := by
  have h1 := e_X11_gloves (l := l) hl h
  exact h1
theorem ex_X11_gloves {l : Launch} (hl : l.stackTraces = false) {N : Nat} {R : Nat → Nat → Nat} {a0 : Nat} {a1 : Int32} {a2 : Int32} {I : (Nat → Nat → Int32)} {E : String} {J : (Nat → Nat → Int32)} (h : f_X11_gloves N R a0 a1 a2 I = some (.inr E, J)) : sm_E l 3 mX11_gloves [.inr (.inl a0), .inl a1, .inl a2] (I, R) (.inr E) (J, R) := by
  have h1 := e_X11_gloves (l := l) hl h
  exact h1
def f_X11_begin (N : Nat) (R : Nat → Nat → Nat) : Nat → Int32 → Int32 → (Nat → Nat → Int32) → Option ((Int32 ⊕ String) × (Nat → Nat → Int32)) := fun a0 a1 a2 I =>
  sm_gd (sm_kd a0 = (11, 16)) <|
  sm_tb (f_X11_needPupil N R a0 a1 I) fun r3 J4 =>
  sm_tb (f_X11_needPiece N R a0 a2 J4) fun r6 J7 =>
  sm_gd (sm_kd r3 = (4, 6)) <|
  if (J7 r3 2) = a2 then (
    (f_X11_refuse N R a0 (1 : Int32) J7).bind fun p10 =>
    some (.inl p10.1, p10.2))
  else (
    sm_gd (sm_kd (R a0 3) = (7, 9)) <|
    sm_gd (sm_kd (R a0 4) = (0, 3)) <|
    (f_X0_keep N R (R a0 4) (R (R a0 3) 5) J7).bind fun p13 =>
    sm_lt (sm_up p13.2 r3 (sm_up (p13.2 r3) 2 a2)) fun I14 =>
    sm_lt (sm_up I14 r3 (sm_up (I14 r3) 3 (0 : Int32))) fun I15 =>
    some (.inl (p13.2 r3 2), I15))
set_option maxHeartbeats 4000000 in
set_option maxRecDepth 100000 in
theorem w_X11_begin {l : Launch} (hl : l.stackTraces = false) (N : Nat) (R : Nat → Nat → Nat) : ∀ (a0 : Nat) (a1 : Int32) (a2 : Int32) (I : (Nat → Nat → Int32)) (y : ((Int32 ⊕ String) × (Nat → Nat → Int32))), f_X11_begin N R a0 a1 a2 I = some y → sm_W l 3 mX11_begin 0 [(0, .inr (.inl a0)), (1, .inl a1), (2, .inl a2)] [] (I, R) (sm_oI y.1) (y.2, R) := by
  intro a0 a1 a2 I y h
  unfold f_X11_begin at h
  refine sm_aload_n (q := 1) dX11_begin_0 rfl rfl 0 rfl ?_
  refine sm_iload_n (q := 2) dX11_begin_1 rfl rfl 1 rfl ?_
  obtain ⟨hc1, h⟩ := sm_gd_e h
  rcases sm_tb_e h with ⟨r3, J4, hc_p2, h⟩ | ⟨E9, J9, hc_p2, h⟩
  · refine sm_callVr (q := 5) (As := [.inl a1]) (S := []) (ek_X11_needPupil hl hc_p2) mv_X11_193 hc1 rfl (by decide) (Nat.le_of_ble_eq_true rfl) dX11_begin_2 rfl ?_
    refine sm_astore_n (L' := [(3, .inr (.inl r3)), (0, .inr (.inl a0)), (1, .inl a1), (2, .inl a2)]) (q := 6) dX11_begin_5 rfl rfl (by decide) rfl ?_
    refine sm_aload_n (q := 7) dX11_begin_6 rfl rfl 1 rfl ?_
    refine sm_iload_n (q := 8) dX11_begin_7 rfl rfl 3 rfl ?_
    rcases sm_tb_e h with ⟨r6, J7, hc_p5, h⟩ | ⟨E9, J9, hc_p5, h⟩
    · refine sm_callVv (q := 11) (As := [.inl a2]) (S := []) (ek_X11_needPiece hl hc_p5) mv_X11_173 hc1 rfl (by decide) (Nat.le_of_ble_eq_true rfl) dX11_begin_8 rfl ?_
      refine sm_aload_n (q := 12) dX11_begin_11 rfl rfl 0 rfl ?_
      obtain ⟨hc8, h⟩ := sm_gd_e h
      refine sm_getI (q := 15) dX11_begin_12 rfl fk_X11_203 hc8 (by decide) (by decide) ?_
      refine sm_iload_n (q := 16) dX11_begin_15 rfl rfl 3 rfl ?_
      rcases sm_if_e h with ⟨hb9, h⟩ | ⟨hb9, h⟩
      · refine sm_icmp_ne (tgt := 25) (q := 19) dX11_begin_16 (by decide) rfl (fun hn => absurd hb9 hn) (fun _ => ?_)
        refine sm_aload_n (q := 20) dX11_begin_19 rfl rfl 1 rfl ?_
        refine sm_iconst (v := 1) (q := 21) dX11_begin_20 rfl (by decide) ?_
        obtain ⟨p10, hc_p10, h⟩ := sm_bd_e h
        refine sm_callVi (q := 24) (As := [.inl (1 : Int32)]) (S := []) (e_X11_refuse hc_p10) mv_X11_227 hc1 rfl (by decide) (Nat.le_of_ble_eq_true rfl) dX11_begin_21 rfl ?_
        obtain rfl := Option.some.inj h
        exact sm_iret dX11_begin_24 rfl
      · refine sm_icmp_ne (tgt := 25) (q := 19) dX11_begin_16 (by decide) rfl (fun _ => ?_) (fun he => absurd he hb9)
        refine sm_aload_n (q := 26) dX11_begin_25 rfl rfl 1 rfl ?_
        refine sm_getR (r := R a0 4) (q := 29) dX11_begin_26 rfl fk_X11_30 hc1 (by decide) (by decide) rfl ?_
        refine sm_aload_n (q := 30) dX11_begin_29 rfl rfl 1 rfl ?_
        refine sm_getR (r := R a0 3) (q := 33) dX11_begin_30 rfl fk_X11_23 hc1 (by decide) (by decide) rfl ?_
        obtain ⟨hc11, h⟩ := sm_gd_e h
        refine sm_getR (r := R (R a0 3) 5) (q := 36) dX11_begin_33 rfl fk_X11_132 hc11 (by decide) (by decide) rfl ?_
        obtain ⟨hc12, h⟩ := sm_gd_e h
        obtain ⟨p13, hc_p13, h⟩ := sm_bd_e h
        refine sm_callVv (q := 39) (As := [.inr (.inl (R (R a0 3) 5))]) (S := []) (e_X0_keep hc_p13) mv_X11_230 hc12 rfl (by decide) (Nat.le_of_ble_eq_true rfl) dX11_begin_36 rfl ?_
        refine sm_aload_n (q := 40) dX11_begin_39 rfl rfl 0 rfl ?_
        refine sm_getI (q := 43) dX11_begin_40 rfl fk_X11_203 hc8 (by decide) (by decide) ?_
        refine sm_istore (L' := [(4, .inl (p13.2 r3 2)), (3, .inr (.inl r3)), (0, .inr (.inl a0)), (1, .inl a1), (2, .inl a2)]) (q := 45) dX11_begin_43 rfl (by decide) rfl ?_
        refine sm_aload_n (q := 46) dX11_begin_45 rfl rfl 1 rfl ?_
        refine sm_iload_n (q := 47) dX11_begin_46 rfl rfl 4 rfl ?_
        obtain ⟨I14, hI14, h⟩ := sm_lt_e h
        refine sm_putI (q := 50) dX11_begin_47 rfl fk_X11_203 hc8 (by decide) (by decide) ?_
        refine sm_memI hI14 ?_
        refine sm_aload_n (q := 51) dX11_begin_50 rfl rfl 1 rfl ?_
        refine sm_iconst (v := 0) (q := 52) dX11_begin_51 rfl (by decide) ?_
        obtain ⟨I15, hI15, h⟩ := sm_lt_e h
        refine sm_putI (q := 55) dX11_begin_52 rfl fk_X11_206 hc8 (by decide) (by decide) ?_
        refine sm_memI hI15 ?_
        refine sm_iload (q := 57) dX11_begin_55 rfl 0 rfl ?_
        obtain rfl := Option.some.inj h
        exact sm_iret dX11_begin_57 rfl
    · obtain rfl := Option.some.inj h
      exact sm_callVX (E := E9) (As := [.inl a2]) (S := []) (ex_X11_needPiece hl hc_p5) mv_X11_173 hc1 rfl (by decide) (Nat.le_of_ble_eq_true rfl) dX11_begin_8
  · obtain rfl := Option.some.inj h
    exact sm_callVX (E := E9) (As := [.inl a1]) (S := []) (ex_X11_needPupil hl hc_p2) mv_X11_193 hc1 rfl (by decide) (Nat.le_of_ble_eq_true rfl) dX11_begin_2
theorem e_X11_begin {l : Launch} (hl : l.stackTraces = false) {N : Nat} {R : Nat → Nat → Nat} {a0 : Nat} {a1 : Int32} {a2 : Int32} {I : (Nat → Nat → Int32)} {y : ((Int32 ⊕ String) × (Nat → Nat → Int32))} (h : f_X11_begin N R a0 a1 a2 I = some y) : sm_E l 3 mX11_begin [.inr (.inl a0), .inl a1, .inl a2] (I, R) (sm_oI y.1) (y.2, R) :=
  sm_meth (by decide) (Nat.le_of_ble_eq_true rfl) (w_X11_begin hl N R a0 a1 a2 I y h)
theorem ek_X11_begin {l : Launch} (hl : l.stackTraces = false) {N : Nat} {R : Nat → Nat → Nat} {a0 : Nat} {a1 : Int32} {a2 : Int32} {I : (Nat → Nat → Int32)} {r : Int32} {J : (Nat → Nat → Int32)} (h : f_X11_begin N R a0 a1 a2 I = some (.inl r, J)) : sm_E l 3 mX11_begin [.inr (.inl a0), .inl a1, .inl a2] (I, R) (.inl (some (.inl r))) (J, R) := by
  have h1 := e_X11_begin (l := l) hl h
  exact h1
theorem ex_X11_begin {l : Launch} (hl : l.stackTraces = false) {N : Nat} {R : Nat → Nat → Nat} {a0 : Nat} {a1 : Int32} {a2 : Int32} {I : (Nat → Nat → Int32)} {E : String} {J : (Nat → Nat → Int32)} (h : f_X11_begin N R a0 a1 a2 I = some (.inr E, J)) : sm_E l 3 mX11_begin [.inr (.inl a0), .inl a1, .inl a2] (I, R) (.inr E) (J, R) := by
  have h1 := e_X11_begin (l := l) hl h
  exact h1
def f_X11_pianos (N : Nat) (R : Nat → Nat → Nat) : Nat → Int32 → (Nat → Nat → Int32) → Option (Int32 × (Nat → Nat → Int32)) := fun a0 a1 I =>
  if a1 < (1 : Int32) then (
    sm_gd (sm_kd a0 = (11, 16)) <|
    (f_X11_refuse N R a0 (1 : Int32) I).bind fun p3 =>
    some (p3.1, p3.2))
  else (
    if a1 ≤ (4 : Int32) then (
      sm_gd (sm_kd a0 = (11, 16)) <|
      sm_gd (sm_kd (R a0 3) = (7, 9)) <|
      sm_gd (sm_kd (R a0 4) = (0, 3)) <|
      (f_X0_keep N R (R a0 4) (R (R a0 3) 5) I).bind fun p8 =>
      sm_gd (sm_kd (R (R a0 3) 5) = (10, 4)) <|
      sm_lt (sm_up p8.2 (R (R a0 3) 5) (sm_up (p8.2 (R (R a0 3) 5)) 3 a1)) fun I10 =>
      some ((p8.2 (R (R a0 3) 5) 3), I10))
    else (
      sm_gd (sm_kd a0 = (11, 16)) <|
      (f_X11_refuse N R a0 (1 : Int32) I).bind fun p12 =>
      some (p12.1, p12.2)))
set_option maxHeartbeats 4000000 in
set_option maxRecDepth 100000 in
theorem w_X11_pianos {l : Launch} (N : Nat) (R : Nat → Nat → Nat) : ∀ (a0 : Nat) (a1 : Int32) (I : (Nat → Nat → Int32)) (y : (Int32 × (Nat → Nat → Int32))), f_X11_pianos N R a0 a1 I = some y → sm_W l 3 mX11_pianos 0 [(0, .inr (.inl a0)), (1, .inl a1)] [] (I, R) (.inl (some (.inl y.1))) (y.2, R) := by
  intro a0 a1 I y h
  unfold f_X11_pianos at h
  refine sm_iload_n (q := 1) dX11_pianos_0 rfl rfl 1 rfl ?_
  refine sm_iconst (v := 1) (q := 2) dX11_pianos_1 rfl (by decide) ?_
  rcases sm_if_e h with ⟨hb1, h⟩ | ⟨hb1, h⟩
  · refine sm_icmp_lt (tgt := 10) (q := 5) dX11_pianos_2 (by decide) rfl (fun _ => ?_) (fun hn => absurd hb1 hn)
    refine sm_aload_n (q := 11) dX11_pianos_10 rfl rfl 0 rfl ?_
    refine sm_iconst (v := 1) (q := 12) dX11_pianos_11 rfl (by decide) ?_
    obtain ⟨hc2, h⟩ := sm_gd_e h
    obtain ⟨p3, hc_p3, h⟩ := sm_bd_e h
    refine sm_callVi (q := 15) (As := [.inl (1 : Int32)]) (S := []) (e_X11_refuse hc_p3) mv_X11_227 hc2 rfl (by decide) (Nat.le_of_ble_eq_true rfl) dX11_pianos_12 rfl ?_
    obtain rfl := Option.some.inj h
    exact sm_iret dX11_pianos_15 rfl
  · refine sm_icmp_lt (tgt := 10) (q := 5) dX11_pianos_2 (by decide) rfl (fun ht => absurd ht hb1) (fun _ => ?_)
    refine sm_iload_n (q := 6) dX11_pianos_5 rfl rfl 1 rfl ?_
    refine sm_iconst (v := 4) (q := 7) dX11_pianos_6 rfl (by decide) ?_
    rcases sm_if_e h with ⟨hb4, h⟩ | ⟨hb4, h⟩
    · refine sm_icmp_le (tgt := 16) (q := 10) dX11_pianos_7 (by decide) rfl (fun _ => ?_) (fun hn => absurd hb4 hn)
      refine sm_aload_n (q := 17) dX11_pianos_16 rfl rfl 0 rfl ?_
      obtain ⟨hc5, h⟩ := sm_gd_e h
      refine sm_getR (r := R a0 4) (q := 20) dX11_pianos_17 rfl fk_X11_30 hc5 (by decide) (by decide) rfl ?_
      refine sm_aload_n (q := 21) dX11_pianos_20 rfl rfl 0 rfl ?_
      refine sm_getR (r := R a0 3) (q := 24) dX11_pianos_21 rfl fk_X11_23 hc5 (by decide) (by decide) rfl ?_
      obtain ⟨hc6, h⟩ := sm_gd_e h
      refine sm_getR (r := R (R a0 3) 5) (q := 27) dX11_pianos_24 rfl fk_X11_132 hc6 (by decide) (by decide) rfl ?_
      obtain ⟨hc7, h⟩ := sm_gd_e h
      obtain ⟨p8, hc_p8, h⟩ := sm_bd_e h
      refine sm_callVv (q := 30) (As := [.inr (.inl (R (R a0 3) 5))]) (S := []) (e_X0_keep hc_p8) mv_X11_230 hc7 rfl (by decide) (Nat.le_of_ble_eq_true rfl) dX11_pianos_27 rfl ?_
      refine sm_aload_n (q := 31) dX11_pianos_30 rfl rfl 0 rfl ?_
      refine sm_getR (r := R a0 3) (q := 34) dX11_pianos_31 rfl fk_X11_23 hc5 (by decide) (by decide) rfl ?_
      refine sm_getR (r := R (R a0 3) 5) (q := 37) dX11_pianos_34 rfl fk_X11_132 hc6 (by decide) (by decide) rfl ?_
      obtain ⟨hc9, h⟩ := sm_gd_e h
      refine sm_getI (q := 40) dX11_pianos_37 rfl fk_X11_138 hc9 (by decide) (by decide) ?_
      refine sm_istore_n (L' := [(2, .inl (p8.2 (R (R a0 3) 5) 3)), (0, .inr (.inl a0)), (1, .inl a1)]) (q := 41) dX11_pianos_40 rfl rfl (by decide) rfl ?_
      refine sm_aload_n (q := 42) dX11_pianos_41 rfl rfl 1 rfl ?_
      refine sm_getR (r := R a0 3) (q := 45) dX11_pianos_42 rfl fk_X11_23 hc5 (by decide) (by decide) rfl ?_
      refine sm_getR (r := R (R a0 3) 5) (q := 48) dX11_pianos_45 rfl fk_X11_132 hc6 (by decide) (by decide) rfl ?_
      refine sm_iload_n (q := 49) dX11_pianos_48 rfl rfl 2 rfl ?_
      obtain ⟨I10, hI10, h⟩ := sm_lt_e h
      refine sm_putI (q := 52) dX11_pianos_49 rfl fk_X11_138 hc9 (by decide) (by decide) ?_
      refine sm_memI hI10 ?_
      refine sm_iload_n (q := 53) dX11_pianos_52 rfl rfl 0 rfl ?_
      obtain rfl := Option.some.inj h
      exact sm_iret dX11_pianos_53 rfl
    · refine sm_icmp_le (tgt := 16) (q := 10) dX11_pianos_7 (by decide) rfl (fun ht => absurd ht hb4) (fun _ => ?_)
      refine sm_aload_n (q := 11) dX11_pianos_10 rfl rfl 0 rfl ?_
      refine sm_iconst (v := 1) (q := 12) dX11_pianos_11 rfl (by decide) ?_
      obtain ⟨hc11, h⟩ := sm_gd_e h
      obtain ⟨p12, hc_p12, h⟩ := sm_bd_e h
      refine sm_callVi (q := 15) (As := [.inl (1 : Int32)]) (S := []) (e_X11_refuse hc_p12) mv_X11_227 hc11 rfl (by decide) (Nat.le_of_ble_eq_true rfl) dX11_pianos_12 rfl ?_
      obtain rfl := Option.some.inj h
      exact sm_iret dX11_pianos_15 rfl
theorem e_X11_pianos {l : Launch} {N : Nat} {R : Nat → Nat → Nat} {a0 : Nat} {a1 : Int32} {I : (Nat → Nat → Int32)} {y : (Int32 × (Nat → Nat → Int32))} (h : f_X11_pianos N R a0 a1 I = some y) : sm_E l 3 mX11_pianos [.inr (.inl a0), .inl a1] (I, R) (.inl (some (.inl y.1))) (y.2, R) :=
  sm_meth (by decide) (Nat.le_of_ble_eq_true rfl) (w_X11_pianos N R a0 a1 I y h)
def f_X11_undo (N : Nat) (R : Nat → Nat → Nat) : Nat → (Nat → Nat → Int32) → Option (Int32 × (Nat → Nat → Int32)) := fun a0 I =>
  sm_gd (sm_kd a0 = (11, 16)) <|
  sm_gd (sm_kd (R a0 4) = (0, 3)) <|
  if (I (R a0 4) 2) = 0 then (
    some ((-1 : Int32), I))
  else (
    sm_gd (sm_kd (R a0 3) = (7, 9)) <|
    (f_X0_takeBack N R (R a0 4) (R (R a0 3) 5) I).bind fun p5 =>
    some ((p5.2 (R a0 4) 2), p5.2))
set_option maxHeartbeats 4000000 in
set_option maxRecDepth 100000 in
theorem w_X11_undo {l : Launch} (N : Nat) (R : Nat → Nat → Nat) : ∀ (a0 : Nat) (I : (Nat → Nat → Int32)) (y : (Int32 × (Nat → Nat → Int32))), f_X11_undo N R a0 I = some y → sm_W l 3 mX11_undo 0 [(0, .inr (.inl a0))] [] (I, R) (.inl (some (.inl y.1))) (y.2, R) := by
  intro a0 I y h
  unfold f_X11_undo at h
  refine sm_aload_n (q := 1) dX11_undo_0 rfl rfl 0 rfl ?_
  obtain ⟨hc1, h⟩ := sm_gd_e h
  refine sm_getR (r := R a0 4) (q := 4) dX11_undo_1 rfl fk_X11_30 hc1 (by decide) (by decide) rfl ?_
  obtain ⟨hc2, h⟩ := sm_gd_e h
  refine sm_getI (q := 7) dX11_undo_4 rfl fk_X11_155 hc2 (by decide) (by decide) ?_
  rcases sm_if_e h with ⟨hb3, h⟩ | ⟨hb3, h⟩
  · refine sm_if_ne (tgt := 12) (q := 10) dX11_undo_7 (by decide) rfl (fun hn => absurd hb3 hn) (fun _ => ?_)
    refine sm_iconst (v := -1) (q := 11) dX11_undo_10 rfl (by decide) ?_
    obtain rfl := Option.some.inj h
    exact sm_iret dX11_undo_11 rfl
  · refine sm_if_ne (tgt := 12) (q := 10) dX11_undo_7 (by decide) rfl (fun _ => ?_) (fun he => absurd he hb3)
    refine sm_aload_n (q := 13) dX11_undo_12 rfl rfl 0 rfl ?_
    refine sm_getR (r := R a0 4) (q := 16) dX11_undo_13 rfl fk_X11_30 hc1 (by decide) (by decide) rfl ?_
    refine sm_aload_n (q := 17) dX11_undo_16 rfl rfl 0 rfl ?_
    refine sm_getR (r := R a0 3) (q := 20) dX11_undo_17 rfl fk_X11_23 hc1 (by decide) (by decide) rfl ?_
    obtain ⟨hc4, h⟩ := sm_gd_e h
    refine sm_getR (r := R (R a0 3) 5) (q := 23) dX11_undo_20 rfl fk_X11_132 hc4 (by decide) (by decide) rfl ?_
    obtain ⟨p5, hc_p5, h⟩ := sm_bd_e h
    refine sm_callVv (q := 26) (As := [.inr (.inl (R (R a0 3) 5))]) (S := []) (e_X0_takeBack hc_p5) mv_X11_248 hc2 rfl (by decide) (Nat.le_of_ble_eq_true rfl) dX11_undo_23 rfl ?_
    refine sm_aload_n (q := 27) dX11_undo_26 rfl rfl 0 rfl ?_
    refine sm_getR (r := R a0 4) (q := 30) dX11_undo_27 rfl fk_X11_30 hc1 (by decide) (by decide) rfl ?_
    refine sm_getI (q := 33) dX11_undo_30 rfl fk_X11_155 hc2 (by decide) (by decide) ?_
    obtain rfl := Option.some.inj h
    exact sm_iret dX11_undo_33 rfl
theorem e_X11_undo {l : Launch} {N : Nat} {R : Nat → Nat → Nat} {a0 : Nat} {I : (Nat → Nat → Int32)} {y : (Int32 × (Nat → Nat → Int32))} (h : f_X11_undo N R a0 I = some y) : sm_E l 3 mX11_undo [.inr (.inl a0)] (I, R) (.inl (some (.inl y.1))) (y.2, R) :=
  sm_meth (by decide) (Nat.le_of_ble_eq_true rfl) (w_X11_undo N R a0 I y h)
def f_X11_needWhat (N : Nat) (R : Nat → Nat → Nat) : Int32 → Int32 → (Nat → Nat → Int32) → Option ((Unit ⊕ String) × (Nat → Nat → Int32)) := fun a0 a1 I =>
  if a0 < 0 then (
    some (.inr "java/util/NoSuchElementException", I))
  else (
    if a0 ≤ a1 then (
      some (.inl (), I))
    else (
      some (.inr "java/util/NoSuchElementException", I)))
set_option maxHeartbeats 4000000 in
set_option maxRecDepth 100000 in
theorem w_X11_needWhat {l : Launch} (hl : l.stackTraces = false) (N : Nat) (R : Nat → Nat → Nat) : ∀ (a0 : Int32) (a1 : Int32) (I : (Nat → Nat → Int32)) (y : ((Unit ⊕ String) × (Nat → Nat → Int32))), f_X11_needWhat N R a0 a1 I = some y → sm_W l 0 mX11_needWhat 0 [(0, .inl a0), (1, .inl a1)] [] (I, R) (sm_oU y.1) (y.2, R) := by
  intro a0 a1 I y h
  unfold f_X11_needWhat at h
  refine sm_iload_n (q := 1) dX11_needWhat_0 rfl rfl 0 rfl ?_
  rcases sm_if_e h with ⟨hb1, h⟩ | ⟨hb1, h⟩
  · refine sm_if_lt (tgt := 9) (q := 4) dX11_needWhat_1 (by decide) rfl (fun _ => ?_) (fun hn => absurd hb1 hn)
    obtain rfl := Option.some.inj h
    exact sm_throwW (tx := "no such what") (j := 22) hl (by decide +kernel) (by decide +kernel) (by decide +kernel) (by decide) bxN_0 bxN_1 bxN_2 bxN_5 cl_X11_160 in_NSE (List.mem_of_getElem? (i := 22) rfl) th_X11_164 tg_X11_160_164 (Nat.le_of_ble_eq_true rfl) dX11_needWhat_9 dX11_needWhat_12 dX11_needWhat_13 dX11_needWhat_16 dX11_needWhat_19
  · refine sm_if_lt (tgt := 9) (q := 4) dX11_needWhat_1 (by decide) rfl (fun ht => absurd ht hb1) (fun _ => ?_)
    refine sm_iload_n (q := 5) dX11_needWhat_4 rfl rfl 0 rfl ?_
    refine sm_iload_n (q := 6) dX11_needWhat_5 rfl rfl 1 rfl ?_
    rcases sm_if_e h with ⟨hb2, h⟩ | ⟨hb2, h⟩
    · refine sm_icmp_le (tgt := 20) (q := 9) dX11_needWhat_6 (by decide) rfl (fun _ => ?_) (fun hn => absurd hb2 hn)
      obtain rfl := Option.some.inj h
      exact sm_vret dX11_needWhat_20 rfl
    · refine sm_icmp_le (tgt := 20) (q := 9) dX11_needWhat_6 (by decide) rfl (fun ht => absurd ht hb2) (fun _ => ?_)
      obtain rfl := Option.some.inj h
      exact sm_throwW (tx := "no such what") (j := 22) hl (by decide +kernel) (by decide +kernel) (by decide +kernel) (by decide) bxN_0 bxN_1 bxN_2 bxN_5 cl_X11_160 in_NSE (List.mem_of_getElem? (i := 22) rfl) th_X11_164 tg_X11_160_164 (Nat.le_of_ble_eq_true rfl) dX11_needWhat_9 dX11_needWhat_12 dX11_needWhat_13 dX11_needWhat_16 dX11_needWhat_19
theorem e_X11_needWhat {l : Launch} (hl : l.stackTraces = false) {N : Nat} {R : Nat → Nat → Nat} {a0 : Int32} {a1 : Int32} {I : (Nat → Nat → Int32)} {y : ((Unit ⊕ String) × (Nat → Nat → Int32))} (h : f_X11_needWhat N R a0 a1 I = some y) : sm_E l 0 mX11_needWhat [.inl a0, .inl a1] (I, R) (sm_oU y.1) (y.2, R) :=
  sm_meth (by decide) (Nat.le_of_ble_eq_true rfl) (w_X11_needWhat hl N R a0 a1 I y h)
theorem ek_X11_needWhat {l : Launch} (hl : l.stackTraces = false) {N : Nat} {R : Nat → Nat → Nat} {a0 : Int32} {a1 : Int32} {I : (Nat → Nat → Int32)} {r : Unit} {J : (Nat → Nat → Int32)} (h : f_X11_needWhat N R a0 a1 I = some (.inl r, J)) : sm_E l 0 mX11_needWhat [.inl a0, .inl a1] (I, R) (.inl none) (J, R) := by
  have h1 := e_X11_needWhat (l := l) hl h
  exact h1
theorem ex_X11_needWhat {l : Launch} (hl : l.stackTraces = false) {N : Nat} {R : Nat → Nat → Nat} {a0 : Int32} {a1 : Int32} {I : (Nat → Nat → Int32)} {E : String} {J : (Nat → Nat → Int32)} (h : f_X11_needWhat N R a0 a1 I = some (.inr E, J)) : sm_E l 0 mX11_needWhat [.inl a0, .inl a1] (I, R) (.inr E) (J, R) := by
  have h1 := e_X11_needWhat (l := l) hl h
  exact h1
def f_X11_needBetween (N : Nat) (R : Nat → Nat → Nat) : Int32 → Int32 → Int32 → (Nat → Nat → Int32) → Option ((Unit ⊕ String) × (Nat → Nat → Int32)) := fun a0 a1 a2 I =>
  if a0 < a1 then (
    some (.inr "java/lang/IllegalArgumentException", I))
  else (
    if a0 ≤ a2 then (
      some (.inl (), I))
    else (
      some (.inr "java/lang/IllegalArgumentException", I)))
set_option maxHeartbeats 4000000 in
set_option maxRecDepth 100000 in
theorem w_X11_needBetween {l : Launch} (hl : l.stackTraces = false) (N : Nat) (R : Nat → Nat → Nat) : ∀ (a0 : Int32) (a1 : Int32) (a2 : Int32) (I : (Nat → Nat → Int32)) (y : ((Unit ⊕ String) × (Nat → Nat → Int32))), f_X11_needBetween N R a0 a1 a2 I = some y → sm_W l 0 mX11_needBetween 0 [(0, .inl a0), (1, .inl a1), (2, .inl a2)] [] (I, R) (sm_oU y.1) (y.2, R) := by
  intro a0 a1 a2 I y h
  unfold f_X11_needBetween at h
  refine sm_iload_n (q := 1) dX11_needBetween_0 rfl rfl 0 rfl ?_
  refine sm_iload_n (q := 2) dX11_needBetween_1 rfl rfl 1 rfl ?_
  rcases sm_if_e h with ⟨hb1, h⟩ | ⟨hb1, h⟩
  · refine sm_icmp_lt (tgt := 10) (q := 5) dX11_needBetween_2 (by decide) rfl (fun _ => ?_) (fun hn => absurd hb1 hn)
    obtain rfl := Option.some.inj h
    exact sm_throwW (tx := "a number that is too small or too large") (j := 23) hl (by decide +kernel) (by decide +kernel) (by decide +kernel) (by decide) bxI_0 bxI_1 bxI_2 bxI_5 cl_X11_104 in_IAE (List.mem_of_getElem? (i := 23) rfl) th_X11_108 tg_X11_104_108 (Nat.le_of_ble_eq_true rfl) dX11_needBetween_10 dX11_needBetween_13 dX11_needBetween_14 dX11_needBetween_17 dX11_needBetween_20
  · refine sm_icmp_lt (tgt := 10) (q := 5) dX11_needBetween_2 (by decide) rfl (fun ht => absurd ht hb1) (fun _ => ?_)
    refine sm_iload_n (q := 6) dX11_needBetween_5 rfl rfl 0 rfl ?_
    refine sm_iload_n (q := 7) dX11_needBetween_6 rfl rfl 2 rfl ?_
    rcases sm_if_e h with ⟨hb2, h⟩ | ⟨hb2, h⟩
    · refine sm_icmp_le (tgt := 21) (q := 10) dX11_needBetween_7 (by decide) rfl (fun _ => ?_) (fun hn => absurd hb2 hn)
      obtain rfl := Option.some.inj h
      exact sm_vret dX11_needBetween_21 rfl
    · refine sm_icmp_le (tgt := 21) (q := 10) dX11_needBetween_7 (by decide) rfl (fun ht => absurd ht hb2) (fun _ => ?_)
      obtain rfl := Option.some.inj h
      exact sm_throwW (tx := "a number that is too small or too large") (j := 23) hl (by decide +kernel) (by decide +kernel) (by decide +kernel) (by decide) bxI_0 bxI_1 bxI_2 bxI_5 cl_X11_104 in_IAE (List.mem_of_getElem? (i := 23) rfl) th_X11_108 tg_X11_104_108 (Nat.le_of_ble_eq_true rfl) dX11_needBetween_10 dX11_needBetween_13 dX11_needBetween_14 dX11_needBetween_17 dX11_needBetween_20
theorem e_X11_needBetween {l : Launch} (hl : l.stackTraces = false) {N : Nat} {R : Nat → Nat → Nat} {a0 : Int32} {a1 : Int32} {a2 : Int32} {I : (Nat → Nat → Int32)} {y : ((Unit ⊕ String) × (Nat → Nat → Int32))} (h : f_X11_needBetween N R a0 a1 a2 I = some y) : sm_E l 0 mX11_needBetween [.inl a0, .inl a1, .inl a2] (I, R) (sm_oU y.1) (y.2, R) :=
  sm_meth (by decide) (Nat.le_of_ble_eq_true rfl) (w_X11_needBetween hl N R a0 a1 a2 I y h)
theorem ek_X11_needBetween {l : Launch} (hl : l.stackTraces = false) {N : Nat} {R : Nat → Nat → Nat} {a0 : Int32} {a1 : Int32} {a2 : Int32} {I : (Nat → Nat → Int32)} {r : Unit} {J : (Nat → Nat → Int32)} (h : f_X11_needBetween N R a0 a1 a2 I = some (.inl r, J)) : sm_E l 0 mX11_needBetween [.inl a0, .inl a1, .inl a2] (I, R) (.inl none) (J, R) := by
  have h1 := e_X11_needBetween (l := l) hl h
  exact h1
theorem ex_X11_needBetween {l : Launch} (hl : l.stackTraces = false) {N : Nat} {R : Nat → Nat → Nat} {a0 : Int32} {a1 : Int32} {a2 : Int32} {I : (Nat → Nat → Int32)} {E : String} {J : (Nat → Nat → Int32)} (h : f_X11_needBetween N R a0 a1 a2 I = some (.inr E, J)) : sm_E l 0 mX11_needBetween [.inl a0, .inl a1, .inl a2] (I, R) (.inr E) (J, R) := by
  have h1 := e_X11_needBetween (l := l) hl h
  exact h1
def f_X11_then (N : Nat) (R : Nat → Nat → Nat) : Nat → Int32 → Int32 → Int32 → (Nat → Nat → Int32) → Option ((Int32 ⊕ String) × (Nat → Nat → Int32)) := fun a0 a1 a2 a3 I =>
  sm_gd (sm_kd a0 = (11, 16)) <|
  sm_tb (f_X11_needPupil N R a0 a1 I) fun r3 J4 =>
  sm_tb (f_X11_needWhat N R a3 (2 : Int32) J4) fun r6 J7 =>
  sm_tb (f_X11_needBetween N R a2 (0 : Int32) (60 : Int32) J7) fun r9 J10 =>
  sm_gd (sm_kd (R a0 8) = (4, 6)) <|
  (f_X4_become N R (R a0 8) r3 J10).bind fun p12 =>
  sm_gd (sm_kd (R a0 3) = (7, 9)) <|
  (f_X7_passWeeks N R (R a0 3) (R a0 8) a2 p12.2).bind fun p14 =>
  if a3 = 0 then (
    some (.inl (p14.2 (R a0 8) 0), p14.2))
  else (
    if a3 = (1 : Int32) then (
      some (.inl (p14.2 (R a0 8) 3), p14.2))
    else (
      some (.inl (p14.2 (R a0 8) 1), p14.2)))
set_option maxHeartbeats 4000000 in
set_option maxRecDepth 100000 in
theorem w_X11_then {l : Launch} (hl : l.stackTraces = false) (N : Nat) (R : Nat → Nat → Nat) : ∀ (a0 : Nat) (a1 : Int32) (a2 : Int32) (a3 : Int32) (I : (Nat → Nat → Int32)) (y : ((Int32 ⊕ String) × (Nat → Nat → Int32))), f_X11_then N R a0 a1 a2 a3 I = some y → sm_W l 4 mX11_then 0 [(0, .inr (.inl a0)), (1, .inl a1), (2, .inl a2), (3, .inl a3)] [] (I, R) (sm_oI y.1) (y.2, R) := by
  intro a0 a1 a2 a3 I y h
  unfold f_X11_then at h
  refine sm_aload_n (q := 1) dX11_then_0 rfl rfl 0 rfl ?_
  refine sm_iload_n (q := 2) dX11_then_1 rfl rfl 1 rfl ?_
  obtain ⟨hc1, h⟩ := sm_gd_e h
  rcases sm_tb_e h with ⟨r3, J4, hc_p2, h⟩ | ⟨E9, J9, hc_p2, h⟩
  · refine sm_callVr (q := 5) (As := [.inl a1]) (S := []) (ek_X11_needPupil hl hc_p2) mv_X11_193 hc1 rfl (by decide) (Nat.le_of_ble_eq_true rfl) dX11_then_2 rfl ?_
    refine sm_astore (L' := [(4, .inr (.inl r3)), (0, .inr (.inl a0)), (1, .inl a1), (2, .inl a2), (3, .inl a3)]) (q := 7) dX11_then_5 rfl (by decide) rfl ?_
    refine sm_iload_n (q := 8) dX11_then_7 rfl rfl 4 rfl ?_
    refine sm_iconst (v := 2) (q := 9) dX11_then_8 rfl (by decide) ?_
    rcases sm_tb_e h with ⟨r6, J7, hc_p5, h⟩ | ⟨E9, J9, hc_p5, h⟩
    · refine sm_callSv (q := 12) (As := [.inl a3, .inl (2 : Int32)]) (S := []) (ek_X11_needWhat hl hc_p5) ms_X11_251 rfl (by decide) (Nat.le_of_ble_eq_true rfl) dX11_then_9 rfl ?_
      refine sm_iload_n (q := 13) dX11_then_12 rfl rfl 3 rfl ?_
      refine sm_iconst (v := 0) (q := 14) dX11_then_13 rfl (by decide) ?_
      refine sm_bipush (v := 60) (q := 16) dX11_then_14 rfl (by decide) ?_
      rcases sm_tb_e h with ⟨r9, J10, hc_p8, h⟩ | ⟨E9, J9, hc_p8, h⟩
      · refine sm_callSv (q := 19) (As := [.inl a2, .inl (0 : Int32), .inl (60 : Int32)]) (S := []) (ek_X11_needBetween hl hc_p8) ms_X11_255 rfl (by decide) (Nat.le_of_ble_eq_true rfl) dX11_then_16 rfl ?_
        refine sm_aload_n (q := 20) dX11_then_19 rfl rfl 1 rfl ?_
        refine sm_getR (r := R a0 8) (q := 23) dX11_then_20 rfl fk_X11_55 hc1 (by decide) (by decide) rfl ?_
        refine sm_aload (q := 25) dX11_then_23 rfl 0 rfl ?_
        obtain ⟨hc11, h⟩ := sm_gd_e h
        obtain ⟨p12, hc_p12, h⟩ := sm_bd_e h
        refine sm_callVv (q := 28) (As := [.inr (.inl r3)]) (S := []) (e_X4_become hc_p12) mv_X11_220 hc11 rfl (by decide) (Nat.le_of_ble_eq_true rfl) dX11_then_25 rfl ?_
        refine sm_aload_n (q := 29) dX11_then_28 rfl rfl 1 rfl ?_
        refine sm_getR (r := R a0 3) (q := 32) dX11_then_29 rfl fk_X11_23 hc1 (by decide) (by decide) rfl ?_
        refine sm_aload_n (q := 33) dX11_then_32 rfl rfl 1 rfl ?_
        refine sm_getR (r := R a0 8) (q := 36) dX11_then_33 rfl fk_X11_55 hc1 (by decide) (by decide) rfl ?_
        refine sm_iload_n (q := 37) dX11_then_36 rfl rfl 3 rfl ?_
        obtain ⟨hc13, h⟩ := sm_gd_e h
        obtain ⟨p14, hc_p14, h⟩ := sm_bd_e h
        refine sm_callVv (q := 40) (As := [.inr (.inl (R a0 8)), .inl a2]) (S := []) (e_X7_passWeeks hc_p14) mv_X11_234 hc13 rfl (by decide) (Nat.le_of_ble_eq_true rfl) dX11_then_37 rfl ?_
        refine sm_iload_n (q := 41) dX11_then_40 rfl rfl 4 rfl ?_
        rcases sm_if_e h with ⟨hb15, h⟩ | ⟨hb15, h⟩
        · refine sm_if_ne (tgt := 52) (q := 44) dX11_then_41 (by decide) rfl (fun hn => absurd hb15 hn) (fun _ => ?_)
          refine sm_aload_n (q := 45) dX11_then_44 rfl rfl 1 rfl ?_
          refine sm_getR (r := R a0 8) (q := 48) dX11_then_45 rfl fk_X11_55 hc1 (by decide) (by decide) rfl ?_
          refine sm_getI (q := 51) dX11_then_48 rfl fk_X11_197 hc11 (by decide) (by decide) ?_
          obtain rfl := Option.some.inj h
          exact sm_iret dX11_then_51 rfl
        · refine sm_if_ne (tgt := 52) (q := 44) dX11_then_41 (by decide) rfl (fun _ => ?_) (fun he => absurd he hb15)
          refine sm_iload_n (q := 53) dX11_then_52 rfl rfl 4 rfl ?_
          refine sm_iconst (v := 1) (q := 54) dX11_then_53 rfl (by decide) ?_
          rcases sm_if_e h with ⟨hb16, h⟩ | ⟨hb16, h⟩
          · refine sm_icmp_ne (tgt := 67) (q := 57) dX11_then_54 (by decide) rfl (fun hn => absurd hb16 hn) (fun _ => ?_)
            refine sm_aload_n (q := 58) dX11_then_57 rfl rfl 1 rfl ?_
            refine sm_getR (r := R a0 8) (q := 61) dX11_then_58 rfl fk_X11_55 hc1 (by decide) (by decide) rfl ?_
            refine sm_getI (q := 64) dX11_then_61 rfl fk_X11_206 hc11 (by decide) (by decide) ?_
            refine sm_goto (q := 74) dX11_then_64 (by decide) ?_
            obtain rfl := Option.some.inj h
            exact sm_iret dX11_then_74 rfl
          · refine sm_icmp_ne (tgt := 67) (q := 57) dX11_then_54 (by decide) rfl (fun _ => ?_) (fun he => absurd he hb16)
            refine sm_aload_n (q := 68) dX11_then_67 rfl rfl 1 rfl ?_
            refine sm_getR (r := R a0 8) (q := 71) dX11_then_68 rfl fk_X11_55 hc1 (by decide) (by decide) rfl ?_
            refine sm_getI (q := 74) dX11_then_71 rfl fk_X11_200 hc11 (by decide) (by decide) ?_
            obtain rfl := Option.some.inj h
            exact sm_iret dX11_then_74 rfl
      · obtain rfl := Option.some.inj h
        exact sm_callSX (E := E9) (As := [.inl a2, .inl (0 : Int32), .inl (60 : Int32)]) (S := []) (ex_X11_needBetween hl hc_p8) ms_X11_255 rfl (by decide) (Nat.le_of_ble_eq_true rfl) dX11_then_16
    · obtain rfl := Option.some.inj h
      exact sm_callSX (E := E9) (As := [.inl a3, .inl (2 : Int32)]) (S := []) (ex_X11_needWhat hl hc_p5) ms_X11_251 rfl (by decide) (Nat.le_of_ble_eq_true rfl) dX11_then_9
  · obtain rfl := Option.some.inj h
    exact sm_callVX (E := E9) (As := [.inl a1]) (S := []) (ex_X11_needPupil hl hc_p2) mv_X11_193 hc1 rfl (by decide) (Nat.le_of_ble_eq_true rfl) dX11_then_2
theorem e_X11_then {l : Launch} (hl : l.stackTraces = false) {N : Nat} {R : Nat → Nat → Nat} {a0 : Nat} {a1 : Int32} {a2 : Int32} {a3 : Int32} {I : (Nat → Nat → Int32)} {y : ((Int32 ⊕ String) × (Nat → Nat → Int32))} (h : f_X11_then N R a0 a1 a2 a3 I = some y) : sm_E l 4 mX11_then [.inr (.inl a0), .inl a1, .inl a2, .inl a3] (I, R) (sm_oI y.1) (y.2, R) :=
  sm_meth (by decide) (Nat.le_of_ble_eq_true rfl) (w_X11_then hl N R a0 a1 a2 a3 I y h)
theorem ek_X11_then {l : Launch} (hl : l.stackTraces = false) {N : Nat} {R : Nat → Nat → Nat} {a0 : Nat} {a1 : Int32} {a2 : Int32} {a3 : Int32} {I : (Nat → Nat → Int32)} {r : Int32} {J : (Nat → Nat → Int32)} (h : f_X11_then N R a0 a1 a2 a3 I = some (.inl r, J)) : sm_E l 4 mX11_then [.inr (.inl a0), .inl a1, .inl a2, .inl a3] (I, R) (.inl (some (.inl r))) (J, R) := by
  have h1 := e_X11_then (l := l) hl h
  exact h1
theorem ex_X11_then {l : Launch} (hl : l.stackTraces = false) {N : Nat} {R : Nat → Nat → Nat} {a0 : Nat} {a1 : Int32} {a2 : Int32} {a3 : Int32} {I : (Nat → Nat → Int32)} {E : String} {J : (Nat → Nat → Int32)} (h : f_X11_then N R a0 a1 a2 a3 I = some (.inr E, J)) : sm_E l 4 mX11_then [.inr (.inl a0), .inl a1, .inl a2, .inl a3] (I, R) (.inr E) (J, R) := by
  have h1 := e_X11_then (l := l) hl h
  exact h1
def f_X11_weeksTillDone_10 (N : Nat) (R : Nat → Nat → Nat) : Nat → Nat → Int32 → (Nat → Nat → Int32) → Option (Int32 × (Nat → Nat → Int32))
  | 0, _, _, _ => none
  | n + 1, a0, a2, I =>
    if (60 : Int32) < a2 then (
      some ((-1 : Int32), I))
    else (
      sm_gd (sm_kd a0 = (11, 16)) <|
      sm_gd (sm_kd (R a0 3) = (7, 9)) <|
      (f_X7_isDone N R (R a0 3) (R a0 8) I).bind fun p4 =>
      if p4.1 = 0 then (
        (f_X7_passWeeks N R (R a0 3) (R a0 8) (1 : Int32) p4.2).bind fun p6 =>
        f_X11_weeksTillDone_10 N R n a0 (a2 + 1) p6.2)
      else (
        some (a2, p4.2)))
def f_X11_weeksTillDone (N : Nat) (R : Nat → Nat → Nat) : Nat → Nat → (Nat → Nat → Int32) → Option (Int32 × (Nat → Nat → Int32)) := fun a0 a1 I =>
  sm_gd (sm_kd a0 = (11, 16)) <|
  sm_gd (sm_kd (R a0 8) = (4, 6)) <|
  (f_X4_become N R (R a0 8) a1 I).bind fun p3 =>
  f_X11_weeksTillDone_10 N R N a0 (0 : Int32) p3.2
set_option maxHeartbeats 4000000 in
set_option maxRecDepth 100000 in
theorem w_X11_weeksTillDone_10 {l : Launch} (N : Nat) (R : Nat → Nat → Nat) : ∀ (n : Nat) (a0 : Nat) (a2 : Int32) (I : (Nat → Nat → Int32)) (y : (Int32 × (Nat → Nat → Int32))), f_X11_weeksTillDone_10 N R n a0 a2 I = some y → sm_W l 4 mX11_weeksTillDone 10 [(0, .inr (.inl a0)), (2, .inl a2)] [] (I, R) (.inl (some (.inl y.1))) (y.2, R) := by
  intro n
  induction n with
  | zero => intro a0 a2 I y h; cases h
  | succ n ih =>
    intro a0 a2 I y h
    rw [f_X11_weeksTillDone_10] at h
    refine sm_iload_n (q := 11) dX11_weeksTillDone_10 rfl rfl 1 rfl ?_
    refine sm_bipush (v := 60) (q := 13) dX11_weeksTillDone_11 rfl (by decide) ?_
    rcases sm_if_e h with ⟨hb1, h⟩ | ⟨hb1, h⟩
    · refine sm_icmp_gt (tgt := 50) (q := 16) dX11_weeksTillDone_13 (by decide) rfl (fun _ => ?_) (fun hn => absurd hb1 hn)
      refine sm_iconst (v := -1) (q := 51) dX11_weeksTillDone_50 rfl (by decide) ?_
      obtain rfl := Option.some.inj h
      exact sm_iret dX11_weeksTillDone_51 rfl
    · refine sm_icmp_gt (tgt := 50) (q := 16) dX11_weeksTillDone_13 (by decide) rfl (fun ht => absurd ht hb1) (fun _ => ?_)
      refine sm_aload_n (q := 17) dX11_weeksTillDone_16 rfl rfl 0 rfl ?_
      obtain ⟨hc2, h⟩ := sm_gd_e h
      refine sm_getR (r := R a0 3) (q := 20) dX11_weeksTillDone_17 rfl fk_X11_23 hc2 (by decide) (by decide) rfl ?_
      refine sm_aload_n (q := 21) dX11_weeksTillDone_20 rfl rfl 0 rfl ?_
      refine sm_getR (r := R a0 8) (q := 24) dX11_weeksTillDone_21 rfl fk_X11_55 hc2 (by decide) (by decide) rfl ?_
      obtain ⟨hc3, h⟩ := sm_gd_e h
      obtain ⟨p4, hc_p4, h⟩ := sm_bd_e h
      refine sm_callVi (q := 27) (As := [.inr (.inl (R a0 8))]) (S := []) (e_X7_isDone hc_p4) mv_X11_169 hc3 rfl (by decide) (Nat.le_of_ble_eq_true rfl) dX11_weeksTillDone_24 rfl ?_
      rcases sm_if_e h with ⟨hb5, h⟩ | ⟨hb5, h⟩
      · refine sm_if_eq (tgt := 32) (q := 30) dX11_weeksTillDone_27 (by decide) rfl (fun _ => ?_) (fun hn => absurd hb5 hn)
        refine sm_aload_n (q := 33) dX11_weeksTillDone_32 rfl rfl 0 rfl ?_
        refine sm_getR (r := R a0 3) (q := 36) dX11_weeksTillDone_33 rfl fk_X11_23 hc2 (by decide) (by decide) rfl ?_
        refine sm_aload_n (q := 37) dX11_weeksTillDone_36 rfl rfl 0 rfl ?_
        refine sm_getR (r := R a0 8) (q := 40) dX11_weeksTillDone_37 rfl fk_X11_55 hc2 (by decide) (by decide) rfl ?_
        refine sm_iconst (v := 1) (q := 41) dX11_weeksTillDone_40 rfl (by decide) ?_
        obtain ⟨p6, hc_p6, h⟩ := sm_bd_e h
        refine sm_callVv (q := 44) (As := [.inr (.inl (R a0 8)), .inl (1 : Int32)]) (S := []) (e_X7_passWeeks hc_p6) mv_X11_234 hc3 rfl (by decide) (Nat.le_of_ble_eq_true rfl) dX11_weeksTillDone_41 rfl ?_
        refine sm_iinc (v := (a2 + 1)) (L' := [(2, .inl (a2 + 1)), (0, .inr (.inl a0))]) (q := 47) dX11_weeksTillDone_44 rfl 1 rfl rfl (by decide) rfl ?_
        refine sm_goto (q := 10) dX11_weeksTillDone_47 (by decide) ?_
        refine sm_pick [1, 0] rfl ?_
        exact ih _ _ _ _ h
      · refine sm_if_eq (tgt := 32) (q := 30) dX11_weeksTillDone_27 (by decide) rfl (fun ht => absurd ht hb5) (fun _ => ?_)
        refine sm_iload_n (q := 31) dX11_weeksTillDone_30 rfl rfl 1 rfl ?_
        obtain rfl := Option.some.inj h
        exact sm_iret dX11_weeksTillDone_31 rfl
set_option maxHeartbeats 4000000 in
set_option maxRecDepth 100000 in
theorem w_X11_weeksTillDone {l : Launch} (N : Nat) (R : Nat → Nat → Nat) : ∀ (a0 : Nat) (a1 : Nat) (I : (Nat → Nat → Int32)) (y : (Int32 × (Nat → Nat → Int32))), f_X11_weeksTillDone N R a0 a1 I = some y → sm_W l 4 mX11_weeksTillDone 0 [(0, .inr (.inl a0)), (1, .inr (.inl a1))] [] (I, R) (.inl (some (.inl y.1))) (y.2, R) := by
  intro a0 a1 I y h
  unfold f_X11_weeksTillDone at h
  refine sm_aload_n (q := 1) dX11_weeksTillDone_0 rfl rfl 0 rfl ?_
  obtain ⟨hc1, h⟩ := sm_gd_e h
  refine sm_getR (r := R a0 8) (q := 4) dX11_weeksTillDone_1 rfl fk_X11_55 hc1 (by decide) (by decide) rfl ?_
  refine sm_aload_n (q := 5) dX11_weeksTillDone_4 rfl rfl 1 rfl ?_
  obtain ⟨hc2, h⟩ := sm_gd_e h
  obtain ⟨p3, hc_p3, h⟩ := sm_bd_e h
  refine sm_callVv (q := 8) (As := [.inr (.inl a1)]) (S := []) (e_X4_become hc_p3) mv_X11_220 hc2 rfl (by decide) (Nat.le_of_ble_eq_true rfl) dX11_weeksTillDone_5 rfl ?_
  refine sm_iconst (v := 0) (q := 9) dX11_weeksTillDone_8 rfl (by decide) ?_
  refine sm_istore_n (L' := [(2, .inl (0 : Int32)), (0, .inr (.inl a0)), (1, .inr (.inl a1))]) (q := 10) dX11_weeksTillDone_9 rfl rfl (by decide) rfl ?_
  refine sm_pick [1, 0] rfl ?_
  exact w_X11_weeksTillDone_10 N R N _ _ _ _ h
theorem e_X11_weeksTillDone {l : Launch} {N : Nat} {R : Nat → Nat → Nat} {a0 : Nat} {a1 : Nat} {I : (Nat → Nat → Int32)} {y : (Int32 × (Nat → Nat → Int32))} (h : f_X11_weeksTillDone N R a0 a1 I = some y) : sm_E l 4 mX11_weeksTillDone [.inr (.inl a0), .inr (.inl a1)] (I, R) (.inl (some (.inl y.1))) (y.2, R) :=
  sm_meth (by decide) (Nat.le_of_ble_eq_true rfl) (w_X11_weeksTillDone N R a0 a1 I y h)
def f_X11_done (N : Nat) (R : Nat → Nat → Nat) : Nat → Int32 → (Nat → Nat → Int32) → Option ((Int32 ⊕ String) × (Nat → Nat → Int32)) := fun a0 a1 I =>
  sm_gd (sm_kd a0 = (11, 16)) <|
  sm_tb (f_X11_needPupil N R a0 a1 I) fun r3 J4 =>
  (f_X11_weeksTillDone N R a0 r3 J4).bind fun p5 =>
  some (.inl p5.1, p5.2)
set_option maxHeartbeats 4000000 in
set_option maxRecDepth 100000 in
theorem w_X11_done {l : Launch} (hl : l.stackTraces = false) (N : Nat) (R : Nat → Nat → Nat) : ∀ (a0 : Nat) (a1 : Int32) (I : (Nat → Nat → Int32)) (y : ((Int32 ⊕ String) × (Nat → Nat → Int32))), f_X11_done N R a0 a1 I = some y → sm_W l 5 mX11_done 0 [(0, .inr (.inl a0)), (1, .inl a1)] [] (I, R) (sm_oI y.1) (y.2, R) := by
  intro a0 a1 I y h
  unfold f_X11_done at h
  refine sm_aload_n (q := 1) dX11_done_0 rfl rfl 0 rfl ?_
  refine sm_aload_n (q := 2) dX11_done_1 rfl rfl 0 rfl ?_
  refine sm_iload_n (q := 3) dX11_done_2 rfl rfl 1 rfl ?_
  obtain ⟨hc1, h⟩ := sm_gd_e h
  rcases sm_tb_e h with ⟨r3, J4, hc_p2, h⟩ | ⟨E9, J9, hc_p2, h⟩
  · refine sm_callVr (q := 6) (As := [.inl a1]) (S := [.inr (.inl a0)]) (ek_X11_needPupil hl hc_p2) mv_X11_193 hc1 rfl (by decide) (Nat.le_of_ble_eq_true rfl) dX11_done_3 rfl ?_
    obtain ⟨p5, hc_p5, h⟩ := sm_bd_e h
    refine sm_callVi (q := 9) (As := [.inr (.inl r3)]) (S := []) (e_X11_weeksTillDone hc_p5) mv_X11_259 hc1 rfl (by decide) (Nat.le_of_ble_eq_true rfl) dX11_done_6 rfl ?_
    obtain rfl := Option.some.inj h
    exact sm_iret dX11_done_9 rfl
  · obtain rfl := Option.some.inj h
    exact sm_callVX (E := E9) (As := [.inl a1]) (S := [.inr (.inl a0)]) (ex_X11_needPupil hl hc_p2) mv_X11_193 hc1 rfl (by decide) (Nat.le_of_ble_eq_true rfl) dX11_done_3
theorem e_X11_done {l : Launch} (hl : l.stackTraces = false) {N : Nat} {R : Nat → Nat → Nat} {a0 : Nat} {a1 : Int32} {I : (Nat → Nat → Int32)} {y : ((Int32 ⊕ String) × (Nat → Nat → Int32))} (h : f_X11_done N R a0 a1 I = some y) : sm_E l 5 mX11_done [.inr (.inl a0), .inl a1] (I, R) (sm_oI y.1) (y.2, R) :=
  sm_meth (by decide) (Nat.le_of_ble_eq_true rfl) (w_X11_done hl N R a0 a1 I y h)
theorem ek_X11_done {l : Launch} (hl : l.stackTraces = false) {N : Nat} {R : Nat → Nat → Nat} {a0 : Nat} {a1 : Int32} {I : (Nat → Nat → Int32)} {r : Int32} {J : (Nat → Nat → Int32)} (h : f_X11_done N R a0 a1 I = some (.inl r, J)) : sm_E l 5 mX11_done [.inr (.inl a0), .inl a1] (I, R) (.inl (some (.inl r))) (J, R) := by
  have h1 := e_X11_done (l := l) hl h
  exact h1
theorem ex_X11_done {l : Launch} (hl : l.stackTraces = false) {N : Nat} {R : Nat → Nat → Nat} {a0 : Nat} {a1 : Int32} {I : (Nat → Nat → Int32)} {E : String} {J : (Nat → Nat → Int32)} (h : f_X11_done N R a0 a1 I = some (.inr E, J)) : sm_E l 5 mX11_done [.inr (.inl a0), .inl a1] (I, R) (.inr E) (J, R) := by
  have h1 := e_X11_done (l := l) hl h
  exact h1
