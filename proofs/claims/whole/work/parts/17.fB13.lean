def f_X11_weeks_51 (N : Nat) (R : Nat → Nat → Nat) : Nat → Nat → Int32 → Int32 → (Nat → Nat → Int32) → Option (Int32 × (Nat → Nat → Int32))
  | 0, _, _, _, _ => none
  | n + 1, a0, a1, a2, I =>
    sm_gd (sm_kd a0 = (11, 18)) <|
    sm_gd (sm_kd (R a0 3) = (7, 9)) <|
    sm_gd (sm_kd (R (R a0 3) 5) = (10, 4)) <|
    if (I (R (R a0 3) 5) 1) ≤ a2 then (
      sm_lt (sm_up I (R (R a0 3) 5) (sm_up (I (R (R a0 3) 5)) 2 ((I (R (R a0 3) 5) 2) + a1))) fun I5 =>
      some ((I5 (R (R a0 3) 5) 2), I5))
    else (
      sm_gd ((sm_kd (R (R (R a0 3) 5) 0)).1 = 16 ∧ ¬ (a2 < 0 ∨ (sm_kd (R (R (R a0 3) 5) 0)).2 ≤ (a2).toNatClampNeg)) <|
      (f_X7_passWeeks N R (R a0 3) (R (R (R (R a0 3) 5) 0) (a2).toNatClampNeg) a1 I).bind fun p7 =>
      f_X11_weeks_51 N R n a0 a1 (a2 + 1) p7.2)
def f_X11_weeks (N : Nat) (R : Nat → Nat → Nat) : Nat → Int32 → (Nat → Nat → Int32) → Option (Int32 × (Nat → Nat → Int32)) := fun a0 a1 I =>
  if a1 < (1 : Int32) then (
    sm_gd (sm_kd a0 = (11, 18)) <|
    (f_X11_refuse N R a0 (1 : Int32) I).bind fun p3 =>
    some (p3.1, p3.2))
  else (
    if (20 : Int32) < a1 then (
      sm_gd (sm_kd a0 = (11, 18)) <|
      (f_X11_refuse N R a0 (1 : Int32) I).bind fun p6 =>
      some (p6.1, p6.2))
    else (
      sm_gd (sm_kd a0 = (11, 18)) <|
      sm_gd (sm_kd (R a0 3) = (7, 9)) <|
      sm_gd (sm_kd (R (R a0 3) 5) = (10, 4)) <|
      if (I (R (R a0 3) 5) 2) ≤ ((999 : Int32) - a1) then (
        sm_gd (sm_kd (R a0 6) = (0, 3)) <|
        (f_X0_keep N R (R a0 6) (R (R a0 3) 5) I).bind fun p12 =>
        f_X11_weeks_51 N R N a0 a1 (0 : Int32) p12.2)
      else (
        (f_X11_refuse N R a0 (1 : Int32) I).bind fun p13 =>
        some (p13.1, p13.2))))
set_option maxHeartbeats 4000000 in
set_option maxRecDepth 100000 in
theorem w_X11_weeks_51 {l : Launch} (N : Nat) (R : Nat → Nat → Nat) : ∀ (n : Nat) (a0 : Nat) (a1 : Int32) (a2 : Int32) (I : (Nat → Nat → Int32)) (y : (Int32 × (Nat → Nat → Int32))), f_X11_weeks_51 N R n a0 a1 a2 I = some y → sm_W l 4 mX11_weeks 51 [(0, .inr (.inl a0)), (1, .inl a1), (2, .inl a2)] [] (I, R) (.inl (some (.inl y.1))) (y.2, R) := by
  intro n
  induction n with
  | zero => intro a0 a1 a2 I y h; cases h
  | succ n ih =>
    intro a0 a1 a2 I y h
    rw [f_X11_weeks_51] at h
    refine sm_iload_n (q := 52) dX11_weeks_51 rfl rfl 2 rfl ?_
    refine sm_aload_n (q := 53) dX11_weeks_52 rfl rfl 0 rfl ?_
    obtain ⟨hc1, h⟩ := sm_gd_e h
    refine sm_getR (r := R a0 3) (q := 56) dX11_weeks_53 rfl fk_X11_20 hc1 (by decide) (by decide) rfl ?_
    obtain ⟨hc2, h⟩ := sm_gd_e h
    refine sm_getR (r := R (R a0 3) 5) (q := 59) dX11_weeks_56 rfl fk_X11_137 hc2 (by decide) (by decide) rfl ?_
    obtain ⟨hc3, h⟩ := sm_gd_e h
    refine sm_getI (q := 62) dX11_weeks_59 rfl fk_X11_140 hc3 (by decide) (by decide) ?_
    rcases sm_if_e h with ⟨hb4, h⟩ | ⟨hb4, h⟩
    · refine sm_icmp_ge (tgt := 91) (q := 65) dX11_weeks_62 (by decide) rfl (fun _ => ?_) (fun hn => absurd hb4 hn)
      refine sm_aload_n (q := 92) dX11_weeks_91 rfl rfl 0 rfl ?_
      refine sm_getR (r := R a0 3) (q := 95) dX11_weeks_92 rfl fk_X11_20 hc1 (by decide) (by decide) rfl ?_
      refine sm_getR (r := R (R a0 3) 5) (q := 98) dX11_weeks_95 rfl fk_X11_137 hc2 (by decide) (by decide) rfl ?_
      refine sm_dup (q := 99) dX11_weeks_98 rfl rfl ?_
      refine sm_getI (q := 102) dX11_weeks_99 rfl fk_X11_146 hc3 (by decide) (by decide) ?_
      refine sm_iload_n (q := 103) dX11_weeks_102 rfl rfl 1 rfl ?_
      refine sm_iadd (q := 104) dX11_weeks_103 rfl ?_
      obtain ⟨I5, hI5, h⟩ := sm_lt_e h
      refine sm_putI (q := 107) dX11_weeks_104 rfl fk_X11_146 hc3 (by decide) (by decide) ?_
      refine sm_memI hI5 ?_
      refine sm_aload_n (q := 108) dX11_weeks_107 rfl rfl 0 rfl ?_
      refine sm_getR (r := R a0 3) (q := 111) dX11_weeks_108 rfl fk_X11_20 hc1 (by decide) (by decide) rfl ?_
      refine sm_getR (r := R (R a0 3) 5) (q := 114) dX11_weeks_111 rfl fk_X11_137 hc2 (by decide) (by decide) rfl ?_
      refine sm_getI (q := 117) dX11_weeks_114 rfl fk_X11_146 hc3 (by decide) (by decide) ?_
      obtain rfl := Option.some.inj h
      exact sm_iret dX11_weeks_117 rfl
    · refine sm_icmp_ge (tgt := 91) (q := 65) dX11_weeks_62 (by decide) rfl (fun ht => absurd ht hb4) (fun _ => ?_)
      refine sm_aload_n (q := 66) dX11_weeks_65 rfl rfl 0 rfl ?_
      refine sm_getR (r := R a0 3) (q := 69) dX11_weeks_66 rfl fk_X11_20 hc1 (by decide) (by decide) rfl ?_
      refine sm_aload_n (q := 70) dX11_weeks_69 rfl rfl 0 rfl ?_
      refine sm_getR (r := R a0 3) (q := 73) dX11_weeks_70 rfl fk_X11_20 hc1 (by decide) (by decide) rfl ?_
      refine sm_getR (r := R (R a0 3) 5) (q := 76) dX11_weeks_73 rfl fk_X11_137 hc2 (by decide) (by decide) rfl ?_
      refine sm_getR (r := R (R (R a0 3) 5) 0) (q := 79) dX11_weeks_76 rfl fk_X11_170 hc3 (by decide) (by decide) rfl ?_
      refine sm_iload_n (q := 80) dX11_weeks_79 rfl rfl 2 rfl ?_
      obtain ⟨hc6, h⟩ := sm_gd_e h
      refine sm_aald (t := 3) (n := (sm_kd (R (R (R a0 3) 5) 0)).2) (q := 81) dX11_weeks_80 rfl (Prod.ext hc6.1 rfl) (Or.inl ⟨rfl, rfl⟩) hc6.2 rfl ?_
      refine sm_iload_n (q := 82) dX11_weeks_81 rfl rfl 1 rfl ?_
      obtain ⟨p7, hc_p7, h⟩ := sm_bd_e h
      refine sm_callVv (q := 85) (As := [.inr (.inl (R (R (R (R a0 3) 5) 0) (a2).toNatClampNeg)), .inl a1]) (S := []) (e_X7_passWeeks hc_p7) mv_X11_239 hc2 rfl (by decide) (Nat.le_of_ble_eq_true rfl) dX11_weeks_82 rfl ?_
      refine sm_iinc (v := (a2 + 1)) (L' := [(2, .inl (a2 + 1)), (0, .inr (.inl a0)), (1, .inl a1)]) (q := 88) dX11_weeks_85 rfl 2 rfl rfl (by decide) rfl ?_
      refine sm_goto (q := 51) dX11_weeks_88 (by decide) ?_
      refine sm_pick [1, 2, 0] rfl ?_
      exact ih _ _ _ _ _ h
set_option maxHeartbeats 4000000 in
set_option maxRecDepth 100000 in
theorem w_X11_weeks {l : Launch} (N : Nat) (R : Nat → Nat → Nat) : ∀ (a0 : Nat) (a1 : Int32) (I : (Nat → Nat → Int32)) (y : (Int32 × (Nat → Nat → Int32))), f_X11_weeks N R a0 a1 I = some y → sm_W l 4 mX11_weeks 0 [(0, .inr (.inl a0)), (1, .inl a1)] [] (I, R) (.inl (some (.inl y.1))) (y.2, R) := by
  intro a0 a1 I y h
  unfold f_X11_weeks at h
  refine sm_iload_n (q := 1) dX11_weeks_0 rfl rfl 1 rfl ?_
  refine sm_iconst (v := 1) (q := 2) dX11_weeks_1 rfl (by decide) ?_
  rcases sm_if_e h with ⟨hb1, h⟩ | ⟨hb1, h⟩
  · refine sm_icmp_lt (tgt := 29) (q := 5) dX11_weeks_2 (by decide) rfl (fun _ => ?_) (fun hn => absurd hb1 hn)
    refine sm_aload_n (q := 30) dX11_weeks_29 rfl rfl 0 rfl ?_
    refine sm_iconst (v := 1) (q := 31) dX11_weeks_30 rfl (by decide) ?_
    obtain ⟨hc2, h⟩ := sm_gd_e h
    obtain ⟨p3, hc_p3, h⟩ := sm_bd_e h
    refine sm_callVi (q := 34) (As := [.inl (1 : Int32)]) (S := []) (e_X11_refuse hc_p3) mv_X11_232 hc2 rfl (by decide) (Nat.le_of_ble_eq_true rfl) dX11_weeks_31 rfl ?_
    obtain rfl := Option.some.inj h
    exact sm_iret dX11_weeks_34 rfl
  · refine sm_icmp_lt (tgt := 29) (q := 5) dX11_weeks_2 (by decide) rfl (fun ht => absurd ht hb1) (fun _ => ?_)
    refine sm_iload_n (q := 6) dX11_weeks_5 rfl rfl 1 rfl ?_
    refine sm_bipush (v := 20) (q := 8) dX11_weeks_6 rfl (by decide) ?_
    rcases sm_if_e h with ⟨hb4, h⟩ | ⟨hb4, h⟩
    · refine sm_icmp_gt (tgt := 29) (q := 11) dX11_weeks_8 (by decide) rfl (fun _ => ?_) (fun hn => absurd hb4 hn)
      refine sm_aload_n (q := 30) dX11_weeks_29 rfl rfl 0 rfl ?_
      refine sm_iconst (v := 1) (q := 31) dX11_weeks_30 rfl (by decide) ?_
      obtain ⟨hc5, h⟩ := sm_gd_e h
      obtain ⟨p6, hc_p6, h⟩ := sm_bd_e h
      refine sm_callVi (q := 34) (As := [.inl (1 : Int32)]) (S := []) (e_X11_refuse hc_p6) mv_X11_232 hc5 rfl (by decide) (Nat.le_of_ble_eq_true rfl) dX11_weeks_31 rfl ?_
      obtain rfl := Option.some.inj h
      exact sm_iret dX11_weeks_34 rfl
    · refine sm_icmp_gt (tgt := 29) (q := 11) dX11_weeks_8 (by decide) rfl (fun ht => absurd ht hb4) (fun _ => ?_)
      refine sm_aload_n (q := 12) dX11_weeks_11 rfl rfl 0 rfl ?_
      obtain ⟨hc7, h⟩ := sm_gd_e h
      refine sm_getR (r := R a0 3) (q := 15) dX11_weeks_12 rfl fk_X11_20 hc7 (by decide) (by decide) rfl ?_
      obtain ⟨hc8, h⟩ := sm_gd_e h
      refine sm_getR (r := R (R a0 3) 5) (q := 18) dX11_weeks_15 rfl fk_X11_137 hc8 (by decide) (by decide) rfl ?_
      obtain ⟨hc9, h⟩ := sm_gd_e h
      refine sm_getI (q := 21) dX11_weeks_18 rfl fk_X11_146 hc9 (by decide) (by decide) ?_
      refine sm_sipush (v := 999) (q := 24) dX11_weeks_21 rfl (by decide) ?_
      refine sm_iload_n (q := 25) dX11_weeks_24 rfl rfl 1 rfl ?_
      refine sm_isub (q := 26) dX11_weeks_25 rfl ?_
      rcases sm_if_e h with ⟨hb10, h⟩ | ⟨hb10, h⟩
      · refine sm_icmp_le (tgt := 35) (q := 29) dX11_weeks_26 (by decide) rfl (fun _ => ?_) (fun hn => absurd hb10 hn)
        refine sm_aload_n (q := 36) dX11_weeks_35 rfl rfl 0 rfl ?_
        refine sm_getR (r := R a0 6) (q := 39) dX11_weeks_36 rfl fk_X11_39 hc7 (by decide) (by decide) rfl ?_
        refine sm_aload_n (q := 40) dX11_weeks_39 rfl rfl 0 rfl ?_
        refine sm_getR (r := R a0 3) (q := 43) dX11_weeks_40 rfl fk_X11_20 hc7 (by decide) (by decide) rfl ?_
        refine sm_getR (r := R (R a0 3) 5) (q := 46) dX11_weeks_43 rfl fk_X11_137 hc8 (by decide) (by decide) rfl ?_
        obtain ⟨hc11, h⟩ := sm_gd_e h
        obtain ⟨p12, hc_p12, h⟩ := sm_bd_e h
        refine sm_callVv (q := 49) (As := [.inr (.inl (R (R a0 3) 5))]) (S := []) (e_X0_keep hc_p12) mv_X11_235 hc11 rfl (by decide) (Nat.le_of_ble_eq_true rfl) dX11_weeks_46 rfl ?_
        refine sm_iconst (v := 0) (q := 50) dX11_weeks_49 rfl (by decide) ?_
        refine sm_istore_n (L' := [(2, .inl (0 : Int32)), (0, .inr (.inl a0)), (1, .inl a1)]) (q := 51) dX11_weeks_50 rfl rfl (by decide) rfl ?_
        refine sm_pick [1, 2, 0] rfl ?_
        exact w_X11_weeks_51 N R N _ _ _ _ _ h
      · refine sm_icmp_le (tgt := 35) (q := 29) dX11_weeks_26 (by decide) rfl (fun ht => absurd ht hb10) (fun _ => ?_)
        refine sm_aload_n (q := 30) dX11_weeks_29 rfl rfl 0 rfl ?_
        refine sm_iconst (v := 1) (q := 31) dX11_weeks_30 rfl (by decide) ?_
        obtain ⟨p13, hc_p13, h⟩ := sm_bd_e h
        refine sm_callVi (q := 34) (As := [.inl (1 : Int32)]) (S := []) (e_X11_refuse hc_p13) mv_X11_232 hc7 rfl (by decide) (Nat.le_of_ble_eq_true rfl) dX11_weeks_31 rfl ?_
        obtain rfl := Option.some.inj h
        exact sm_iret dX11_weeks_34 rfl
theorem e_X11_weeks {l : Launch} {N : Nat} {R : Nat → Nat → Nat} {a0 : Nat} {a1 : Int32} {I : (Nat → Nat → Int32)} {y : (Int32 × (Nat → Nat → Int32))} (h : f_X11_weeks N R a0 a1 I = some y) : sm_E l 4 mX11_weeks [.inr (.inl a0), .inl a1] (I, R) (.inl (some (.inl y.1))) (y.2, R) :=
  sm_meth (by decide) (Nat.le_of_ble_eq_true rfl) (w_X11_weeks N R a0 a1 I y h)
