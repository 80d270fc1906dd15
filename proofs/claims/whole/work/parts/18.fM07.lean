def f_X12_years_64 (N : Nat) (R : Nat → Nat → Nat) : Nat → Nat → Int32 → Int32 → Int32 → Int32 → (Nat → Nat → Int32) → Option (Int32 × (Nat → Nat → Int32))
  | 0, _, _, _, _, _, _ => none
  | n + 1, a0, a2, a3, a4, a5, I =>
    if a2 ≤ a5 then (
      if a3 = 0 then (
        sm_gd (sm_kd a0 = (12, 59)) <|
        (f_X12_allBars N R a0 I).bind fun p4 =>
        (f_X12_unpack N R a0 (R a0 37) (0 : Int32) p4.2).bind fun p5 =>
        some ((p4.1 - a4), p5.2))
      else (
        if a3 = (1 : Int32) then (
          sm_gd (sm_kd a0 = (12, 59)) <|
          (f_X12_allDone N R a0 I).bind fun p8 =>
          (f_X12_bitsOf N R p8.1 p8.2).bind fun p9 =>
          (f_X12_unpack N R a0 (R a0 37) (0 : Int32) p9.2).bind fun p10 =>
          some (p9.1, p10.2))
        else (
          sm_gd (sm_kd a0 = (12, 59)) <|
          (f_X12_allSkill N R a0 I).bind fun p12 =>
          (f_X12_unpack N R a0 (R a0 37) (0 : Int32) p12.2).bind fun p13 =>
          some (p12.1, p13.2))))
    else (
      sm_gd (sm_kd a0 = (12, 59)) <|
      (f_X12_something N R a0 I).bind fun p15 =>
      (f_X12_aWeek N R a0 p15.2).bind fun p16 =>
      f_X12_years_64 N R n a0 a2 a3 a4 (a5 + 1) p16.2)
def f_X12_years (N : Nat) (R : Nat → Nat → Nat) : Nat → Int32 → Int32 → Int32 → (Nat → Nat → Int32) → Option (Int32 × (Nat → Nat → Int32)) := fun a0 a1 a2 a3 I =>
  sm_gd (sm_kd a0 = (12, 59)) <|
  sm_lt (sm_up I a0 (sm_up (I a0) 3 (0 : Int32))) fun I2 =>
  (f_X12_isIn N R (Int32.toInt64 a3) (0 : Int64) (2 : Int64) I2).bind fun p3 =>
  if p3.1 = 0 then (
    (f_X12_fail N R a0 (1 : Int32) p3.2).bind fun p5 =>
    some (p5.1, p5.2))
  else (
    (f_X12_isIn N R (Int32.toInt64 a2) (0 : Int64) (60 : Int64) p3.2).bind fun p6 =>
    if p6.1 = 0 then (
      (f_X12_fail N R a0 (2 : Int32) p6.2).bind fun p8 =>
      some (p8.1, p8.2))
    else (
      (f_X12_pack N R a0 (R a0 37) (0 : Int32) p6.2).bind fun p9 =>
      sm_lt (sm_up p9.2 a0 (sm_up (p9.2 a0) 49 a1)) fun I10 =>
      (f_X12_allBars N R a0 I10).bind fun p11 =>
      f_X12_years_64 N R N a0 a2 a3 p11.1 (0 : Int32) p11.2))
set_option maxHeartbeats 4000000 in
set_option maxRecDepth 100000 in
theorem w_X12_years_64 {l : Launch} (N : Nat) (R : Nat → Nat → Nat) : ∀ (n : Nat) (a0 : Nat) (a2 : Int32) (a3 : Int32) (a4 : Int32) (a5 : Int32) (I : (Nat → Nat → Int32)) (y : (Int32 × (Nat → Nat → Int32))), f_X12_years_64 N R n a0 a2 a3 a4 a5 I = some y → sm_W l 6 mX12_years 64 [(0, .inr (.inl a0)), (2, .inl a2), (3, .inl a3), (4, .inl a4), (5, .inl a5)] [] (I, R) (.inl (some (.inl y.1))) (y.2, R) := by
  intro n
  induction n with
  | zero => intro a0 a2 a3 a4 a5 I y h; cases h
  | succ n ih =>
    intro a0 a2 a3 a4 a5 I y h
    rw [f_X12_years_64] at h
    refine sm_iload (q := 66) dX12_years_64 rfl 4 rfl ?_
    refine sm_iload_n (q := 67) dX12_years_66 rfl rfl 1 rfl ?_
    rcases sm_if_e h with ⟨hb1, h⟩ | ⟨hb1, h⟩
    · refine sm_icmp_ge (tgt := 84) (q := 70) dX12_years_67 (by decide) rfl (fun _ => ?_) (fun hn => absurd hb1 hn)
      refine sm_iload_n (q := 85) dX12_years_84 rfl rfl 2 rfl ?_
      rcases sm_if_e h with ⟨hb2, h⟩ | ⟨hb2, h⟩
      · refine sm_if_ne (tgt := 98) (q := 88) dX12_years_85 (by decide) rfl (fun hn => absurd hb2 hn) (fun _ => ?_)
        refine sm_aload_n (q := 89) dX12_years_88 rfl rfl 0 rfl ?_
        obtain ⟨hc3, h⟩ := sm_gd_e h
        obtain ⟨p4, hc_p4, h⟩ := sm_bd_e h
        refine sm_callVi (q := 92) (As := []) (S := []) (e_X12_allBars hc_p4) mv_X12_405 hc3 rfl (by decide) (Nat.le_of_ble_eq_true rfl) dX12_years_89 rfl ?_
        refine sm_iload (q := 94) dX12_years_92 rfl 3 rfl ?_
        refine sm_isub (q := 95) dX12_years_94 rfl ?_
        refine sm_goto (q := 117) dX12_years_95 (by decide) ?_
        refine sm_istore (L' := [(5, .inl (p4.1 - a4)), (0, .inr (.inl a0)), (2, .inl a2), (3, .inl a3), (4, .inl a4)]) (q := 119) dX12_years_117 rfl (by decide) rfl ?_
        refine sm_aload_n (q := 120) dX12_years_119 rfl rfl 1 rfl ?_
        refine sm_aload_n (q := 121) dX12_years_120 rfl rfl 1 rfl ?_
        refine sm_getR (r := R a0 37) (q := 124) dX12_years_121 rfl fk_X12_98 hc3 (by decide) (by decide) rfl ?_
        refine sm_iconst (v := 0) (q := 125) dX12_years_124 rfl (by decide) ?_
        obtain ⟨p5, hc_p5, h⟩ := sm_bd_e h
        refine sm_callVv (q := 128) (As := [.inr (.inl (R a0 37)), .inl (0 : Int32)]) (S := []) (e_X12_unpack hc_p5) mv_X12_400 hc3 rfl (by decide) (Nat.le_of_ble_eq_true rfl) dX12_years_125 rfl ?_
        refine sm_iload (q := 130) dX12_years_128 rfl 0 rfl ?_
        obtain rfl := Option.some.inj h
        exact sm_iret dX12_years_130 rfl
      · refine sm_if_ne (tgt := 98) (q := 88) dX12_years_85 (by decide) rfl (fun _ => ?_) (fun he => absurd he hb2)
        refine sm_iload_n (q := 99) dX12_years_98 rfl rfl 2 rfl ?_
        refine sm_iconst (v := 1) (q := 100) dX12_years_99 rfl (by decide) ?_
        rcases sm_if_e h with ⟨hb6, h⟩ | ⟨hb6, h⟩
        · refine sm_icmp_ne (tgt := 113) (q := 103) dX12_years_100 (by decide) rfl (fun hn => absurd hb6 hn) (fun _ => ?_)
          refine sm_aload_n (q := 104) dX12_years_103 rfl rfl 0 rfl ?_
          obtain ⟨hc7, h⟩ := sm_gd_e h
          obtain ⟨p8, hc_p8, h⟩ := sm_bd_e h
          refine sm_callVi (q := 107) (As := []) (S := []) (e_X12_allDone hc_p8) mv_X12_361 hc7 rfl (by decide) (Nat.le_of_ble_eq_true rfl) dX12_years_104 rfl ?_
          obtain ⟨p9, hc_p9, h⟩ := sm_bd_e h
          refine sm_callSi (q := 110) (As := [.inl p8.1]) (S := []) (e_X12_bitsOf hc_p9) ms_X12_322 rfl (by decide) (Nat.le_of_ble_eq_true rfl) dX12_years_107 rfl ?_
          refine sm_goto (q := 117) dX12_years_110 (by decide) ?_
          refine sm_istore (L' := [(5, .inl p9.1), (0, .inr (.inl a0)), (2, .inl a2), (3, .inl a3), (4, .inl a4)]) (q := 119) dX12_years_117 rfl (by decide) rfl ?_
          refine sm_aload_n (q := 120) dX12_years_119 rfl rfl 1 rfl ?_
          refine sm_aload_n (q := 121) dX12_years_120 rfl rfl 1 rfl ?_
          refine sm_getR (r := R a0 37) (q := 124) dX12_years_121 rfl fk_X12_98 hc7 (by decide) (by decide) rfl ?_
          refine sm_iconst (v := 0) (q := 125) dX12_years_124 rfl (by decide) ?_
          obtain ⟨p10, hc_p10, h⟩ := sm_bd_e h
          refine sm_callVv (q := 128) (As := [.inr (.inl (R a0 37)), .inl (0 : Int32)]) (S := []) (e_X12_unpack hc_p10) mv_X12_400 hc7 rfl (by decide) (Nat.le_of_ble_eq_true rfl) dX12_years_125 rfl ?_
          refine sm_iload (q := 130) dX12_years_128 rfl 0 rfl ?_
          obtain rfl := Option.some.inj h
          exact sm_iret dX12_years_130 rfl
        · refine sm_icmp_ne (tgt := 113) (q := 103) dX12_years_100 (by decide) rfl (fun _ => ?_) (fun he => absurd he hb6)
          refine sm_aload_n (q := 114) dX12_years_113 rfl rfl 0 rfl ?_
          obtain ⟨hc11, h⟩ := sm_gd_e h
          obtain ⟨p12, hc_p12, h⟩ := sm_bd_e h
          refine sm_callVi (q := 117) (As := []) (S := []) (e_X12_allSkill hc_p12) mv_X12_364 hc11 rfl (by decide) (Nat.le_of_ble_eq_true rfl) dX12_years_114 rfl ?_
          refine sm_istore (L' := [(5, .inl p12.1), (0, .inr (.inl a0)), (2, .inl a2), (3, .inl a3), (4, .inl a4)]) (q := 119) dX12_years_117 rfl (by decide) rfl ?_
          refine sm_aload_n (q := 120) dX12_years_119 rfl rfl 1 rfl ?_
          refine sm_aload_n (q := 121) dX12_years_120 rfl rfl 1 rfl ?_
          refine sm_getR (r := R a0 37) (q := 124) dX12_years_121 rfl fk_X12_98 hc11 (by decide) (by decide) rfl ?_
          refine sm_iconst (v := 0) (q := 125) dX12_years_124 rfl (by decide) ?_
          obtain ⟨p13, hc_p13, h⟩ := sm_bd_e h
          refine sm_callVv (q := 128) (As := [.inr (.inl (R a0 37)), .inl (0 : Int32)]) (S := []) (e_X12_unpack hc_p13) mv_X12_400 hc11 rfl (by decide) (Nat.le_of_ble_eq_true rfl) dX12_years_125 rfl ?_
          refine sm_iload (q := 130) dX12_years_128 rfl 0 rfl ?_
          obtain rfl := Option.some.inj h
          exact sm_iret dX12_years_130 rfl
    · refine sm_icmp_ge (tgt := 84) (q := 70) dX12_years_67 (by decide) rfl (fun ht => absurd ht hb1) (fun _ => ?_)
      refine sm_aload_n (q := 71) dX12_years_70 rfl rfl 0 rfl ?_
      obtain ⟨hc14, h⟩ := sm_gd_e h
      obtain ⟨p15, hc_p15, h⟩ := sm_bd_e h
      refine sm_callVv (q := 74) (As := []) (S := []) (e_X12_something hc_p15) mv_X12_456 hc14 rfl (by decide) (Nat.le_of_ble_eq_true rfl) dX12_years_71 rfl ?_
      refine sm_aload_n (q := 75) dX12_years_74 rfl rfl 0 rfl ?_
      obtain ⟨p16, hc_p16, h⟩ := sm_bd_e h
      refine sm_callVv (q := 78) (As := []) (S := []) (e_X12_aWeek hc_p16) mv_X12_346 hc14 rfl (by decide) (Nat.le_of_ble_eq_true rfl) dX12_years_75 rfl ?_
      refine sm_iinc (v := (a5 + 1)) (L' := [(5, .inl (a5 + 1)), (0, .inr (.inl a0)), (2, .inl a2), (3, .inl a3), (4, .inl a4)]) (q := 81) dX12_years_78 rfl 4 rfl rfl (by decide) rfl ?_
      refine sm_goto (q := 64) dX12_years_81 (by decide) ?_
      refine sm_pick [1, 2, 3, 4, 0] rfl ?_
      exact ih _ _ _ _ _ _ _ h
set_option maxHeartbeats 4000000 in
set_option maxRecDepth 100000 in
theorem w_X12_years {l : Launch} (N : Nat) (R : Nat → Nat → Nat) : ∀ (a0 : Nat) (a1 : Int32) (a2 : Int32) (a3 : Int32) (I : (Nat → Nat → Int32)) (y : (Int32 × (Nat → Nat → Int32))), f_X12_years N R a0 a1 a2 a3 I = some y → sm_W l 6 mX12_years 0 [(0, .inr (.inl a0)), (1, .inl a1), (2, .inl a2), (3, .inl a3)] [] (I, R) (.inl (some (.inl y.1))) (y.2, R) := by
  intro a0 a1 a2 a3 I y h
  unfold f_X12_years at h
  refine sm_aload_n (q := 1) dX12_years_0 rfl rfl 0 rfl ?_
  refine sm_iconst (v := 0) (q := 2) dX12_years_1 rfl (by decide) ?_
  obtain ⟨hc1, h⟩ := sm_gd_e h
  obtain ⟨I2, hI2, h⟩ := sm_lt_e h
  refine sm_putI (q := 5) dX12_years_2 rfl fk_X12_152 hc1 (by decide) (by decide) ?_
  refine sm_memI hI2 ?_
  refine sm_iload_n (q := 6) dX12_years_5 rfl rfl 3 rfl ?_
  refine sm_i2l (v := (Int32.toInt64 a3)) (q := 7) dX12_years_6 rfl rfl ?_
  refine sm_lconst (v := 0) (q := 8) dX12_years_7 rfl (by decide) ?_
  refine sm_ldc2 (q := 11) dX12_years_8 rfl co_X12_370 ?_
  obtain ⟨p3, hc_p3, h⟩ := sm_bd_e h
  refine sm_callSi (q := 14) (As := [.inr (.inr (Int32.toInt64 a3)), .inr (.inr (0 : Int64)), .inr (.inr (2 : Int64))]) (S := []) (e_X12_isIn hc_p3) ms_X12_155 rfl (by decide) (Nat.le_of_ble_eq_true rfl) dX12_years_11 rfl ?_
  rcases sm_if_e h with ⟨hb4, h⟩ | ⟨hb4, h⟩
  · refine sm_if_ne (tgt := 23) (q := 17) dX12_years_14 (by decide) rfl (fun hn => absurd hb4 hn) (fun _ => ?_)
    refine sm_aload_n (q := 18) dX12_years_17 rfl rfl 0 rfl ?_
    refine sm_iconst (v := 1) (q := 19) dX12_years_18 rfl (by decide) ?_
    obtain ⟨p5, hc_p5, h⟩ := sm_bd_e h
    refine sm_callVi (q := 22) (As := [.inl (1 : Int32)]) (S := []) (e_X12_fail hc_p5) mv_X12_283 hc1 rfl (by decide) (Nat.le_of_ble_eq_true rfl) dX12_years_19 rfl ?_
    obtain rfl := Option.some.inj h
    exact sm_iret dX12_years_22 rfl
  · refine sm_if_ne (tgt := 23) (q := 17) dX12_years_14 (by decide) rfl (fun _ => ?_) (fun he => absurd he hb4)
    refine sm_iload_n (q := 24) dX12_years_23 rfl rfl 2 rfl ?_
    refine sm_i2l (v := (Int32.toInt64 a2)) (q := 25) dX12_years_24 rfl rfl ?_
    refine sm_lconst (v := 0) (q := 26) dX12_years_25 rfl (by decide) ?_
    refine sm_ldc2 (q := 29) dX12_years_26 rfl co_X12_403 ?_
    obtain ⟨p6, hc_p6, h⟩ := sm_bd_e h
    refine sm_callSi (q := 32) (As := [.inr (.inr (Int32.toInt64 a2)), .inr (.inr (0 : Int64)), .inr (.inr (60 : Int64))]) (S := []) (e_X12_isIn hc_p6) ms_X12_155 rfl (by decide) (Nat.le_of_ble_eq_true rfl) dX12_years_29 rfl ?_
    rcases sm_if_e h with ⟨hb7, h⟩ | ⟨hb7, h⟩
    · refine sm_if_ne (tgt := 41) (q := 35) dX12_years_32 (by decide) rfl (fun hn => absurd hb7 hn) (fun _ => ?_)
      refine sm_aload_n (q := 36) dX12_years_35 rfl rfl 0 rfl ?_
      refine sm_iconst (v := 2) (q := 37) dX12_years_36 rfl (by decide) ?_
      obtain ⟨p8, hc_p8, h⟩ := sm_bd_e h
      refine sm_callVi (q := 40) (As := [.inl (2 : Int32)]) (S := []) (e_X12_fail hc_p8) mv_X12_283 hc1 rfl (by decide) (Nat.le_of_ble_eq_true rfl) dX12_years_37 rfl ?_
      obtain rfl := Option.some.inj h
      exact sm_iret dX12_years_40 rfl
    · refine sm_if_ne (tgt := 41) (q := 35) dX12_years_32 (by decide) rfl (fun _ => ?_) (fun he => absurd he hb7)
      refine sm_aload_n (q := 42) dX12_years_41 rfl rfl 0 rfl ?_
      refine sm_aload_n (q := 43) dX12_years_42 rfl rfl 0 rfl ?_
      refine sm_getR (r := R a0 37) (q := 46) dX12_years_43 rfl fk_X12_98 hc1 (by decide) (by decide) rfl ?_
      refine sm_iconst (v := 0) (q := 47) dX12_years_46 rfl (by decide) ?_
      obtain ⟨p9, hc_p9, h⟩ := sm_bd_e h
      refine sm_callVv (q := 50) (As := [.inr (.inl (R a0 37)), .inl (0 : Int32)]) (S := []) (e_X12_pack hc_p9) mv_X12_378 hc1 rfl (by decide) (Nat.le_of_ble_eq_true rfl) dX12_years_47 rfl ?_
      refine sm_aload_n (q := 51) dX12_years_50 rfl rfl 0 rfl ?_
      refine sm_iload_n (q := 52) dX12_years_51 rfl rfl 1 rfl ?_
      obtain ⟨I10, hI10, h⟩ := sm_lt_e h
      refine sm_putI (q := 55) dX12_years_52 rfl fk_X12_449 hc1 (by decide) (by decide) ?_
      refine sm_memI hI10 ?_
      refine sm_aload_n (q := 56) dX12_years_55 rfl rfl 0 rfl ?_
      obtain ⟨p11, hc_p11, h⟩ := sm_bd_e h
      refine sm_callVi (q := 59) (As := []) (S := []) (e_X12_allBars hc_p11) mv_X12_405 hc1 rfl (by decide) (Nat.le_of_ble_eq_true rfl) dX12_years_56 rfl ?_
      refine sm_istore (L' := [(4, .inl p11.1), (0, .inr (.inl a0)), (1, .inl a1), (2, .inl a2), (3, .inl a3)]) (q := 61) dX12_years_59 rfl (by decide) rfl ?_
      refine sm_iconst (v := 0) (q := 62) dX12_years_61 rfl (by decide) ?_
      refine sm_istore (L' := [(5, .inl (0 : Int32)), (4, .inl p11.1), (0, .inr (.inl a0)), (1, .inl a1), (2, .inl a2), (3, .inl a3)]) (q := 64) dX12_years_62 rfl (by decide) rfl ?_
      refine sm_pick [2, 4, 5, 1, 0] rfl ?_
      exact w_X12_years_64 N R N _ _ _ _ _ _ _ h
theorem e_X12_years {l : Launch} {N : Nat} {R : Nat → Nat → Nat} {a0 : Nat} {a1 : Int32} {a2 : Int32} {a3 : Int32} {I : (Nat → Nat → Int32)} {y : (Int32 × (Nat → Nat → Int32))} (h : f_X12_years N R a0 a1 a2 a3 I = some y) : sm_E l 6 mX12_years [.inr (.inl a0), .inl a1, .inl a2, .inl a3] (I, R) (.inl (some (.inl y.1))) (y.2, R) :=
  sm_meth (by decide) (Nat.le_of_ble_eq_true rfl) (w_X12_years N R a0 a1 a2 a3 I y h)
def f_X12_copyTo_2 (N : Nat) (R : Nat → Nat → Nat) : Nat → Nat → Nat → Int32 → (Nat → Nat → Int32) → Option (Unit × (Nat → Nat → Int32))
  | 0, _, _, _, _ => none
  | n + 1, a0, a1, a2, I =>
    sm_gd ((sm_kd a0).1 = 13) <|
    if (Int32.ofNat (sm_kd a0).2) ≤ a2 then (
      some ((), I))
    else (
      sm_gd ((sm_kd a1).1 = 13 ∧ ¬ (a2 < 0 ∨ (sm_kd a1).2 ≤ (a2).toNatClampNeg)) <|
      sm_gd ((sm_kd a0).1 = 13 ∧ ¬ (a2 < 0 ∨ (sm_kd a0).2 ≤ (a2).toNatClampNeg)) <|
      sm_lt (sm_up I a0 (sm_up (I a0) (a2).toNatClampNeg (I a1 (a2).toNatClampNeg))) fun I5 =>
      f_X12_copyTo_2 N R n a0 a1 (a2 + 1) I5)
def f_X12_copyTo (N : Nat) (R : Nat → Nat → Nat) : Nat → Nat → (Nat → Nat → Int32) → Option (Unit × (Nat → Nat → Int32)) := fun a0 a1 I =>
  f_X12_copyTo_2 N R N a0 a1 (0 : Int32) I
set_option maxHeartbeats 4000000 in
set_option maxRecDepth 100000 in
theorem w_X12_copyTo_2 {l : Launch} (N : Nat) (R : Nat → Nat → Nat) : ∀ (n : Nat) (a0 : Nat) (a1 : Nat) (a2 : Int32) (I : (Nat → Nat → Int32)) (y : (Unit × (Nat → Nat → Int32))), f_X12_copyTo_2 N R n a0 a1 a2 I = some y → sm_W l 0 mX12_copyTo 2 [(0, .inr (.inl a0)), (1, .inr (.inl a1)), (2, .inl a2)] [] (I, R) (.inl none) (y.2, R) := by
  intro n
  induction n with
  | zero => intro a0 a1 a2 I y h; cases h
  | succ n ih =>
    intro a0 a1 a2 I y h
    rw [f_X12_copyTo_2] at h
    refine sm_iload_n (q := 3) dX12_copyTo_2 rfl rfl 2 rfl ?_
    refine sm_aload_n (q := 4) dX12_copyTo_3 rfl rfl 0 rfl ?_
    obtain ⟨hc1, h⟩ := sm_gd_e h
    refine sm_alenI (t := 0) (v := (Int32.ofNat (sm_kd a0).2)) (q := 5) dX12_copyTo_4 rfl (Prod.ext hc1 rfl) (by decide) rfl ?_
    rcases sm_if_e h with ⟨hb2, h⟩ | ⟨hb2, h⟩
    · refine sm_icmp_ge (tgt := 20) (q := 8) dX12_copyTo_5 (by decide) rfl (fun _ => ?_) (fun hn => absurd hb2 hn)
      obtain rfl := Option.some.inj h
      exact sm_vret dX12_copyTo_20 rfl
    · refine sm_icmp_ge (tgt := 20) (q := 8) dX12_copyTo_5 (by decide) rfl (fun ht => absurd ht hb2) (fun _ => ?_)
      refine sm_aload_n (q := 9) dX12_copyTo_8 rfl rfl 0 rfl ?_
      refine sm_iload_n (q := 10) dX12_copyTo_9 rfl rfl 2 rfl ?_
      refine sm_aload_n (q := 11) dX12_copyTo_10 rfl rfl 1 rfl ?_
      refine sm_iload_n (q := 12) dX12_copyTo_11 rfl rfl 2 rfl ?_
      obtain ⟨hc3, h⟩ := sm_gd_e h
      refine sm_iald (n := (sm_kd a1).2) (q := 13) dX12_copyTo_12 rfl (Prod.ext hc3.1 rfl) hc3.2 ?_
      obtain ⟨hc4, h⟩ := sm_gd_e h
      obtain ⟨I5, hI5, h⟩ := sm_lt_e h
      refine sm_iast (n := (sm_kd a0).2) (q := 14) dX12_copyTo_13 rfl (Prod.ext hc4.1 rfl) hc4.2 ?_
      refine sm_memI hI5 ?_
      refine sm_iinc (v := (a2 + 1)) (L' := [(2, .inl (a2 + 1)), (0, .inr (.inl a0)), (1, .inr (.inl a1))]) (q := 17) dX12_copyTo_14 rfl 2 rfl rfl (by decide) rfl ?_
      refine sm_goto (q := 2) dX12_copyTo_17 (by decide) ?_
      refine sm_pick [1, 2, 0] rfl ?_
      exact ih _ _ _ _ _ h
set_option maxHeartbeats 4000000 in
set_option maxRecDepth 100000 in
theorem w_X12_copyTo {l : Launch} (N : Nat) (R : Nat → Nat → Nat) : ∀ (a0 : Nat) (a1 : Nat) (I : (Nat → Nat → Int32)) (y : (Unit × (Nat → Nat → Int32))), f_X12_copyTo N R a0 a1 I = some y → sm_W l 0 mX12_copyTo 0 [(0, .inr (.inl a0)), (1, .inr (.inl a1))] [] (I, R) (.inl none) (y.2, R) := by
  intro a0 a1 I y h
  unfold f_X12_copyTo at h
  refine sm_iconst (v := 0) (q := 1) dX12_copyTo_0 rfl (by decide) ?_
  refine sm_istore_n (L' := [(2, .inl (0 : Int32)), (0, .inr (.inl a0)), (1, .inr (.inl a1))]) (q := 2) dX12_copyTo_1 rfl rfl (by decide) rfl ?_
  refine sm_pick [1, 2, 0] rfl ?_
  exact w_X12_copyTo_2 N R N _ _ _ _ _ h
theorem e_X12_copyTo {l : Launch} {N : Nat} {R : Nat → Nat → Nat} {a0 : Nat} {a1 : Nat} {I : (Nat → Nat → Int32)} {y : (Unit × (Nat → Nat → Int32))} (h : f_X12_copyTo N R a0 a1 I = some y) : sm_E l 0 mX12_copyTo [.inr (.inl a0), .inr (.inl a1)] (I, R) (.inl none) (y.2, R) :=
  sm_meth (by decide) (Nat.le_of_ble_eq_true rfl) (w_X12_copyTo N R a0 a1 I y h)
def f_X12_image (N : Nat) (R : Nat → Nat → Nat) : Nat → (Nat → Nat → Int32) → Option (Unit × (Nat → Nat → Int32)) := fun a0 I =>
  sm_gd (sm_kd a0 = (12, 59)) <|
  sm_lt (sm_up I a0 (sm_up (I a0) 3 (0 : Int32))) fun I2 =>
  sm_lt (sm_up I2 a0 (sm_up (I2 a0) 50 (1 : Int32))) fun I3 =>
  sm_lt (sm_up I3 a0 (sm_up (I3 a0) 51 (I3 a0 33))) fun I4 =>
  sm_lt (sm_up I4 a0 (sm_up (I4 a0) 52 (I4 a0 34))) fun I5 =>
  (f_X12_pack N R a0 (R a0 53) (0 : Int32) I5).bind fun p6 =>
  (f_X12_copyTo N R (R a0 54) (R a0 30) p6.2).bind fun p7 =>
  (f_X12_copyTo N R (R a0 55) (R a0 41) p7.2).bind fun p8 =>
  (f_X12_copyTo N R (R a0 56) (R a0 42) p8.2).bind fun p9 =>
  (f_X12_copyTo N R (R a0 57) (R a0 43) p9.2).bind fun p10 =>
  (f_X12_copyTo N R (R a0 58) (R a0 13) p10.2).bind fun p11 =>
  some ((), p11.2)
set_option maxHeartbeats 4000000 in
set_option maxRecDepth 100000 in
theorem w_X12_image {l : Launch} (N : Nat) (R : Nat → Nat → Nat) : ∀ (a0 : Nat) (I : (Nat → Nat → Int32)) (y : (Unit × (Nat → Nat → Int32))), f_X12_image N R a0 I = some y → sm_W l 1 mX12_image 0 [(0, .inr (.inl a0))] [] (I, R) (.inl none) (y.2, R) := by
  intro a0 I y h
  unfold f_X12_image at h
  refine sm_aload_n (q := 1) dX12_image_0 rfl rfl 0 rfl ?_
  refine sm_iconst (v := 0) (q := 2) dX12_image_1 rfl (by decide) ?_
  obtain ⟨hc1, h⟩ := sm_gd_e h
  obtain ⟨I2, hI2, h⟩ := sm_lt_e h
  refine sm_putI (q := 5) dX12_image_2 rfl fk_X12_152 hc1 (by decide) (by decide) ?_
  refine sm_memI hI2 ?_
  refine sm_aload_n (q := 6) dX12_image_5 rfl rfl 0 rfl ?_
  refine sm_iconst (v := 1) (q := 7) dX12_image_6 rfl (by decide) ?_
  obtain ⟨I3, hI3, h⟩ := sm_lt_e h
  refine sm_putZ (q := 10) dX12_image_7 rfl fk_X12_305 hc1 (by decide) (by decide) (by decide) ?_
  refine sm_memI hI3 ?_
  refine sm_aload_n (q := 11) dX12_image_10 rfl rfl 0 rfl ?_
  refine sm_aload_n (q := 12) dX12_image_11 rfl rfl 0 rfl ?_
  refine sm_getI (q := 15) dX12_image_12 rfl fk_X12_299 hc1 (by decide) (by decide) ?_
  obtain ⟨I4, hI4, h⟩ := sm_lt_e h
  refine sm_putI (q := 18) dX12_image_15 rfl fk_X12_459 hc1 (by decide) (by decide) ?_
  refine sm_memI hI4 ?_
  refine sm_aload_n (q := 19) dX12_image_18 rfl rfl 0 rfl ?_
  refine sm_aload_n (q := 20) dX12_image_19 rfl rfl 0 rfl ?_
  refine sm_getI (q := 23) dX12_image_20 rfl fk_X12_302 hc1 (by decide) (by decide) ?_
  obtain ⟨I5, hI5, h⟩ := sm_lt_e h
  refine sm_putI (q := 26) dX12_image_23 rfl fk_X12_462 hc1 (by decide) (by decide) ?_
  refine sm_memI hI5 ?_
  refine sm_aload_n (q := 27) dX12_image_26 rfl rfl 0 rfl ?_
  refine sm_aload_n (q := 28) dX12_image_27 rfl rfl 0 rfl ?_
  refine sm_getR (r := R a0 53) (q := 31) dX12_image_28 rfl fk_X12_131 hc1 (by decide) (by decide) rfl ?_
  refine sm_iconst (v := 0) (q := 32) dX12_image_31 rfl (by decide) ?_
  obtain ⟨p6, hc_p6, h⟩ := sm_bd_e h
  refine sm_callVv (q := 35) (As := [.inr (.inl (R a0 53)), .inl (0 : Int32)]) (S := []) (e_X12_pack hc_p6) mv_X12_378 hc1 rfl (by decide) (Nat.le_of_ble_eq_true rfl) dX12_image_32 rfl ?_
  refine sm_aload_n (q := 36) dX12_image_35 rfl rfl 0 rfl ?_
  refine sm_getR (r := R a0 54) (q := 39) dX12_image_36 rfl fk_X12_134 hc1 (by decide) (by decide) rfl ?_
  refine sm_aload_n (q := 40) dX12_image_39 rfl rfl 0 rfl ?_
  refine sm_getR (r := R a0 30) (q := 43) dX12_image_40 rfl fk_X12_89 hc1 (by decide) (by decide) rfl ?_
  obtain ⟨p7, hc_p7, h⟩ := sm_bd_e h
  refine sm_callSv (q := 46) (As := [.inr (.inl (R a0 54)), .inr (.inl (R a0 30))]) (S := []) (e_X12_copyTo hc_p7) ms_X12_465 rfl (by decide) (Nat.le_of_ble_eq_true rfl) dX12_image_43 rfl ?_
  refine sm_aload_n (q := 47) dX12_image_46 rfl rfl 0 rfl ?_
  refine sm_getR (r := R a0 55) (q := 50) dX12_image_47 rfl fk_X12_137 hc1 (by decide) (by decide) rfl ?_
  refine sm_aload_n (q := 51) dX12_image_50 rfl rfl 0 rfl ?_
  refine sm_getR (r := R a0 41) (q := 54) dX12_image_51 rfl fk_X12_110 hc1 (by decide) (by decide) rfl ?_
  obtain ⟨p8, hc_p8, h⟩ := sm_bd_e h
  refine sm_callSv (q := 57) (As := [.inr (.inl (R a0 55)), .inr (.inl (R a0 41))]) (S := []) (e_X12_copyTo hc_p8) ms_X12_465 rfl (by decide) (Nat.le_of_ble_eq_true rfl) dX12_image_54 rfl ?_
  refine sm_aload_n (q := 58) dX12_image_57 rfl rfl 0 rfl ?_
  refine sm_getR (r := R a0 56) (q := 61) dX12_image_58 rfl fk_X12_140 hc1 (by decide) (by decide) rfl ?_
  refine sm_aload_n (q := 62) dX12_image_61 rfl rfl 0 rfl ?_
  refine sm_getR (r := R a0 42) (q := 65) dX12_image_62 rfl fk_X12_113 hc1 (by decide) (by decide) rfl ?_
  obtain ⟨p9, hc_p9, h⟩ := sm_bd_e h
  refine sm_callSv (q := 68) (As := [.inr (.inl (R a0 56)), .inr (.inl (R a0 42))]) (S := []) (e_X12_copyTo hc_p9) ms_X12_465 rfl (by decide) (Nat.le_of_ble_eq_true rfl) dX12_image_65 rfl ?_
  refine sm_aload_n (q := 69) dX12_image_68 rfl rfl 0 rfl ?_
  refine sm_getR (r := R a0 57) (q := 72) dX12_image_69 rfl fk_X12_143 hc1 (by decide) (by decide) rfl ?_
  refine sm_aload_n (q := 73) dX12_image_72 rfl rfl 0 rfl ?_
  refine sm_getR (r := R a0 43) (q := 76) dX12_image_73 rfl fk_X12_116 hc1 (by decide) (by decide) rfl ?_
  obtain ⟨p10, hc_p10, h⟩ := sm_bd_e h
  refine sm_callSv (q := 79) (As := [.inr (.inl (R a0 57)), .inr (.inl (R a0 43))]) (S := []) (e_X12_copyTo hc_p10) ms_X12_465 rfl (by decide) (Nat.le_of_ble_eq_true rfl) dX12_image_76 rfl ?_
  refine sm_aload_n (q := 80) dX12_image_79 rfl rfl 0 rfl ?_
  refine sm_getR (r := R a0 58) (q := 83) dX12_image_80 rfl fk_X12_146 hc1 (by decide) (by decide) rfl ?_
  refine sm_aload_n (q := 84) dX12_image_83 rfl rfl 0 rfl ?_
  refine sm_getR (r := R a0 13) (q := 87) dX12_image_84 rfl fk_X12_66 hc1 (by decide) (by decide) rfl ?_
  obtain ⟨p11, hc_p11, h⟩ := sm_bd_e h
  refine sm_callSv (q := 90) (As := [.inr (.inl (R a0 58)), .inr (.inl (R a0 13))]) (S := []) (e_X12_copyTo hc_p11) ms_X12_465 rfl (by decide) (Nat.le_of_ble_eq_true rfl) dX12_image_87 rfl ?_
  obtain rfl := Option.some.inj h
  exact sm_vret dX12_image_90 rfl
theorem e_X12_image {l : Launch} {N : Nat} {R : Nat → Nat → Nat} {a0 : Nat} {I : (Nat → Nat → Int32)} {y : (Unit × (Nat → Nat → Int32))} (h : f_X12_image N R a0 I = some y) : sm_E l 1 mX12_image [.inr (.inl a0)] (I, R) (.inl none) (y.2, R) :=
  sm_meth (by decide) (Nat.le_of_ble_eq_true rfl) (w_X12_image N R a0 I y h)
def f_X12_restore (N : Nat) (R : Nat → Nat → Nat) : Nat → (Nat → Nat → Int32) → Option (Int32 × (Nat → Nat → Int32)) := fun a0 I =>
  sm_gd (sm_kd a0 = (12, 59)) <|
  sm_lt (sm_up I a0 (sm_up (I a0) 3 (0 : Int32))) fun I2 =>
  if (I2 a0 50) = 0 then (
    some ((0 : Int32), I2))
  else (
    sm_lt (sm_up I2 a0 (sm_up (I2 a0) 33 (I2 a0 51))) fun I4 =>
    sm_lt (sm_up I4 a0 (sm_up (I4 a0) 34 (I4 a0 52))) fun I5 =>
    (f_X12_unpack N R a0 (R a0 53) (0 : Int32) I5).bind fun p6 =>
    (f_X12_copyTo N R (R a0 30) (R a0 54) p6.2).bind fun p7 =>
    (f_X12_copyTo N R (R a0 41) (R a0 55) p7.2).bind fun p8 =>
    (f_X12_copyTo N R (R a0 42) (R a0 56) p8.2).bind fun p9 =>
    (f_X12_copyTo N R (R a0 43) (R a0 57) p9.2).bind fun p10 =>
    (f_X12_copyTo N R (R a0 13) (R a0 58) p10.2).bind fun p11 =>
    some ((1 : Int32), p11.2))
set_option maxHeartbeats 4000000 in
set_option maxRecDepth 100000 in
theorem w_X12_restore {l : Launch} (N : Nat) (R : Nat → Nat → Nat) : ∀ (a0 : Nat) (I : (Nat → Nat → Int32)) (y : (Int32 × (Nat → Nat → Int32))), f_X12_restore N R a0 I = some y → sm_W l 1 mX12_restore 0 [(0, .inr (.inl a0))] [] (I, R) (.inl (some (.inl y.1))) (y.2, R) := by
  intro a0 I y h
  unfold f_X12_restore at h
  refine sm_aload_n (q := 1) dX12_restore_0 rfl rfl 0 rfl ?_
  refine sm_iconst (v := 0) (q := 2) dX12_restore_1 rfl (by decide) ?_
  obtain ⟨hc1, h⟩ := sm_gd_e h
  obtain ⟨I2, hI2, h⟩ := sm_lt_e h
  refine sm_putI (q := 5) dX12_restore_2 rfl fk_X12_152 hc1 (by decide) (by decide) ?_
  refine sm_memI hI2 ?_
  refine sm_aload_n (q := 6) dX12_restore_5 rfl rfl 0 rfl ?_
  refine sm_getI (q := 9) dX12_restore_6 rfl fk_X12_305 hc1 (by decide) (by decide) ?_
  rcases sm_if_e h with ⟨hb3, h⟩ | ⟨hb3, h⟩
  · refine sm_if_ne (tgt := 14) (q := 12) dX12_restore_9 (by decide) rfl (fun hn => absurd hb3 hn) (fun _ => ?_)
    refine sm_iconst (v := 0) (q := 13) dX12_restore_12 rfl (by decide) ?_
    obtain rfl := Option.some.inj h
    exact sm_zret dX12_restore_13 rfl (by decide)
  · refine sm_if_ne (tgt := 14) (q := 12) dX12_restore_9 (by decide) rfl (fun _ => ?_) (fun he => absurd he hb3)
    refine sm_aload_n (q := 15) dX12_restore_14 rfl rfl 0 rfl ?_
    refine sm_aload_n (q := 16) dX12_restore_15 rfl rfl 0 rfl ?_
    refine sm_getI (q := 19) dX12_restore_16 rfl fk_X12_459 hc1 (by decide) (by decide) ?_
    obtain ⟨I4, hI4, h⟩ := sm_lt_e h
    refine sm_putI (q := 22) dX12_restore_19 rfl fk_X12_299 hc1 (by decide) (by decide) ?_
    refine sm_memI hI4 ?_
    refine sm_aload_n (q := 23) dX12_restore_22 rfl rfl 0 rfl ?_
    refine sm_aload_n (q := 24) dX12_restore_23 rfl rfl 0 rfl ?_
    refine sm_getI (q := 27) dX12_restore_24 rfl fk_X12_462 hc1 (by decide) (by decide) ?_
    obtain ⟨I5, hI5, h⟩ := sm_lt_e h
    refine sm_putI (q := 30) dX12_restore_27 rfl fk_X12_302 hc1 (by decide) (by decide) ?_
    refine sm_memI hI5 ?_
    refine sm_aload_n (q := 31) dX12_restore_30 rfl rfl 0 rfl ?_
    refine sm_aload_n (q := 32) dX12_restore_31 rfl rfl 0 rfl ?_
    refine sm_getR (r := R a0 53) (q := 35) dX12_restore_32 rfl fk_X12_131 hc1 (by decide) (by decide) rfl ?_
    refine sm_iconst (v := 0) (q := 36) dX12_restore_35 rfl (by decide) ?_
    obtain ⟨p6, hc_p6, h⟩ := sm_bd_e h
    refine sm_callVv (q := 39) (As := [.inr (.inl (R a0 53)), .inl (0 : Int32)]) (S := []) (e_X12_unpack hc_p6) mv_X12_400 hc1 rfl (by decide) (Nat.le_of_ble_eq_true rfl) dX12_restore_36 rfl ?_
    refine sm_aload_n (q := 40) dX12_restore_39 rfl rfl 0 rfl ?_
    refine sm_getR (r := R a0 30) (q := 43) dX12_restore_40 rfl fk_X12_89 hc1 (by decide) (by decide) rfl ?_
    refine sm_aload_n (q := 44) dX12_restore_43 rfl rfl 0 rfl ?_
    refine sm_getR (r := R a0 54) (q := 47) dX12_restore_44 rfl fk_X12_134 hc1 (by decide) (by decide) rfl ?_
    obtain ⟨p7, hc_p7, h⟩ := sm_bd_e h
    refine sm_callSv (q := 50) (As := [.inr (.inl (R a0 30)), .inr (.inl (R a0 54))]) (S := []) (e_X12_copyTo hc_p7) ms_X12_465 rfl (by decide) (Nat.le_of_ble_eq_true rfl) dX12_restore_47 rfl ?_
    refine sm_aload_n (q := 51) dX12_restore_50 rfl rfl 0 rfl ?_
    refine sm_getR (r := R a0 41) (q := 54) dX12_restore_51 rfl fk_X12_110 hc1 (by decide) (by decide) rfl ?_
    refine sm_aload_n (q := 55) dX12_restore_54 rfl rfl 0 rfl ?_
    refine sm_getR (r := R a0 55) (q := 58) dX12_restore_55 rfl fk_X12_137 hc1 (by decide) (by decide) rfl ?_
    obtain ⟨p8, hc_p8, h⟩ := sm_bd_e h
    refine sm_callSv (q := 61) (As := [.inr (.inl (R a0 41)), .inr (.inl (R a0 55))]) (S := []) (e_X12_copyTo hc_p8) ms_X12_465 rfl (by decide) (Nat.le_of_ble_eq_true rfl) dX12_restore_58 rfl ?_
    refine sm_aload_n (q := 62) dX12_restore_61 rfl rfl 0 rfl ?_
    refine sm_getR (r := R a0 42) (q := 65) dX12_restore_62 rfl fk_X12_113 hc1 (by decide) (by decide) rfl ?_
    refine sm_aload_n (q := 66) dX12_restore_65 rfl rfl 0 rfl ?_
    refine sm_getR (r := R a0 56) (q := 69) dX12_restore_66 rfl fk_X12_140 hc1 (by decide) (by decide) rfl ?_
    obtain ⟨p9, hc_p9, h⟩ := sm_bd_e h
    refine sm_callSv (q := 72) (As := [.inr (.inl (R a0 42)), .inr (.inl (R a0 56))]) (S := []) (e_X12_copyTo hc_p9) ms_X12_465 rfl (by decide) (Nat.le_of_ble_eq_true rfl) dX12_restore_69 rfl ?_
    refine sm_aload_n (q := 73) dX12_restore_72 rfl rfl 0 rfl ?_
    refine sm_getR (r := R a0 43) (q := 76) dX12_restore_73 rfl fk_X12_116 hc1 (by decide) (by decide) rfl ?_
    refine sm_aload_n (q := 77) dX12_restore_76 rfl rfl 0 rfl ?_
    refine sm_getR (r := R a0 57) (q := 80) dX12_restore_77 rfl fk_X12_143 hc1 (by decide) (by decide) rfl ?_
    obtain ⟨p10, hc_p10, h⟩ := sm_bd_e h
    refine sm_callSv (q := 83) (As := [.inr (.inl (R a0 43)), .inr (.inl (R a0 57))]) (S := []) (e_X12_copyTo hc_p10) ms_X12_465 rfl (by decide) (Nat.le_of_ble_eq_true rfl) dX12_restore_80 rfl ?_
    refine sm_aload_n (q := 84) dX12_restore_83 rfl rfl 0 rfl ?_
    refine sm_getR (r := R a0 13) (q := 87) dX12_restore_84 rfl fk_X12_66 hc1 (by decide) (by decide) rfl ?_
    refine sm_aload_n (q := 88) dX12_restore_87 rfl rfl 0 rfl ?_
    refine sm_getR (r := R a0 58) (q := 91) dX12_restore_88 rfl fk_X12_146 hc1 (by decide) (by decide) rfl ?_
    obtain ⟨p11, hc_p11, h⟩ := sm_bd_e h
    refine sm_callSv (q := 94) (As := [.inr (.inl (R a0 13)), .inr (.inl (R a0 58))]) (S := []) (e_X12_copyTo hc_p11) ms_X12_465 rfl (by decide) (Nat.le_of_ble_eq_true rfl) dX12_restore_91 rfl ?_
    refine sm_iconst (v := 1) (q := 95) dX12_restore_94 rfl (by decide) ?_
    obtain rfl := Option.some.inj h
    exact sm_zret dX12_restore_95 rfl (by decide)
theorem e_X12_restore {l : Launch} {N : Nat} {R : Nat → Nat → Nat} {a0 : Nat} {I : (Nat → Nat → Int32)} {y : (Int32 × (Nat → Nat → Int32))} (h : f_X12_restore N R a0 I = some y) : sm_E l 1 mX12_restore [.inr (.inl a0)] (I, R) (.inl (some (.inl y.1))) (y.2, R) :=
  sm_meth (by decide) (Nat.le_of_ble_eq_true rfl) (w_X12_restore N R a0 I y h)
