def f_X12_school_108 (N : Nat) (R : Nat → Nat → Nat) : Nat → (Nat → Nat → Int32) → Option (Int32 × (Nat → Nat → Int32)) := fun a0 I =>
  sm_gd (sm_kd a0 = (12, 59)) <|
  if (I a0 22) = 0 then (
    (f_X12_takeOver N R a0 I).bind fun p3 =>
    some ((0 : Int32), p3.2))
  else (
    sm_lt (sm_up I a0 (sm_up (I a0) 24 (I a0 23))) fun I4 =>
    sm_gd ((sm_kd (R a0 13)).1 = 13 ∧ ¬ ((0 : Int32) < 0 ∨ (sm_kd (R a0 13)).2 ≤ ((0 : Int32)).toNatClampNeg)) <|
    sm_lt (sm_up I4 (R a0 13) (sm_up (I4 (R a0 13)) ((0 : Int32)).toNatClampNeg ((I4 (R a0 13) ((0 : Int32)).toNatClampNeg) + (1 : Int32)))) fun I6 =>
    some ((I6 a0 22), I6))
def f_X12_school_85 (N : Nat) (R : Nat → Nat → Nat) : Nat → Nat → Int32 → (Nat → Nat → Int32) → Option (Int32 × (Nat → Nat → Int32))
  | 0, _, _, _ => none
  | n + 1, a0, a2, I =>
    sm_gd (sm_kd a0 = (12, 59)) <|
    if (I a0 22) = 0 then (
      if (I a0 18) = 0 then (
        f_X12_school_108 N R a0 I)
      else (
        (f_X12_readLine N R a0 a2 I).bind fun p4 =>
        f_X12_school_85 N R n a0 p4.1 p4.2))
    else (
      f_X12_school_108 N R a0 I)
def f_X12_school_50 (N : Nat) (R : Nat → Nat → Nat) : Nat → Nat → Int32 → (Nat → Nat → Int32) → Option (Int32 × (Nat → Nat → Int32))
  | 0, _, _, _ => none
  | n + 1, a0, a2, I =>
    if (4 : Int32) ≤ a2 then (
      sm_gd (sm_kd a0 = (12, 59)) <|
      (f_X12_stepOn N R a0 I).bind fun p3 =>
      f_X12_school_85 N R N a0 (0 : Int32) p3.2)
    else (
      sm_gd (sm_kd a0 = (12, 59)) <|
      if a2 = (2 : Int32) then (
        sm_gd ((sm_kd (R a0 4)).1 = 13 ∧ ¬ (((4 : Int32) + a2) < 0 ∨ (sm_kd (R a0 4)).2 ≤ (((4 : Int32) + a2)).toNatClampNeg)) <|
        sm_lt (sm_up I (R a0 4) (sm_up (I (R a0 4)) (((4 : Int32) + a2)).toNatClampNeg (2 : Int32))) fun I7 =>
        f_X12_school_50 N R n a0 (a2 + 1) I7)
      else (
        sm_gd ((sm_kd (R a0 4)).1 = 13 ∧ ¬ (((4 : Int32) + a2) < 0 ∨ (sm_kd (R a0 4)).2 ≤ (((4 : Int32) + a2)).toNatClampNeg)) <|
        sm_lt (sm_up I (R a0 4) (sm_up (I (R a0 4)) (((4 : Int32) + a2)).toNatClampNeg (0 : Int32))) fun I9 =>
        f_X12_school_50 N R n a0 (a2 + 1) I9))
def f_X12_school (N : Nat) (R : Nat → Nat → Nat) : Nat → Int32 → (Nat → Nat → Int32) → Option (Int32 × (Nat → Nat → Int32)) := fun a0 a1 I =>
  sm_gd (sm_kd a0 = (12, 59)) <|
  sm_lt (sm_up I a0 (sm_up (I a0) 3 (0 : Int32))) fun I2 =>
  if a1 < 0 then (
    (f_X12_fail N R a0 (1 : Int32) I2).bind fun p4 =>
    some (p4.1, p4.2))
  else (
    if a1 ≤ (I2 a0 15) then (
      sm_lt (sm_up I2 a0 (sm_up (I2 a0) 15 (0 : Int32))) fun I6 =>
      sm_lt (sm_up I6 a0 (sm_up (I6 a0) 17 a1)) fun I7 =>
      sm_lt (sm_up I7 a0 (sm_up (I7 a0) 16 (0 : Int32))) fun I8 =>
      sm_lt (sm_up I8 a0 (sm_up (I8 a0) 22 (0 : Int32))) fun I9 =>
      sm_lt (sm_up I9 a0 (sm_up (I9 a0) 24 (-1 : Int32))) fun I10 =>
      f_X12_school_50 N R N a0 (0 : Int32) I10)
    else (
      (f_X12_fail N R a0 (1 : Int32) I2).bind fun p11 =>
      some (p11.1, p11.2)))
set_option maxHeartbeats 4000000 in
set_option maxRecDepth 100000 in
theorem w_X12_school_108 {l : Launch} (N : Nat) (R : Nat → Nat → Nat) : ∀ (a0 : Nat) (I : (Nat → Nat → Int32)) (y : (Int32 × (Nat → Nat → Int32))), f_X12_school_108 N R a0 I = some y → sm_W l 72 mX12_school 108 [(0, .inr (.inl a0))] [] (I, R) (.inl (some (.inl y.1))) (y.2, R) := by
  intro a0 I y h
  unfold f_X12_school_108 at h
  refine sm_aload_n (q := 109) dX12_school_108 rfl rfl 0 rfl ?_
  obtain ⟨hc1, h⟩ := sm_gd_e h
  refine sm_getI (q := 112) dX12_school_109 rfl fk_X12_201 hc1 (by decide) (by decide) ?_
  rcases sm_if_e h with ⟨hb2, h⟩ | ⟨hb2, h⟩
  · refine sm_if_eq (tgt := 138) (q := 115) dX12_school_112 (by decide) rfl (fun _ => ?_) (fun hn => absurd hb2 hn)
    refine sm_aload_n (q := 139) dX12_school_138 rfl rfl 0 rfl ?_
    obtain ⟨p3, hc_p3, h⟩ := sm_bd_e h
    refine sm_callVv (q := 142) (As := []) (S := []) (e_X12_takeOver hc_p3) mv_X12_289 hc1 rfl (by decide) (Nat.le_of_ble_eq_true rfl) dX12_school_139 rfl ?_
    refine sm_iconst (v := 0) (q := 143) dX12_school_142 rfl (by decide) ?_
    obtain rfl := Option.some.inj h
    exact sm_iret dX12_school_143 rfl
  · refine sm_if_eq (tgt := 138) (q := 115) dX12_school_112 (by decide) rfl (fun ht => absurd ht hb2) (fun _ => ?_)
    refine sm_aload_n (q := 116) dX12_school_115 rfl rfl 0 rfl ?_
    refine sm_aload_n (q := 117) dX12_school_116 rfl rfl 0 rfl ?_
    refine sm_getI (q := 120) dX12_school_117 rfl fk_X12_204 hc1 (by decide) (by decide) ?_
    obtain ⟨I4, hI4, h⟩ := sm_lt_e h
    refine sm_putI (q := 123) dX12_school_120 rfl fk_X12_72 hc1 (by decide) (by decide) ?_
    refine sm_memI hI4 ?_
    refine sm_aload_n (q := 124) dX12_school_123 rfl rfl 0 rfl ?_
    refine sm_getR (r := R a0 13) (q := 127) dX12_school_124 rfl fk_X12_66 hc1 (by decide) (by decide) rfl ?_
    refine sm_iconst (v := 0) (q := 128) dX12_school_127 rfl (by decide) ?_
    refine sm_dup2 (q := 129) dX12_school_128 rfl rfl rfl ?_
    obtain ⟨hc5, h⟩ := sm_gd_e h
    refine sm_iald (n := (sm_kd (R a0 13)).2) (q := 130) dX12_school_129 rfl (Prod.ext hc5.1 rfl) hc5.2 ?_
    refine sm_iconst (v := 1) (q := 131) dX12_school_130 rfl (by decide) ?_
    refine sm_iadd (q := 132) dX12_school_131 rfl ?_
    obtain ⟨I6, hI6, h⟩ := sm_lt_e h
    refine sm_iast (n := (sm_kd (R a0 13)).2) (q := 133) dX12_school_132 rfl (Prod.ext hc5.1 rfl) hc5.2 ?_
    refine sm_memI hI6 ?_
    refine sm_aload_n (q := 134) dX12_school_133 rfl rfl 0 rfl ?_
    refine sm_getI (q := 137) dX12_school_134 rfl fk_X12_201 hc1 (by decide) (by decide) ?_
    obtain rfl := Option.some.inj h
    exact sm_iret dX12_school_137 rfl
set_option maxHeartbeats 4000000 in
set_option maxRecDepth 100000 in
theorem w_X12_school_85 {l : Launch} (N : Nat) (R : Nat → Nat → Nat) : ∀ (n : Nat) (a0 : Nat) (a2 : Int32) (I : (Nat → Nat → Int32)) (y : (Int32 × (Nat → Nat → Int32))), f_X12_school_85 N R n a0 a2 I = some y → sm_W l 72 mX12_school 85 [(0, .inr (.inl a0)), (2, .inl a2)] [] (I, R) (.inl (some (.inl y.1))) (y.2, R) := by
  intro n
  induction n with
  | zero => intro a0 a2 I y h; cases h
  | succ n ih =>
    intro a0 a2 I y h
    rw [f_X12_school_85] at h
    refine sm_aload_n (q := 86) dX12_school_85 rfl rfl 0 rfl ?_
    obtain ⟨hc1, h⟩ := sm_gd_e h
    refine sm_getI (q := 89) dX12_school_86 rfl fk_X12_201 hc1 (by decide) (by decide) ?_
    rcases sm_if_e h with ⟨hb2, h⟩ | ⟨hb2, h⟩
    · refine sm_if_ne (tgt := 108) (q := 92) dX12_school_89 (by decide) rfl (fun hn => absurd hb2 hn) (fun _ => ?_)
      refine sm_aload_n (q := 93) dX12_school_92 rfl rfl 0 rfl ?_
      refine sm_getI (q := 96) dX12_school_93 rfl fk_X12_175 hc1 (by decide) (by decide) ?_
      rcases sm_if_e h with ⟨hb3, h⟩ | ⟨hb3, h⟩
      · refine sm_if_eq (tgt := 108) (q := 99) dX12_school_96 (by decide) rfl (fun _ => ?_) (fun hn => absurd hb3 hn)
        refine sm_pick [0] rfl ?_
        exact w_X12_school_108 N R _ _ _ h
      · refine sm_if_eq (tgt := 108) (q := 99) dX12_school_96 (by decide) rfl (fun ht => absurd ht hb3) (fun _ => ?_)
        refine sm_aload_n (q := 100) dX12_school_99 rfl rfl 0 rfl ?_
        refine sm_iload_n (q := 101) dX12_school_100 rfl rfl 1 rfl ?_
        obtain ⟨p4, hc_p4, h⟩ := sm_bd_e h
        refine sm_callVi (q := 104) (As := [.inl a2]) (S := []) (e_X12_readLine hc_p4) mv_X12_286 hc1 rfl (by decide) (Nat.le_of_ble_eq_true rfl) dX12_school_101 rfl ?_
        refine sm_istore_n (L' := [(2, .inl p4.1), (0, .inr (.inl a0))]) (q := 105) dX12_school_104 rfl rfl (by decide) rfl ?_
        refine sm_goto (q := 85) dX12_school_105 (by decide) ?_
        refine sm_pick [1, 0] rfl ?_
        exact ih _ _ _ _ h
    · refine sm_if_ne (tgt := 108) (q := 92) dX12_school_89 (by decide) rfl (fun _ => ?_) (fun he => absurd he hb2)
      refine sm_pick [0] rfl ?_
      exact w_X12_school_108 N R _ _ _ h
set_option maxHeartbeats 4000000 in
set_option maxRecDepth 100000 in
theorem w_X12_school_50 {l : Launch} (N : Nat) (R : Nat → Nat → Nat) : ∀ (n : Nat) (a0 : Nat) (a2 : Int32) (I : (Nat → Nat → Int32)) (y : (Int32 × (Nat → Nat → Int32))), f_X12_school_50 N R n a0 a2 I = some y → sm_W l 72 mX12_school 50 [(0, .inr (.inl a0)), (2, .inl a2)] [] (I, R) (.inl (some (.inl y.1))) (y.2, R) := by
  intro n
  induction n with
  | zero => intro a0 a2 I y h; cases h
  | succ n ih =>
    intro a0 a2 I y h
    rw [f_X12_school_50] at h
    refine sm_iload_n (q := 51) dX12_school_50 rfl rfl 1 rfl ?_
    refine sm_iconst (v := 4) (q := 52) dX12_school_51 rfl (by decide) ?_
    rcases sm_if_e h with ⟨hb1, h⟩ | ⟨hb1, h⟩
    · refine sm_icmp_ge (tgt := 79) (q := 55) dX12_school_52 (by decide) rfl (fun _ => ?_) (fun hn => absurd hb1 hn)
      refine sm_aload_n (q := 80) dX12_school_79 rfl rfl 0 rfl ?_
      obtain ⟨hc2, h⟩ := sm_gd_e h
      obtain ⟨p3, hc_p3, h⟩ := sm_bd_e h
      refine sm_callVv (q := 83) (As := []) (S := []) (e_X12_stepOn hc_p3) mv_X12_226 hc2 rfl (by decide) (Nat.le_of_ble_eq_true rfl) dX12_school_80 rfl ?_
      refine sm_iconst (v := 0) (q := 84) dX12_school_83 rfl (by decide) ?_
      refine sm_istore_n (L' := [(2, .inl (0 : Int32)), (0, .inr (.inl a0))]) (q := 85) dX12_school_84 rfl rfl (by decide) rfl ?_
      refine sm_pick [1, 0] rfl ?_
      exact w_X12_school_85 N R N _ _ _ _ h
    · refine sm_icmp_ge (tgt := 79) (q := 55) dX12_school_52 (by decide) rfl (fun ht => absurd ht hb1) (fun _ => ?_)
      refine sm_aload_n (q := 56) dX12_school_55 rfl rfl 0 rfl ?_
      obtain ⟨hc4, h⟩ := sm_gd_e h
      refine sm_getR (r := R a0 4) (q := 59) dX12_school_56 rfl fk_X12_41 hc4 (by decide) (by decide) rfl ?_
      refine sm_iconst (v := 4) (q := 60) dX12_school_59 rfl (by decide) ?_
      refine sm_iload_n (q := 61) dX12_school_60 rfl rfl 1 rfl ?_
      refine sm_iadd (q := 62) dX12_school_61 rfl ?_
      refine sm_iload_n (q := 63) dX12_school_62 rfl rfl 1 rfl ?_
      refine sm_iconst (v := 2) (q := 64) dX12_school_63 rfl (by decide) ?_
      rcases sm_if_e h with ⟨hb5, h⟩ | ⟨hb5, h⟩
      · refine sm_icmp_ne (tgt := 71) (q := 67) dX12_school_64 (by decide) rfl (fun hn => absurd hb5 hn) (fun _ => ?_)
        refine sm_iconst (v := 2) (q := 68) dX12_school_67 rfl (by decide) ?_
        refine sm_goto (q := 72) dX12_school_68 (by decide) ?_
        obtain ⟨hc6, h⟩ := sm_gd_e h
        obtain ⟨I7, hI7, h⟩ := sm_lt_e h
        refine sm_iast (n := (sm_kd (R a0 4)).2) (q := 73) dX12_school_72 rfl (Prod.ext hc6.1 rfl) hc6.2 ?_
        refine sm_memI hI7 ?_
        refine sm_iinc (v := (a2 + 1)) (L' := [(2, .inl (a2 + 1)), (0, .inr (.inl a0))]) (q := 76) dX12_school_73 rfl 1 rfl rfl (by decide) rfl ?_
        refine sm_goto (q := 50) dX12_school_76 (by decide) ?_
        refine sm_pick [1, 0] rfl ?_
        exact ih _ _ _ _ h
      · refine sm_icmp_ne (tgt := 71) (q := 67) dX12_school_64 (by decide) rfl (fun _ => ?_) (fun he => absurd he hb5)
        refine sm_iconst (v := 0) (q := 72) dX12_school_71 rfl (by decide) ?_
        obtain ⟨hc8, h⟩ := sm_gd_e h
        obtain ⟨I9, hI9, h⟩ := sm_lt_e h
        refine sm_iast (n := (sm_kd (R a0 4)).2) (q := 73) dX12_school_72 rfl (Prod.ext hc8.1 rfl) hc8.2 ?_
        refine sm_memI hI9 ?_
        refine sm_iinc (v := (a2 + 1)) (L' := [(2, .inl (a2 + 1)), (0, .inr (.inl a0))]) (q := 76) dX12_school_73 rfl 1 rfl rfl (by decide) rfl ?_
        refine sm_goto (q := 50) dX12_school_76 (by decide) ?_
        refine sm_pick [1, 0] rfl ?_
        exact ih _ _ _ _ h
set_option maxHeartbeats 4000000 in
set_option maxRecDepth 100000 in
theorem w_X12_school {l : Launch} (N : Nat) (R : Nat → Nat → Nat) : ∀ (a0 : Nat) (a1 : Int32) (I : (Nat → Nat → Int32)) (y : (Int32 × (Nat → Nat → Int32))), f_X12_school N R a0 a1 I = some y → sm_W l 72 mX12_school 0 [(0, .inr (.inl a0)), (1, .inl a1)] [] (I, R) (.inl (some (.inl y.1))) (y.2, R) := by
  intro a0 a1 I y h
  unfold f_X12_school at h
  refine sm_aload_n (q := 1) dX12_school_0 rfl rfl 0 rfl ?_
  refine sm_iconst (v := 0) (q := 2) dX12_school_1 rfl (by decide) ?_
  obtain ⟨hc1, h⟩ := sm_gd_e h
  obtain ⟨I2, hI2, h⟩ := sm_lt_e h
  refine sm_putI (q := 5) dX12_school_2 rfl fk_X12_152 hc1 (by decide) (by decide) ?_
  refine sm_memI hI2 ?_
  refine sm_iload_n (q := 6) dX12_school_5 rfl rfl 1 rfl ?_
  rcases sm_if_e h with ⟨hb3, h⟩ | ⟨hb3, h⟩
  · refine sm_if_lt (tgt := 17) (q := 9) dX12_school_6 (by decide) rfl (fun _ => ?_) (fun hn => absurd hb3 hn)
    refine sm_aload_n (q := 18) dX12_school_17 rfl rfl 0 rfl ?_
    refine sm_iconst (v := 1) (q := 19) dX12_school_18 rfl (by decide) ?_
    obtain ⟨p4, hc_p4, h⟩ := sm_bd_e h
    refine sm_callVi (q := 22) (As := [.inl (1 : Int32)]) (S := []) (e_X12_fail hc_p4) mv_X12_283 hc1 rfl (by decide) (Nat.le_of_ble_eq_true rfl) dX12_school_19 rfl ?_
    obtain rfl := Option.some.inj h
    exact sm_iret dX12_school_22 rfl
  · refine sm_if_lt (tgt := 17) (q := 9) dX12_school_6 (by decide) rfl (fun ht => absurd ht hb3) (fun _ => ?_)
    refine sm_iload_n (q := 10) dX12_school_9 rfl rfl 1 rfl ?_
    refine sm_aload_n (q := 11) dX12_school_10 rfl rfl 0 rfl ?_
    refine sm_getI (q := 14) dX12_school_11 rfl fk_X12_159 hc1 (by decide) (by decide) ?_
    rcases sm_if_e h with ⟨hb5, h⟩ | ⟨hb5, h⟩
    · refine sm_icmp_le (tgt := 23) (q := 17) dX12_school_14 (by decide) rfl (fun _ => ?_) (fun hn => absurd hb5 hn)
      refine sm_aload_n (q := 24) dX12_school_23 rfl rfl 0 rfl ?_
      refine sm_iconst (v := 0) (q := 25) dX12_school_24 rfl (by decide) ?_
      obtain ⟨I6, hI6, h⟩ := sm_lt_e h
      refine sm_putI (q := 28) dX12_school_25 rfl fk_X12_159 hc1 (by decide) (by decide) ?_
      refine sm_memI hI6 ?_
      refine sm_aload_n (q := 29) dX12_school_28 rfl rfl 0 rfl ?_
      refine sm_iload_n (q := 30) dX12_school_29 rfl rfl 1 rfl ?_
      obtain ⟨I7, hI7, h⟩ := sm_lt_e h
      refine sm_putI (q := 33) dX12_school_30 rfl fk_X12_162 hc1 (by decide) (by decide) ?_
      refine sm_memI hI7 ?_
      refine sm_aload_n (q := 34) dX12_school_33 rfl rfl 0 rfl ?_
      refine sm_iconst (v := 0) (q := 35) dX12_school_34 rfl (by decide) ?_
      obtain ⟨I8, hI8, h⟩ := sm_lt_e h
      refine sm_putI (q := 38) dX12_school_35 rfl fk_X12_165 hc1 (by decide) (by decide) ?_
      refine sm_memI hI8 ?_
      refine sm_aload_n (q := 39) dX12_school_38 rfl rfl 0 rfl ?_
      refine sm_iconst (v := 0) (q := 40) dX12_school_39 rfl (by decide) ?_
      obtain ⟨I9, hI9, h⟩ := sm_lt_e h
      refine sm_putI (q := 43) dX12_school_40 rfl fk_X12_201 hc1 (by decide) (by decide) ?_
      refine sm_memI hI9 ?_
      refine sm_aload_n (q := 44) dX12_school_43 rfl rfl 0 rfl ?_
      refine sm_iconst (v := -1) (q := 45) dX12_school_44 rfl (by decide) ?_
      obtain ⟨I10, hI10, h⟩ := sm_lt_e h
      refine sm_putI (q := 48) dX12_school_45 rfl fk_X12_72 hc1 (by decide) (by decide) ?_
      refine sm_memI hI10 ?_
      refine sm_iconst (v := 0) (q := 49) dX12_school_48 rfl (by decide) ?_
      refine sm_istore_n (L' := [(2, .inl (0 : Int32)), (0, .inr (.inl a0)), (1, .inl a1)]) (q := 50) dX12_school_49 rfl rfl (by decide) rfl ?_
      refine sm_pick [1, 0] rfl ?_
      exact w_X12_school_50 N R N _ _ _ _ h
    · refine sm_icmp_le (tgt := 23) (q := 17) dX12_school_14 (by decide) rfl (fun ht => absurd ht hb5) (fun _ => ?_)
      refine sm_aload_n (q := 18) dX12_school_17 rfl rfl 0 rfl ?_
      refine sm_iconst (v := 1) (q := 19) dX12_school_18 rfl (by decide) ?_
      obtain ⟨p11, hc_p11, h⟩ := sm_bd_e h
      refine sm_callVi (q := 22) (As := [.inl (1 : Int32)]) (S := []) (e_X12_fail hc_p11) mv_X12_283 hc1 rfl (by decide) (Nat.le_of_ble_eq_true rfl) dX12_school_19 rfl ?_
      obtain rfl := Option.some.inj h
      exact sm_iret dX12_school_22 rfl
theorem e_X12_school {l : Launch} {N : Nat} {R : Nat → Nat → Nat} {a0 : Nat} {a1 : Int32} {I : (Nat → Nat → Int32)} {y : (Int32 × (Nat → Nat → Int32))} (h : f_X12_school N R a0 a1 I = some y) : sm_E l 72 mX12_school [.inr (.inl a0), .inl a1] (I, R) (.inl (some (.inl y.1))) (y.2, R) :=
  sm_meth (by decide) (Nat.le_of_ble_eq_true rfl) (w_X12_school N R a0 a1 I y h)
def f_X12_fault (N : Nat) (R : Nat → Nat → Nat) : Nat → (Nat → Nat → Int32) → Option (Int32 × (Nat → Nat → Int32)) := fun a0 I =>
  sm_gd (sm_kd a0 = (12, 59)) <|
  sm_lt (sm_up I a0 (sm_up (I a0) 3 (0 : Int32))) fun I2 =>
  some ((I2 a0 24), I2)
set_option maxHeartbeats 4000000 in
set_option maxRecDepth 100000 in
theorem w_X12_fault {l : Launch} (N : Nat) (R : Nat → Nat → Nat) : ∀ (a0 : Nat) (I : (Nat → Nat → Int32)) (y : (Int32 × (Nat → Nat → Int32))), f_X12_fault N R a0 I = some y → sm_W l 0 mX12_fault 0 [(0, .inr (.inl a0))] [] (I, R) (.inl (some (.inl y.1))) (y.2, R) := by
  intro a0 I y h
  unfold f_X12_fault at h
  refine sm_aload_n (q := 1) dX12_fault_0 rfl rfl 0 rfl ?_
  refine sm_iconst (v := 0) (q := 2) dX12_fault_1 rfl (by decide) ?_
  obtain ⟨hc1, h⟩ := sm_gd_e h
  obtain ⟨I2, hI2, h⟩ := sm_lt_e h
  refine sm_putI (q := 5) dX12_fault_2 rfl fk_X12_152 hc1 (by decide) (by decide) ?_
  refine sm_memI hI2 ?_
  refine sm_aload_n (q := 6) dX12_fault_5 rfl rfl 0 rfl ?_
  refine sm_getI (q := 9) dX12_fault_6 rfl fk_X12_72 hc1 (by decide) (by decide) ?_
  obtain rfl := Option.some.inj h
  exact sm_iret dX12_fault_9 rfl
theorem e_X12_fault {l : Launch} {N : Nat} {R : Nat → Nat → Nat} {a0 : Nat} {I : (Nat → Nat → Int32)} {y : (Int32 × (Nat → Nat → Int32))} (h : f_X12_fault N R a0 I = some y) : sm_E l 0 mX12_fault [.inr (.inl a0)] (I, R) (.inl (some (.inl y.1))) (y.2, R) :=
  sm_meth (by decide) (Nat.le_of_ble_eq_true rfl) (w_X12_fault N R a0 I y h)
def f_X12_pack_23 (N : Nat) (R : Nat → Nat → Nat) : Nat → Nat → Nat → Int32 → Int32 → (Nat → Nat → Int32) → Option (Unit × (Nat → Nat → Int32))
  | 0, _, _, _, _, _ => none
  | n + 1, a0, a1, a3, a4, I =>
    if (7 : Int32) ≤ a4 then (
      some ((), I))
    else (
      sm_gd (sm_kd a0 = (12, 59)) <|
      sm_gd ((sm_kd (R a0 25)).1 = 13 ∧ ¬ (a4 < 0 ∨ (sm_kd (R a0 25)).2 ≤ (a4).toNatClampNeg)) <|
      sm_gd ((sm_kd a1).1 = 13 ∧ ¬ ((a3 + a4) < 0 ∨ (sm_kd a1).2 ≤ ((a3 + a4)).toNatClampNeg)) <|
      sm_lt (sm_up I a1 (sm_up (I a1) ((a3 + a4)).toNatClampNeg (I (R a0 25) (a4).toNatClampNeg))) fun I5 =>
      sm_gd ((sm_kd (R a0 26)).1 = 13 ∧ ¬ (a4 < 0 ∨ (sm_kd (R a0 26)).2 ≤ (a4).toNatClampNeg)) <|
      sm_gd ((sm_kd a1).1 = 13 ∧ ¬ (((a3 + (7 : Int32)) + a4) < 0 ∨ (sm_kd a1).2 ≤ (((a3 + (7 : Int32)) + a4)).toNatClampNeg)) <|
      sm_lt (sm_up I5 a1 (sm_up (I5 a1) (((a3 + (7 : Int32)) + a4)).toNatClampNeg (I5 (R a0 26) (a4).toNatClampNeg))) fun I8 =>
      sm_gd ((sm_kd (R a0 27)).1 = 13 ∧ ¬ (a4 < 0 ∨ (sm_kd (R a0 27)).2 ≤ (a4).toNatClampNeg)) <|
      sm_gd ((sm_kd a1).1 = 13 ∧ ¬ (((a3 + (14 : Int32)) + a4) < 0 ∨ (sm_kd a1).2 ≤ (((a3 + (14 : Int32)) + a4)).toNatClampNeg)) <|
      sm_lt (sm_up I8 a1 (sm_up (I8 a1) (((a3 + (14 : Int32)) + a4)).toNatClampNeg (I8 (R a0 27) (a4).toNatClampNeg))) fun I11 =>
      sm_gd ((sm_kd (R a0 28)).1 = 13 ∧ ¬ (a4 < 0 ∨ (sm_kd (R a0 28)).2 ≤ (a4).toNatClampNeg)) <|
      sm_gd ((sm_kd a1).1 = 13 ∧ ¬ (((a3 + (21 : Int32)) + a4) < 0 ∨ (sm_kd a1).2 ≤ (((a3 + (21 : Int32)) + a4)).toNatClampNeg)) <|
      sm_lt (sm_up I11 a1 (sm_up (I11 a1) (((a3 + (21 : Int32)) + a4)).toNatClampNeg (I11 (R a0 28) (a4).toNatClampNeg))) fun I14 =>
      sm_gd ((sm_kd (R a0 29)).1 = 13 ∧ ¬ (a4 < 0 ∨ (sm_kd (R a0 29)).2 ≤ (a4).toNatClampNeg)) <|
      sm_gd ((sm_kd a1).1 = 13 ∧ ¬ (((a3 + (28 : Int32)) + a4) < 0 ∨ (sm_kd a1).2 ≤ (((a3 + (28 : Int32)) + a4)).toNatClampNeg)) <|
      sm_lt (sm_up I14 a1 (sm_up (I14 a1) (((a3 + (28 : Int32)) + a4)).toNatClampNeg (I14 (R a0 29) (a4).toNatClampNeg))) fun I17 =>
      f_X12_pack_23 N R n a0 a1 a3 (a4 + 1) I17)
def f_X12_pack (N : Nat) (R : Nat → Nat → Nat) : Nat → Nat → Int32 → (Nat → Nat → Int32) → Option (Unit × (Nat → Nat → Int32)) := fun a0 a1 a2 I =>
  sm_gd (sm_kd a0 = (12, 59)) <|
  sm_gd ((sm_kd a1).1 = 13 ∧ ¬ (a2 < 0 ∨ (sm_kd a1).2 ≤ (a2).toNatClampNeg)) <|
  sm_lt (sm_up I a1 (sm_up (I a1) (a2).toNatClampNeg (I a0 31))) fun I3 =>
  sm_gd ((sm_kd a1).1 = 13 ∧ ¬ ((a2 + (1 : Int32)) < 0 ∨ (sm_kd a1).2 ≤ ((a2 + (1 : Int32))).toNatClampNeg)) <|
  sm_lt (sm_up I3 a1 (sm_up (I3 a1) ((a2 + (1 : Int32))).toNatClampNeg (I3 a0 32))) fun I5 =>
  f_X12_pack_23 N R N a0 a1 (a2 + (2 : Int32)) (0 : Int32) I5
set_option maxHeartbeats 4000000 in
set_option maxRecDepth 100000 in
theorem w_X12_pack_23 {l : Launch} (N : Nat) (R : Nat → Nat → Nat) : ∀ (n : Nat) (a0 : Nat) (a1 : Nat) (a3 : Int32) (a4 : Int32) (I : (Nat → Nat → Int32)) (y : (Unit × (Nat → Nat → Int32))), f_X12_pack_23 N R n a0 a1 a3 a4 I = some y → sm_W l 0 mX12_pack 23 [(0, .inr (.inl a0)), (1, .inr (.inl a1)), (3, .inl a3), (4, .inl a4)] [] (I, R) (.inl none) (y.2, R) := by
  intro n
  induction n with
  | zero => intro a0 a1 a3 a4 I y h; cases h
  | succ n ih =>
    intro a0 a1 a3 a4 I y h
    rw [f_X12_pack_23] at h
    refine sm_iload (q := 25) dX12_pack_23 rfl 3 rfl ?_
    refine sm_bipush (v := 7) (q := 27) dX12_pack_25 rfl (by decide) ?_
    rcases sm_if_e h with ⟨hb1, h⟩ | ⟨hb1, h⟩
    · refine sm_icmp_ge (tgt := 113) (q := 30) dX12_pack_27 (by decide) rfl (fun _ => ?_) (fun hn => absurd hb1 hn)
      obtain rfl := Option.some.inj h
      exact sm_vret dX12_pack_113 rfl
    · refine sm_icmp_ge (tgt := 113) (q := 30) dX12_pack_27 (by decide) rfl (fun ht => absurd ht hb1) (fun _ => ?_)
      refine sm_aload_n (q := 31) dX12_pack_30 rfl rfl 1 rfl ?_
      refine sm_iload_n (q := 32) dX12_pack_31 rfl rfl 2 rfl ?_
      refine sm_iload (q := 34) dX12_pack_32 rfl 3 rfl ?_
      refine sm_iadd (q := 35) dX12_pack_34 rfl ?_
      refine sm_aload_n (q := 36) dX12_pack_35 rfl rfl 0 rfl ?_
      obtain ⟨hc2, h⟩ := sm_gd_e h
      refine sm_getR (r := R a0 25) (q := 39) dX12_pack_36 rfl fk_X12_76 hc2 (by decide) (by decide) rfl ?_
      refine sm_iload (q := 41) dX12_pack_39 rfl 3 rfl ?_
      obtain ⟨hc3, h⟩ := sm_gd_e h
      refine sm_iald (n := (sm_kd (R a0 25)).2) (q := 42) dX12_pack_41 rfl (Prod.ext hc3.1 rfl) hc3.2 ?_
      obtain ⟨hc4, h⟩ := sm_gd_e h
      obtain ⟨I5, hI5, h⟩ := sm_lt_e h
      refine sm_iast (n := (sm_kd a1).2) (q := 43) dX12_pack_42 rfl (Prod.ext hc4.1 rfl) hc4.2 ?_
      refine sm_memI hI5 ?_
      refine sm_aload_n (q := 44) dX12_pack_43 rfl rfl 1 rfl ?_
      refine sm_iload_n (q := 45) dX12_pack_44 rfl rfl 2 rfl ?_
      refine sm_bipush (v := 7) (q := 47) dX12_pack_45 rfl (by decide) ?_
      refine sm_iadd (q := 48) dX12_pack_47 rfl ?_
      refine sm_iload (q := 50) dX12_pack_48 rfl 3 rfl ?_
      refine sm_iadd (q := 51) dX12_pack_50 rfl ?_
      refine sm_aload_n (q := 52) dX12_pack_51 rfl rfl 0 rfl ?_
      refine sm_getR (r := R a0 26) (q := 55) dX12_pack_52 rfl fk_X12_79 hc2 (by decide) (by decide) rfl ?_
      refine sm_iload (q := 57) dX12_pack_55 rfl 3 rfl ?_
      obtain ⟨hc6, h⟩ := sm_gd_e h
      refine sm_iald (n := (sm_kd (R a0 26)).2) (q := 58) dX12_pack_57 rfl (Prod.ext hc6.1 rfl) hc6.2 ?_
      obtain ⟨hc7, h⟩ := sm_gd_e h
      obtain ⟨I8, hI8, h⟩ := sm_lt_e h
      refine sm_iast (n := (sm_kd a1).2) (q := 59) dX12_pack_58 rfl (Prod.ext hc7.1 rfl) hc7.2 ?_
      refine sm_memI hI8 ?_
      refine sm_aload_n (q := 60) dX12_pack_59 rfl rfl 1 rfl ?_
      refine sm_iload_n (q := 61) dX12_pack_60 rfl rfl 2 rfl ?_
      refine sm_bipush (v := 14) (q := 63) dX12_pack_61 rfl (by decide) ?_
      refine sm_iadd (q := 64) dX12_pack_63 rfl ?_
      refine sm_iload (q := 66) dX12_pack_64 rfl 3 rfl ?_
      refine sm_iadd (q := 67) dX12_pack_66 rfl ?_
      refine sm_aload_n (q := 68) dX12_pack_67 rfl rfl 0 rfl ?_
      refine sm_getR (r := R a0 27) (q := 71) dX12_pack_68 rfl fk_X12_82 hc2 (by decide) (by decide) rfl ?_
      refine sm_iload (q := 73) dX12_pack_71 rfl 3 rfl ?_
      obtain ⟨hc9, h⟩ := sm_gd_e h
      refine sm_iald (n := (sm_kd (R a0 27)).2) (q := 74) dX12_pack_73 rfl (Prod.ext hc9.1 rfl) hc9.2 ?_
      obtain ⟨hc10, h⟩ := sm_gd_e h
      obtain ⟨I11, hI11, h⟩ := sm_lt_e h
      refine sm_iast (n := (sm_kd a1).2) (q := 75) dX12_pack_74 rfl (Prod.ext hc10.1 rfl) hc10.2 ?_
      refine sm_memI hI11 ?_
      refine sm_aload_n (q := 76) dX12_pack_75 rfl rfl 1 rfl ?_
      refine sm_iload_n (q := 77) dX12_pack_76 rfl rfl 2 rfl ?_
      refine sm_bipush (v := 21) (q := 79) dX12_pack_77 rfl (by decide) ?_
      refine sm_iadd (q := 80) dX12_pack_79 rfl ?_
      refine sm_iload (q := 82) dX12_pack_80 rfl 3 rfl ?_
      refine sm_iadd (q := 83) dX12_pack_82 rfl ?_
      refine sm_aload_n (q := 84) dX12_pack_83 rfl rfl 0 rfl ?_
      refine sm_getR (r := R a0 28) (q := 87) dX12_pack_84 rfl fk_X12_85 hc2 (by decide) (by decide) rfl ?_
      refine sm_iload (q := 89) dX12_pack_87 rfl 3 rfl ?_
      obtain ⟨hc12, h⟩ := sm_gd_e h
      refine sm_iald (n := (sm_kd (R a0 28)).2) (q := 90) dX12_pack_89 rfl (Prod.ext hc12.1 rfl) hc12.2 ?_
      obtain ⟨hc13, h⟩ := sm_gd_e h
      obtain ⟨I14, hI14, h⟩ := sm_lt_e h
      refine sm_iast (n := (sm_kd a1).2) (q := 91) dX12_pack_90 rfl (Prod.ext hc13.1 rfl) hc13.2 ?_
      refine sm_memI hI14 ?_
      refine sm_aload_n (q := 92) dX12_pack_91 rfl rfl 1 rfl ?_
      refine sm_iload_n (q := 93) dX12_pack_92 rfl rfl 2 rfl ?_
      refine sm_bipush (v := 28) (q := 95) dX12_pack_93 rfl (by decide) ?_
      refine sm_iadd (q := 96) dX12_pack_95 rfl ?_
      refine sm_iload (q := 98) dX12_pack_96 rfl 3 rfl ?_
      refine sm_iadd (q := 99) dX12_pack_98 rfl ?_
      refine sm_aload_n (q := 100) dX12_pack_99 rfl rfl 0 rfl ?_
      refine sm_getR (r := R a0 29) (q := 103) dX12_pack_100 rfl fk_X12_87 hc2 (by decide) (by decide) rfl ?_
      refine sm_iload (q := 105) dX12_pack_103 rfl 3 rfl ?_
      obtain ⟨hc15, h⟩ := sm_gd_e h
      refine sm_iald (n := (sm_kd (R a0 29)).2) (q := 106) dX12_pack_105 rfl (Prod.ext hc15.1 rfl) hc15.2 ?_
      obtain ⟨hc16, h⟩ := sm_gd_e h
      obtain ⟨I17, hI17, h⟩ := sm_lt_e h
      refine sm_iast (n := (sm_kd a1).2) (q := 107) dX12_pack_106 rfl (Prod.ext hc16.1 rfl) hc16.2 ?_
      refine sm_memI hI17 ?_
      refine sm_iinc (v := (a4 + 1)) (L' := [(4, .inl (a4 + 1)), (0, .inr (.inl a0)), (1, .inr (.inl a1)), (3, .inl a3)]) (q := 110) dX12_pack_107 rfl 3 rfl rfl (by decide) rfl ?_
      refine sm_goto (q := 23) dX12_pack_110 (by decide) ?_
      refine sm_pick [1, 2, 3, 0] rfl ?_
      exact ih _ _ _ _ _ _ h
set_option maxHeartbeats 4000000 in
set_option maxRecDepth 100000 in
theorem w_X12_pack {l : Launch} (N : Nat) (R : Nat → Nat → Nat) : ∀ (a0 : Nat) (a1 : Nat) (a2 : Int32) (I : (Nat → Nat → Int32)) (y : (Unit × (Nat → Nat → Int32))), f_X12_pack N R a0 a1 a2 I = some y → sm_W l 0 mX12_pack 0 [(0, .inr (.inl a0)), (1, .inr (.inl a1)), (2, .inl a2)] [] (I, R) (.inl none) (y.2, R) := by
  intro a0 a1 a2 I y h
  unfold f_X12_pack at h
  refine sm_aload_n (q := 1) dX12_pack_0 rfl rfl 1 rfl ?_
  refine sm_iload_n (q := 2) dX12_pack_1 rfl rfl 2 rfl ?_
  refine sm_aload_n (q := 3) dX12_pack_2 rfl rfl 0 rfl ?_
  obtain ⟨hc1, h⟩ := sm_gd_e h
  refine sm_getI (q := 6) dX12_pack_3 rfl fk_X12_296 hc1 (by decide) (by decide) ?_
  obtain ⟨hc2, h⟩ := sm_gd_e h
  obtain ⟨I3, hI3, h⟩ := sm_lt_e h
  refine sm_iast (n := (sm_kd a1).2) (q := 7) dX12_pack_6 rfl (Prod.ext hc2.1 rfl) hc2.2 ?_
  refine sm_memI hI3 ?_
  refine sm_aload_n (q := 8) dX12_pack_7 rfl rfl 1 rfl ?_
  refine sm_iload_n (q := 9) dX12_pack_8 rfl rfl 2 rfl ?_
  refine sm_iconst (v := 1) (q := 10) dX12_pack_9 rfl (by decide) ?_
  refine sm_iadd (q := 11) dX12_pack_10 rfl ?_
  refine sm_aload_n (q := 12) dX12_pack_11 rfl rfl 0 rfl ?_
  refine sm_getI (q := 15) dX12_pack_12 rfl fk_X12_149 hc1 (by decide) (by decide) ?_
  obtain ⟨hc4, h⟩ := sm_gd_e h
  obtain ⟨I5, hI5, h⟩ := sm_lt_e h
  refine sm_iast (n := (sm_kd a1).2) (q := 16) dX12_pack_15 rfl (Prod.ext hc4.1 rfl) hc4.2 ?_
  refine sm_memI hI5 ?_
  refine sm_iload_n (q := 17) dX12_pack_16 rfl rfl 2 rfl ?_
  refine sm_iconst (v := 2) (q := 18) dX12_pack_17 rfl (by decide) ?_
  refine sm_iadd (q := 19) dX12_pack_18 rfl ?_
  refine sm_istore_n (L' := [(3, .inl (a2 + (2 : Int32))), (0, .inr (.inl a0)), (1, .inr (.inl a1)), (2, .inl a2)]) (q := 20) dX12_pack_19 rfl rfl (by decide) rfl ?_
  refine sm_iconst (v := 0) (q := 21) dX12_pack_20 rfl (by decide) ?_
  refine sm_istore (L' := [(4, .inl (0 : Int32)), (3, .inl (a2 + (2 : Int32))), (0, .inr (.inl a0)), (1, .inr (.inl a1)), (2, .inl a2)]) (q := 23) dX12_pack_21 rfl (by decide) rfl ?_
  refine sm_pick [2, 3, 1, 0] rfl ?_
  exact w_X12_pack_23 N R N _ _ _ _ _ _ h
theorem e_X12_pack {l : Launch} {N : Nat} {R : Nat → Nat → Nat} {a0 : Nat} {a1 : Nat} {a2 : Int32} {I : (Nat → Nat → Int32)} {y : (Unit × (Nat → Nat → Int32))} (h : f_X12_pack N R a0 a1 a2 I = some y) : sm_E l 0 mX12_pack [.inr (.inl a0), .inr (.inl a1), .inl a2] (I, R) (.inl none) (y.2, R) :=
  sm_meth (by decide) (Nat.le_of_ble_eq_true rfl) (w_X12_pack N R a0 a1 a2 I y h)
def f_X12_unpack_23 (N : Nat) (R : Nat → Nat → Nat) : Nat → Nat → Nat → Int32 → Int32 → (Nat → Nat → Int32) → Option (Unit × (Nat → Nat → Int32))
  | 0, _, _, _, _, _ => none
  | n + 1, a0, a1, a3, a4, I =>
    if (7 : Int32) ≤ a4 then (
      some ((), I))
    else (
      sm_gd (sm_kd a0 = (12, 59)) <|
      sm_gd ((sm_kd a1).1 = 13 ∧ ¬ ((a3 + a4) < 0 ∨ (sm_kd a1).2 ≤ ((a3 + a4)).toNatClampNeg)) <|
      sm_gd ((sm_kd (R a0 25)).1 = 13 ∧ ¬ (a4 < 0 ∨ (sm_kd (R a0 25)).2 ≤ (a4).toNatClampNeg)) <|
      sm_lt (sm_up I (R a0 25) (sm_up (I (R a0 25)) (a4).toNatClampNeg (I a1 ((a3 + a4)).toNatClampNeg))) fun I5 =>
      sm_gd ((sm_kd a1).1 = 13 ∧ ¬ (((a3 + (7 : Int32)) + a4) < 0 ∨ (sm_kd a1).2 ≤ (((a3 + (7 : Int32)) + a4)).toNatClampNeg)) <|
      sm_gd ((sm_kd (R a0 26)).1 = 13 ∧ ¬ (a4 < 0 ∨ (sm_kd (R a0 26)).2 ≤ (a4).toNatClampNeg)) <|
      sm_lt (sm_up I5 (R a0 26) (sm_up (I5 (R a0 26)) (a4).toNatClampNeg (I5 a1 (((a3 + (7 : Int32)) + a4)).toNatClampNeg))) fun I8 =>
      sm_gd ((sm_kd a1).1 = 13 ∧ ¬ (((a3 + (14 : Int32)) + a4) < 0 ∨ (sm_kd a1).2 ≤ (((a3 + (14 : Int32)) + a4)).toNatClampNeg)) <|
      sm_gd ((sm_kd (R a0 27)).1 = 13 ∧ ¬ (a4 < 0 ∨ (sm_kd (R a0 27)).2 ≤ (a4).toNatClampNeg)) <|
      sm_lt (sm_up I8 (R a0 27) (sm_up (I8 (R a0 27)) (a4).toNatClampNeg (I8 a1 (((a3 + (14 : Int32)) + a4)).toNatClampNeg))) fun I11 =>
      sm_gd ((sm_kd a1).1 = 13 ∧ ¬ (((a3 + (21 : Int32)) + a4) < 0 ∨ (sm_kd a1).2 ≤ (((a3 + (21 : Int32)) + a4)).toNatClampNeg)) <|
      sm_gd ((sm_kd (R a0 28)).1 = 13 ∧ ¬ (a4 < 0 ∨ (sm_kd (R a0 28)).2 ≤ (a4).toNatClampNeg)) <|
      sm_lt (sm_up I11 (R a0 28) (sm_up (I11 (R a0 28)) (a4).toNatClampNeg (I11 a1 (((a3 + (21 : Int32)) + a4)).toNatClampNeg))) fun I14 =>
      sm_gd ((sm_kd a1).1 = 13 ∧ ¬ (((a3 + (28 : Int32)) + a4) < 0 ∨ (sm_kd a1).2 ≤ (((a3 + (28 : Int32)) + a4)).toNatClampNeg)) <|
      sm_gd ((sm_kd (R a0 29)).1 = 13 ∧ ¬ (a4 < 0 ∨ (sm_kd (R a0 29)).2 ≤ (a4).toNatClampNeg)) <|
      sm_lt (sm_up I14 (R a0 29) (sm_up (I14 (R a0 29)) (a4).toNatClampNeg (I14 a1 (((a3 + (28 : Int32)) + a4)).toNatClampNeg))) fun I17 =>
      f_X12_unpack_23 N R n a0 a1 a3 (a4 + 1) I17)
def f_X12_unpack (N : Nat) (R : Nat → Nat → Nat) : Nat → Nat → Int32 → (Nat → Nat → Int32) → Option (Unit × (Nat → Nat → Int32)) := fun a0 a1 a2 I =>
  sm_gd ((sm_kd a1).1 = 13 ∧ ¬ (a2 < 0 ∨ (sm_kd a1).2 ≤ (a2).toNatClampNeg)) <|
  sm_gd (sm_kd a0 = (12, 59)) <|
  sm_lt (sm_up I a0 (sm_up (I a0) 31 (I a1 (a2).toNatClampNeg))) fun I3 =>
  sm_gd ((sm_kd a1).1 = 13 ∧ ¬ ((a2 + (1 : Int32)) < 0 ∨ (sm_kd a1).2 ≤ ((a2 + (1 : Int32))).toNatClampNeg)) <|
  sm_lt (sm_up I3 a0 (sm_up (I3 a0) 32 (I3 a1 ((a2 + (1 : Int32))).toNatClampNeg))) fun I5 =>
  f_X12_unpack_23 N R N a0 a1 (a2 + (2 : Int32)) (0 : Int32) I5
set_option maxHeartbeats 4000000 in
set_option maxRecDepth 100000 in
theorem w_X12_unpack_23 {l : Launch} (N : Nat) (R : Nat → Nat → Nat) : ∀ (n : Nat) (a0 : Nat) (a1 : Nat) (a3 : Int32) (a4 : Int32) (I : (Nat → Nat → Int32)) (y : (Unit × (Nat → Nat → Int32))), f_X12_unpack_23 N R n a0 a1 a3 a4 I = some y → sm_W l 0 mX12_unpack 23 [(0, .inr (.inl a0)), (1, .inr (.inl a1)), (3, .inl a3), (4, .inl a4)] [] (I, R) (.inl none) (y.2, R) := by
  intro n
  induction n with
  | zero => intro a0 a1 a3 a4 I y h; cases h
  | succ n ih =>
    intro a0 a1 a3 a4 I y h
    rw [f_X12_unpack_23] at h
    refine sm_iload (q := 25) dX12_unpack_23 rfl 3 rfl ?_
    refine sm_bipush (v := 7) (q := 27) dX12_unpack_25 rfl (by decide) ?_
    rcases sm_if_e h with ⟨hb1, h⟩ | ⟨hb1, h⟩
    · refine sm_icmp_ge (tgt := 113) (q := 30) dX12_unpack_27 (by decide) rfl (fun _ => ?_) (fun hn => absurd hb1 hn)
      obtain rfl := Option.some.inj h
      exact sm_vret dX12_unpack_113 rfl
    · refine sm_icmp_ge (tgt := 113) (q := 30) dX12_unpack_27 (by decide) rfl (fun ht => absurd ht hb1) (fun _ => ?_)
      refine sm_aload_n (q := 31) dX12_unpack_30 rfl rfl 0 rfl ?_
      obtain ⟨hc2, h⟩ := sm_gd_e h
      refine sm_getR (r := R a0 25) (q := 34) dX12_unpack_31 rfl fk_X12_76 hc2 (by decide) (by decide) rfl ?_
      refine sm_iload (q := 36) dX12_unpack_34 rfl 3 rfl ?_
      refine sm_aload_n (q := 37) dX12_unpack_36 rfl rfl 1 rfl ?_
      refine sm_iload_n (q := 38) dX12_unpack_37 rfl rfl 2 rfl ?_
      refine sm_iload (q := 40) dX12_unpack_38 rfl 3 rfl ?_
      refine sm_iadd (q := 41) dX12_unpack_40 rfl ?_
      obtain ⟨hc3, h⟩ := sm_gd_e h
      refine sm_iald (n := (sm_kd a1).2) (q := 42) dX12_unpack_41 rfl (Prod.ext hc3.1 rfl) hc3.2 ?_
      obtain ⟨hc4, h⟩ := sm_gd_e h
      obtain ⟨I5, hI5, h⟩ := sm_lt_e h
      refine sm_iast (n := (sm_kd (R a0 25)).2) (q := 43) dX12_unpack_42 rfl (Prod.ext hc4.1 rfl) hc4.2 ?_
      refine sm_memI hI5 ?_
      refine sm_aload_n (q := 44) dX12_unpack_43 rfl rfl 0 rfl ?_
      refine sm_getR (r := R a0 26) (q := 47) dX12_unpack_44 rfl fk_X12_79 hc2 (by decide) (by decide) rfl ?_
      refine sm_iload (q := 49) dX12_unpack_47 rfl 3 rfl ?_
      refine sm_aload_n (q := 50) dX12_unpack_49 rfl rfl 1 rfl ?_
      refine sm_iload_n (q := 51) dX12_unpack_50 rfl rfl 2 rfl ?_
      refine sm_bipush (v := 7) (q := 53) dX12_unpack_51 rfl (by decide) ?_
      refine sm_iadd (q := 54) dX12_unpack_53 rfl ?_
      refine sm_iload (q := 56) dX12_unpack_54 rfl 3 rfl ?_
      refine sm_iadd (q := 57) dX12_unpack_56 rfl ?_
      obtain ⟨hc6, h⟩ := sm_gd_e h
      refine sm_iald (n := (sm_kd a1).2) (q := 58) dX12_unpack_57 rfl (Prod.ext hc6.1 rfl) hc6.2 ?_
      obtain ⟨hc7, h⟩ := sm_gd_e h
      obtain ⟨I8, hI8, h⟩ := sm_lt_e h
      refine sm_iast (n := (sm_kd (R a0 26)).2) (q := 59) dX12_unpack_58 rfl (Prod.ext hc7.1 rfl) hc7.2 ?_
      refine sm_memI hI8 ?_
      refine sm_aload_n (q := 60) dX12_unpack_59 rfl rfl 0 rfl ?_
      refine sm_getR (r := R a0 27) (q := 63) dX12_unpack_60 rfl fk_X12_82 hc2 (by decide) (by decide) rfl ?_
      refine sm_iload (q := 65) dX12_unpack_63 rfl 3 rfl ?_
      refine sm_aload_n (q := 66) dX12_unpack_65 rfl rfl 1 rfl ?_
      refine sm_iload_n (q := 67) dX12_unpack_66 rfl rfl 2 rfl ?_
      refine sm_bipush (v := 14) (q := 69) dX12_unpack_67 rfl (by decide) ?_
      refine sm_iadd (q := 70) dX12_unpack_69 rfl ?_
      refine sm_iload (q := 72) dX12_unpack_70 rfl 3 rfl ?_
      refine sm_iadd (q := 73) dX12_unpack_72 rfl ?_
      obtain ⟨hc9, h⟩ := sm_gd_e h
      refine sm_iald (n := (sm_kd a1).2) (q := 74) dX12_unpack_73 rfl (Prod.ext hc9.1 rfl) hc9.2 ?_
      obtain ⟨hc10, h⟩ := sm_gd_e h
      obtain ⟨I11, hI11, h⟩ := sm_lt_e h
      refine sm_iast (n := (sm_kd (R a0 27)).2) (q := 75) dX12_unpack_74 rfl (Prod.ext hc10.1 rfl) hc10.2 ?_
      refine sm_memI hI11 ?_
      refine sm_aload_n (q := 76) dX12_unpack_75 rfl rfl 0 rfl ?_
      refine sm_getR (r := R a0 28) (q := 79) dX12_unpack_76 rfl fk_X12_85 hc2 (by decide) (by decide) rfl ?_
      refine sm_iload (q := 81) dX12_unpack_79 rfl 3 rfl ?_
      refine sm_aload_n (q := 82) dX12_unpack_81 rfl rfl 1 rfl ?_
      refine sm_iload_n (q := 83) dX12_unpack_82 rfl rfl 2 rfl ?_
      refine sm_bipush (v := 21) (q := 85) dX12_unpack_83 rfl (by decide) ?_
      refine sm_iadd (q := 86) dX12_unpack_85 rfl ?_
      refine sm_iload (q := 88) dX12_unpack_86 rfl 3 rfl ?_
      refine sm_iadd (q := 89) dX12_unpack_88 rfl ?_
      obtain ⟨hc12, h⟩ := sm_gd_e h
      refine sm_iald (n := (sm_kd a1).2) (q := 90) dX12_unpack_89 rfl (Prod.ext hc12.1 rfl) hc12.2 ?_
      obtain ⟨hc13, h⟩ := sm_gd_e h
      obtain ⟨I14, hI14, h⟩ := sm_lt_e h
      refine sm_iast (n := (sm_kd (R a0 28)).2) (q := 91) dX12_unpack_90 rfl (Prod.ext hc13.1 rfl) hc13.2 ?_
      refine sm_memI hI14 ?_
      refine sm_aload_n (q := 92) dX12_unpack_91 rfl rfl 0 rfl ?_
      refine sm_getR (r := R a0 29) (q := 95) dX12_unpack_92 rfl fk_X12_87 hc2 (by decide) (by decide) rfl ?_
      refine sm_iload (q := 97) dX12_unpack_95 rfl 3 rfl ?_
      refine sm_aload_n (q := 98) dX12_unpack_97 rfl rfl 1 rfl ?_
      refine sm_iload_n (q := 99) dX12_unpack_98 rfl rfl 2 rfl ?_
      refine sm_bipush (v := 28) (q := 101) dX12_unpack_99 rfl (by decide) ?_
      refine sm_iadd (q := 102) dX12_unpack_101 rfl ?_
      refine sm_iload (q := 104) dX12_unpack_102 rfl 3 rfl ?_
      refine sm_iadd (q := 105) dX12_unpack_104 rfl ?_
      obtain ⟨hc15, h⟩ := sm_gd_e h
      refine sm_iald (n := (sm_kd a1).2) (q := 106) dX12_unpack_105 rfl (Prod.ext hc15.1 rfl) hc15.2 ?_
      obtain ⟨hc16, h⟩ := sm_gd_e h
      obtain ⟨I17, hI17, h⟩ := sm_lt_e h
      refine sm_iast (n := (sm_kd (R a0 29)).2) (q := 107) dX12_unpack_106 rfl (Prod.ext hc16.1 rfl) hc16.2 ?_
      refine sm_memI hI17 ?_
      refine sm_iinc (v := (a4 + 1)) (L' := [(4, .inl (a4 + 1)), (0, .inr (.inl a0)), (1, .inr (.inl a1)), (3, .inl a3)]) (q := 110) dX12_unpack_107 rfl 3 rfl rfl (by decide) rfl ?_
      refine sm_goto (q := 23) dX12_unpack_110 (by decide) ?_
      refine sm_pick [1, 2, 3, 0] rfl ?_
      exact ih _ _ _ _ _ _ h
set_option maxHeartbeats 4000000 in
set_option maxRecDepth 100000 in
theorem w_X12_unpack {l : Launch} (N : Nat) (R : Nat → Nat → Nat) : ∀ (a0 : Nat) (a1 : Nat) (a2 : Int32) (I : (Nat → Nat → Int32)) (y : (Unit × (Nat → Nat → Int32))), f_X12_unpack N R a0 a1 a2 I = some y → sm_W l 0 mX12_unpack 0 [(0, .inr (.inl a0)), (1, .inr (.inl a1)), (2, .inl a2)] [] (I, R) (.inl none) (y.2, R) := by
  intro a0 a1 a2 I y h
  unfold f_X12_unpack at h
  refine sm_aload_n (q := 1) dX12_unpack_0 rfl rfl 0 rfl ?_
  refine sm_aload_n (q := 2) dX12_unpack_1 rfl rfl 1 rfl ?_
  refine sm_iload_n (q := 3) dX12_unpack_2 rfl rfl 2 rfl ?_
  obtain ⟨hc1, h⟩ := sm_gd_e h
  refine sm_iald (n := (sm_kd a1).2) (q := 4) dX12_unpack_3 rfl (Prod.ext hc1.1 rfl) hc1.2 ?_
  obtain ⟨hc2, h⟩ := sm_gd_e h
  obtain ⟨I3, hI3, h⟩ := sm_lt_e h
  refine sm_putI (q := 7) dX12_unpack_4 rfl fk_X12_296 hc2 (by decide) (by decide) ?_
  refine sm_memI hI3 ?_
  refine sm_aload_n (q := 8) dX12_unpack_7 rfl rfl 0 rfl ?_
  refine sm_aload_n (q := 9) dX12_unpack_8 rfl rfl 1 rfl ?_
  refine sm_iload_n (q := 10) dX12_unpack_9 rfl rfl 2 rfl ?_
  refine sm_iconst (v := 1) (q := 11) dX12_unpack_10 rfl (by decide) ?_
  refine sm_iadd (q := 12) dX12_unpack_11 rfl ?_
  obtain ⟨hc4, h⟩ := sm_gd_e h
  refine sm_iald (n := (sm_kd a1).2) (q := 13) dX12_unpack_12 rfl (Prod.ext hc4.1 rfl) hc4.2 ?_
  obtain ⟨I5, hI5, h⟩ := sm_lt_e h
  refine sm_putI (q := 16) dX12_unpack_13 rfl fk_X12_149 hc2 (by decide) (by decide) ?_
  refine sm_memI hI5 ?_
  refine sm_iload_n (q := 17) dX12_unpack_16 rfl rfl 2 rfl ?_
  refine sm_iconst (v := 2) (q := 18) dX12_unpack_17 rfl (by decide) ?_
  refine sm_iadd (q := 19) dX12_unpack_18 rfl ?_
  refine sm_istore_n (L' := [(3, .inl (a2 + (2 : Int32))), (0, .inr (.inl a0)), (1, .inr (.inl a1)), (2, .inl a2)]) (q := 20) dX12_unpack_19 rfl rfl (by decide) rfl ?_
  refine sm_iconst (v := 0) (q := 21) dX12_unpack_20 rfl (by decide) ?_
  refine sm_istore (L' := [(4, .inl (0 : Int32)), (3, .inl (a2 + (2 : Int32))), (0, .inr (.inl a0)), (1, .inr (.inl a1)), (2, .inl a2)]) (q := 23) dX12_unpack_21 rfl (by decide) rfl ?_
  refine sm_pick [2, 3, 1, 0] rfl ?_
  exact w_X12_unpack_23 N R N _ _ _ _ _ _ h
theorem e_X12_unpack {l : Launch} {N : Nat} {R : Nat → Nat → Nat} {a0 : Nat} {a1 : Nat} {a2 : Int32} {I : (Nat → Nat → Int32)} {y : (Unit × (Nat → Nat → Int32))} (h : f_X12_unpack N R a0 a1 a2 I = some y) : sm_E l 0 mX12_unpack [.inr (.inl a0), .inr (.inl a1), .inl a2] (I, R) (.inl none) (y.2, R) :=
  sm_meth (by decide) (Nat.le_of_ble_eq_true rfl) (w_X12_unpack N R a0 a1 a2 I y h)
def f_X12_reckon (N : Nat) (R : Nat → Nat → Nat) : Int32 → Int32 → Int32 → (Nat → Nat → Int32) → Option (Int32 × (Nat → Nat → Int32)) := fun a0 a1 a2 I =>
  if a0 = (-26) then (
    if a1 = 0 then (
      some ((0 : Int32), I))
    else (
      if a2 = 0 then (
        some ((0 : Int32), I))
      else (
        some ((1 : Int32), I))))
  else (
    if a0 = (-25) then (
      if a1 = a2 then (
        some ((1 : Int32), I))
      else (
        some ((0 : Int32), I)))
    else (
      if a0 = (-24) then (
        if a2 ≤ a1 then (
          some ((0 : Int32), I))
        else (
          some ((1 : Int32), I)))
      else (
        if a0 = (-23) then (
          if a2 = 0 then (
            some ((0 : Int32), I))
          else (
            sm_gd (¬ a2 = 0) <|
            some ((a1 / a2), I)))
        else (
          if a0 = (-22) then (
            some ((a1 * a2), I))
          else (
            if a0 = (-21) then (
              some ((a1 - a2), I))
            else (
              if a0 = (-20) then (
                some ((a1 + a2), I))
              else (
                if a1 = 0 then (
                  if a2 = 0 then (
                    some ((0 : Int32), I))
                  else (
                    some ((1 : Int32), I)))
                else (
                  some ((1 : Int32), I)))))))))
set_option maxHeartbeats 4000000 in
set_option maxRecDepth 100000 in
theorem w_X12_reckon {l : Launch} (N : Nat) (R : Nat → Nat → Nat) : ∀ (a0 : Int32) (a1 : Int32) (a2 : Int32) (I : (Nat → Nat → Int32)) (y : (Int32 × (Nat → Nat → Int32))), f_X12_reckon N R a0 a1 a2 I = some y → sm_W l 0 mX12_reckon 0 [(0, .inl a0), (1, .inl a1), (2, .inl a2)] [] (I, R) (.inl (some (.inl y.1))) (y.2, R) := by
  intro a0 a1 a2 I y h
  unfold f_X12_reckon at h
  refine sm_iload_n (q := 1) dX12_reckon_0 rfl rfl 0 rfl ?_
  rcases sm_if_e h with ⟨hb1, h⟩ | ⟨hb1, h⟩
  · refine sm_tableIn (q := 90) (off := 89) dX12_reckon_1 (by rw [hb1]; decide) (by rw [hb1]; decide) (by rw [hb1]; decide) (by decide) ?_
    refine sm_iload_n (q := 91) dX12_reckon_90 rfl rfl 1 rfl ?_
    rcases sm_if_e h with ⟨hb2, h⟩ | ⟨hb2, h⟩
    · refine sm_if_eq (tgt := 102) (q := 94) dX12_reckon_91 (by decide) rfl (fun _ => ?_) (fun hn => absurd hb2 hn)
      refine sm_iconst (v := 0) (q := 103) dX12_reckon_102 rfl (by decide) ?_
      obtain rfl := Option.some.inj h
      exact sm_iret dX12_reckon_103 rfl
    · refine sm_if_eq (tgt := 102) (q := 94) dX12_reckon_91 (by decide) rfl (fun ht => absurd ht hb2) (fun _ => ?_)
      refine sm_iload_n (q := 95) dX12_reckon_94 rfl rfl 2 rfl ?_
      rcases sm_if_e h with ⟨hb3, h⟩ | ⟨hb3, h⟩
      · refine sm_if_eq (tgt := 102) (q := 98) dX12_reckon_95 (by decide) rfl (fun _ => ?_) (fun hn => absurd hb3 hn)
        refine sm_iconst (v := 0) (q := 103) dX12_reckon_102 rfl (by decide) ?_
        obtain rfl := Option.some.inj h
        exact sm_iret dX12_reckon_103 rfl
      · refine sm_if_eq (tgt := 102) (q := 98) dX12_reckon_95 (by decide) rfl (fun ht => absurd ht hb3) (fun _ => ?_)
        refine sm_iconst (v := 1) (q := 99) dX12_reckon_98 rfl (by decide) ?_
        refine sm_goto (q := 103) dX12_reckon_99 (by decide) ?_
        obtain rfl := Option.some.inj h
        exact sm_iret dX12_reckon_103 rfl
  · rcases sm_if_e h with ⟨hb4, h⟩ | ⟨hb4, h⟩
    · refine sm_tableIn (q := 79) (off := 78) dX12_reckon_1 (by rw [hb4]; decide) (by rw [hb4]; decide) (by rw [hb4]; decide) (by decide) ?_
      refine sm_iload_n (q := 80) dX12_reckon_79 rfl rfl 1 rfl ?_
      refine sm_iload_n (q := 81) dX12_reckon_80 rfl rfl 2 rfl ?_
      rcases sm_if_e h with ⟨hb5, h⟩ | ⟨hb5, h⟩
      · refine sm_icmp_ne (tgt := 88) (q := 84) dX12_reckon_81 (by decide) rfl (fun hn => absurd hb5 hn) (fun _ => ?_)
        refine sm_iconst (v := 1) (q := 85) dX12_reckon_84 rfl (by decide) ?_
        refine sm_goto (q := 89) dX12_reckon_85 (by decide) ?_
        obtain rfl := Option.some.inj h
        exact sm_iret dX12_reckon_89 rfl
      · refine sm_icmp_ne (tgt := 88) (q := 84) dX12_reckon_81 (by decide) rfl (fun _ => ?_) (fun he => absurd he hb5)
        refine sm_iconst (v := 0) (q := 89) dX12_reckon_88 rfl (by decide) ?_
        obtain rfl := Option.some.inj h
        exact sm_iret dX12_reckon_89 rfl
    · rcases sm_if_e h with ⟨hb6, h⟩ | ⟨hb6, h⟩
      · refine sm_tableIn (q := 68) (off := 67) dX12_reckon_1 (by rw [hb6]; decide) (by rw [hb6]; decide) (by rw [hb6]; decide) (by decide) ?_
        refine sm_iload_n (q := 69) dX12_reckon_68 rfl rfl 1 rfl ?_
        refine sm_iload_n (q := 70) dX12_reckon_69 rfl rfl 2 rfl ?_
        rcases sm_if_e h with ⟨hb7, h⟩ | ⟨hb7, h⟩
        · refine sm_icmp_ge (tgt := 77) (q := 73) dX12_reckon_70 (by decide) rfl (fun _ => ?_) (fun hn => absurd hb7 hn)
          refine sm_iconst (v := 0) (q := 78) dX12_reckon_77 rfl (by decide) ?_
          obtain rfl := Option.some.inj h
          exact sm_iret dX12_reckon_78 rfl
        · refine sm_icmp_ge (tgt := 77) (q := 73) dX12_reckon_70 (by decide) rfl (fun ht => absurd ht hb7) (fun _ => ?_)
          refine sm_iconst (v := 1) (q := 74) dX12_reckon_73 rfl (by decide) ?_
          refine sm_goto (q := 78) dX12_reckon_74 (by decide) ?_
          obtain rfl := Option.some.inj h
          exact sm_iret dX12_reckon_78 rfl
      · rcases sm_if_e h with ⟨hb8, h⟩ | ⟨hb8, h⟩
        · refine sm_tableIn (q := 56) (off := 55) dX12_reckon_1 (by rw [hb8]; decide) (by rw [hb8]; decide) (by rw [hb8]; decide) (by decide) ?_
          refine sm_iload_n (q := 57) dX12_reckon_56 rfl rfl 2 rfl ?_
          rcases sm_if_e h with ⟨hb9, h⟩ | ⟨hb9, h⟩
          · refine sm_if_ne (tgt := 64) (q := 60) dX12_reckon_57 (by decide) rfl (fun hn => absurd hb9 hn) (fun _ => ?_)
            refine sm_iconst (v := 0) (q := 61) dX12_reckon_60 rfl (by decide) ?_
            refine sm_goto (q := 67) dX12_reckon_61 (by decide) ?_
            obtain rfl := Option.some.inj h
            exact sm_iret dX12_reckon_67 rfl
          · refine sm_if_ne (tgt := 64) (q := 60) dX12_reckon_57 (by decide) rfl (fun _ => ?_) (fun he => absurd he hb9)
            refine sm_iload_n (q := 65) dX12_reckon_64 rfl rfl 1 rfl ?_
            refine sm_iload_n (q := 66) dX12_reckon_65 rfl rfl 2 rfl ?_
            obtain ⟨hc10, h⟩ := sm_gd_e h
            refine sm_idiv (q := 67) dX12_reckon_66 rfl hc10 ?_
            obtain rfl := Option.some.inj h
            exact sm_iret dX12_reckon_67 rfl
        · rcases sm_if_e h with ⟨hb11, h⟩ | ⟨hb11, h⟩
          · refine sm_tableIn (q := 52) (off := 51) dX12_reckon_1 (by rw [hb11]; decide) (by rw [hb11]; decide) (by rw [hb11]; decide) (by decide) ?_
            refine sm_iload_n (q := 53) dX12_reckon_52 rfl rfl 1 rfl ?_
            refine sm_iload_n (q := 54) dX12_reckon_53 rfl rfl 2 rfl ?_
            refine sm_imul (q := 55) dX12_reckon_54 rfl ?_
            obtain rfl := Option.some.inj h
            exact sm_iret dX12_reckon_55 rfl
          · rcases sm_if_e h with ⟨hb12, h⟩ | ⟨hb12, h⟩
            · refine sm_tableIn (q := 48) (off := 47) dX12_reckon_1 (by rw [hb12]; decide) (by rw [hb12]; decide) (by rw [hb12]; decide) (by decide) ?_
              refine sm_iload_n (q := 49) dX12_reckon_48 rfl rfl 1 rfl ?_
              refine sm_iload_n (q := 50) dX12_reckon_49 rfl rfl 2 rfl ?_
              refine sm_isub (q := 51) dX12_reckon_50 rfl ?_
              obtain rfl := Option.some.inj h
              exact sm_iret dX12_reckon_51 rfl
            · rcases sm_if_e h with ⟨hb13, h⟩ | ⟨hb13, h⟩
              · refine sm_tableIn (q := 44) (off := 43) dX12_reckon_1 (by rw [hb13]; decide) (by rw [hb13]; decide) (by rw [hb13]; decide) (by decide) ?_
                refine sm_iload_n (q := 45) dX12_reckon_44 rfl rfl 1 rfl ?_
                refine sm_iload_n (q := 46) dX12_reckon_45 rfl rfl 2 rfl ?_
                refine sm_iadd (q := 47) dX12_reckon_46 rfl ?_
                obtain rfl := Option.some.inj h
                exact sm_iret dX12_reckon_47 rfl
              · refine sm_tableOut (q := 104) dX12_reckon_1 (sm_sw (fun v h1 h2 he => (fun e => e.elim (fun e => hb1 (he.trans ((congrArg Int32.ofInt e).trans (by decide)))) (fun e => e.elim (fun e => hb4 (he.trans ((congrArg Int32.ofInt e).trans (by decide)))) (fun e => e.elim (fun e => hb6 (he.trans ((congrArg Int32.ofInt e).trans (by decide)))) (fun e => e.elim (fun e => hb8 (he.trans ((congrArg Int32.ofInt e).trans (by decide)))) (fun e => e.elim (fun e => hb11 (he.trans ((congrArg Int32.ofInt e).trans (by decide)))) (fun e => e.elim (fun e => hb12 (he.trans ((congrArg Int32.ofInt e).trans (by decide)))) (fun e => hb13 (he.trans ((congrArg Int32.ofInt e).trans (by decide)))))))))) (show v = -26 ∨ v = -25 ∨ v = -24 ∨ v = -23 ∨ v = -22 ∨ v = -21 ∨ v = -20 by omega))) (by decide) ?_
                refine sm_iload_n (q := 105) dX12_reckon_104 rfl rfl 1 rfl ?_
                rcases sm_if_e h with ⟨hb14, h⟩ | ⟨hb14, h⟩
                · refine sm_if_ne (tgt := 112) (q := 108) dX12_reckon_105 (by decide) rfl (fun hn => absurd hb14 hn) (fun _ => ?_)
                  refine sm_iload_n (q := 109) dX12_reckon_108 rfl rfl 2 rfl ?_
                  rcases sm_if_e h with ⟨hb15, h⟩ | ⟨hb15, h⟩
                  · refine sm_if_eq (tgt := 116) (q := 112) dX12_reckon_109 (by decide) rfl (fun _ => ?_) (fun hn => absurd hb15 hn)
                    refine sm_iconst (v := 0) (q := 117) dX12_reckon_116 rfl (by decide) ?_
                    obtain rfl := Option.some.inj h
                    exact sm_iret dX12_reckon_117 rfl
                  · refine sm_if_eq (tgt := 116) (q := 112) dX12_reckon_109 (by decide) rfl (fun ht => absurd ht hb15) (fun _ => ?_)
                    refine sm_iconst (v := 1) (q := 113) dX12_reckon_112 rfl (by decide) ?_
                    refine sm_goto (q := 117) dX12_reckon_113 (by decide) ?_
                    obtain rfl := Option.some.inj h
                    exact sm_iret dX12_reckon_117 rfl
                · refine sm_if_ne (tgt := 112) (q := 108) dX12_reckon_105 (by decide) rfl (fun _ => ?_) (fun he => absurd he hb14)
                  refine sm_iconst (v := 1) (q := 113) dX12_reckon_112 rfl (by decide) ?_
                  refine sm_goto (q := 117) dX12_reckon_113 (by decide) ?_
                  obtain rfl := Option.some.inj h
                  exact sm_iret dX12_reckon_117 rfl
theorem e_X12_reckon {l : Launch} {N : Nat} {R : Nat → Nat → Nat} {a0 : Int32} {a1 : Int32} {a2 : Int32} {I : (Nat → Nat → Int32)} {y : (Int32 × (Nat → Nat → Int32))} (h : f_X12_reckon N R a0 a1 a2 I = some y) : sm_E l 0 mX12_reckon [.inl a0, .inl a1, .inl a2] (I, R) (.inl (some (.inl y.1))) (y.2, R) :=
  sm_meth (by decide) (Nat.le_of_ble_eq_true rfl) (w_X12_reckon N R a0 a1 a2 I y h)
def f_X12_valueNow_4 (N : Nat) (R : Nat → Nat → Nat) : Nat → Nat → Int32 → Int32 → (Nat → Nat → Int32) → Option (Int32 × (Nat → Nat → Int32))
  | 0, _, _, _, _ => none
  | n + 1, a0, a1, a2, I =>
    sm_gd (sm_kd a0 = (12, 59)) <|
    sm_gd ((sm_kd (R a0 4)).1 = 13 ∧ ¬ ((3 : Int32) < 0 ∨ (sm_kd (R a0 4)).2 ≤ ((3 : Int32)).toNatClampNeg)) <|
    if (I (R a0 4) ((3 : Int32)).toNatClampNeg) ≤ a2 then (
      sm_gd ((sm_kd (R a0 36)).1 = 13 ∧ ¬ ((0 : Int32) < 0 ∨ (sm_kd (R a0 36)).2 ≤ ((0 : Int32)).toNatClampNeg)) <|
      some ((I (R a0 36) ((0 : Int32)).toNatClampNeg), I))
    else (
      sm_gd ((sm_kd (R a0 12)).1 = 13 ∧ ¬ (a2 < 0 ∨ (sm_kd (R a0 12)).2 ≤ (a2).toNatClampNeg)) <|
      if (I (R a0 12) (a2).toNatClampNeg) ≤ (-20 : Int32) then (
        if (I (R a0 12) (a2).toNatClampNeg) = (-28 : Int32) then (
          sm_gd ((sm_kd (R a0 36)).1 = 13 ∧ ¬ ((a1 - (1 : Int32)) < 0 ∨ (sm_kd (R a0 36)).2 ≤ ((a1 - (1 : Int32))).toNatClampNeg)) <|
          if (I (R a0 36) ((a1 - (1 : Int32))).toNatClampNeg) = 0 then (
            sm_lt (sm_up I (R a0 36) (sm_up (I (R a0 36)) ((a1 - (1 : Int32))).toNatClampNeg (1 : Int32))) fun I10 =>
            f_X12_valueNow_4 N R n a0 a1 (a2 + 1) I10)
          else (
            sm_lt (sm_up I (R a0 36) (sm_up (I (R a0 36)) ((a1 - (1 : Int32))).toNatClampNeg (0 : Int32))) fun I11 =>
            f_X12_valueNow_4 N R n a0 a1 (a2 + 1) I11))
        else (
          sm_gd ((sm_kd (R a0 36)).1 = 13 ∧ ¬ (((a1 + (-1)) - (1 : Int32)) < 0 ∨ (sm_kd (R a0 36)).2 ≤ (((a1 + (-1)) - (1 : Int32))).toNatClampNeg)) <|
          sm_gd ((sm_kd (R a0 36)).1 = 13 ∧ ¬ ((a1 + (-1)) < 0 ∨ (sm_kd (R a0 36)).2 ≤ ((a1 + (-1))).toNatClampNeg)) <|
          (f_X12_reckon N R (I (R a0 12) (a2).toNatClampNeg) (I (R a0 36) (((a1 + (-1)) - (1 : Int32))).toNatClampNeg) (I (R a0 36) ((a1 + (-1))).toNatClampNeg) I).bind fun p14 =>
          sm_lt (sm_up p14.2 (R a0 36) (sm_up (p14.2 (R a0 36)) (((a1 + (-1)) - (1 : Int32))).toNatClampNeg p14.1)) fun I15 =>
          f_X12_valueNow_4 N R n a0 (a1 + (-1)) (a2 + 1) I15))
      else (
        if (I (R a0 12) (a2).toNatClampNeg) < 0 then (
          sm_gd ((sm_kd (R a0 35)).1 = 13 ∧ ¬ (((-1 : Int32) - (I (R a0 12) (a2).toNatClampNeg)) < 0 ∨ (sm_kd (R a0 35)).2 ≤ (((-1 : Int32) - (I (R a0 12) (a2).toNatClampNeg))).toNatClampNeg)) <|
          sm_gd ((sm_kd (R a0 36)).1 = 13 ∧ ¬ (a1 < 0 ∨ (sm_kd (R a0 36)).2 ≤ (a1).toNatClampNeg)) <|
          sm_lt (sm_up I (R a0 36) (sm_up (I (R a0 36)) (a1).toNatClampNeg (I (R a0 35) (((-1 : Int32) - (I (R a0 12) (a2).toNatClampNeg))).toNatClampNeg))) fun I19 =>
          f_X12_valueNow_4 N R n a0 (a1 + 1) (a2 + 1) I19)
        else (
          sm_gd ((sm_kd (R a0 36)).1 = 13 ∧ ¬ (a1 < 0 ∨ (sm_kd (R a0 36)).2 ≤ (a1).toNatClampNeg)) <|
          sm_lt (sm_up I (R a0 36) (sm_up (I (R a0 36)) (a1).toNatClampNeg (I (R a0 12) (a2).toNatClampNeg))) fun I21 =>
          f_X12_valueNow_4 N R n a0 (a1 + 1) (a2 + 1) I21)))
def f_X12_valueNow (N : Nat) (R : Nat → Nat → Nat) : Nat → (Nat → Nat → Int32) → Option (Int32 × (Nat → Nat → Int32)) := fun a0 I =>
  f_X12_valueNow_4 N R N a0 (0 : Int32) (0 : Int32) I
set_option maxHeartbeats 4000000 in
set_option maxRecDepth 100000 in
theorem w_X12_valueNow_4 {l : Launch} (N : Nat) (R : Nat → Nat → Nat) : ∀ (n : Nat) (a0 : Nat) (a1 : Int32) (a2 : Int32) (I : (Nat → Nat → Int32)) (y : (Int32 × (Nat → Nat → Int32))), f_X12_valueNow_4 N R n a0 a1 a2 I = some y → sm_W l 1 mX12_valueNow 4 [(0, .inr (.inl a0)), (1, .inl a1), (2, .inl a2)] [] (I, R) (.inl (some (.inl y.1))) (y.2, R) := by
  intro n
  induction n with
  | zero => intro a0 a1 a2 I y h; cases h
  | succ n ih =>
    intro a0 a1 a2 I y h
    rw [f_X12_valueNow_4] at h
    refine sm_iload_n (q := 5) dX12_valueNow_4 rfl rfl 2 rfl ?_
    refine sm_aload_n (q := 6) dX12_valueNow_5 rfl rfl 0 rfl ?_
    obtain ⟨hc1, h⟩ := sm_gd_e h
    refine sm_getR (r := R a0 4) (q := 9) dX12_valueNow_6 rfl fk_X12_41 hc1 (by decide) (by decide) rfl ?_
    refine sm_iconst (v := 3) (q := 10) dX12_valueNow_9 rfl (by decide) ?_
    obtain ⟨hc2, h⟩ := sm_gd_e h
    refine sm_iald (n := (sm_kd (R a0 4)).2) (q := 11) dX12_valueNow_10 rfl (Prod.ext hc2.1 rfl) hc2.2 ?_
    rcases sm_if_e h with ⟨hb3, h⟩ | ⟨hb3, h⟩
    · refine sm_icmp_ge (tgt := 123) (q := 14) dX12_valueNow_11 (by decide) rfl (fun _ => ?_) (fun hn => absurd hb3 hn)
      refine sm_aload_n (q := 124) dX12_valueNow_123 rfl rfl 0 rfl ?_
      refine sm_getR (r := R a0 36) (q := 127) dX12_valueNow_124 rfl fk_X12_95 hc1 (by decide) (by decide) rfl ?_
      refine sm_iconst (v := 0) (q := 128) dX12_valueNow_127 rfl (by decide) ?_
      obtain ⟨hc4, h⟩ := sm_gd_e h
      refine sm_iald (n := (sm_kd (R a0 36)).2) (q := 129) dX12_valueNow_128 rfl (Prod.ext hc4.1 rfl) hc4.2 ?_
      obtain rfl := Option.some.inj h
      exact sm_iret dX12_valueNow_129 rfl
    · refine sm_icmp_ge (tgt := 123) (q := 14) dX12_valueNow_11 (by decide) rfl (fun ht => absurd ht hb3) (fun _ => ?_)
      refine sm_aload_n (q := 15) dX12_valueNow_14 rfl rfl 0 rfl ?_
      refine sm_getR (r := R a0 12) (q := 18) dX12_valueNow_15 rfl fk_X12_63 hc1 (by decide) (by decide) rfl ?_
      refine sm_iload_n (q := 19) dX12_valueNow_18 rfl rfl 2 rfl ?_
      obtain ⟨hc5, h⟩ := sm_gd_e h
      refine sm_iald (n := (sm_kd (R a0 12)).2) (q := 20) dX12_valueNow_19 rfl (Prod.ext hc5.1 rfl) hc5.2 ?_
      refine sm_istore_n (L' := [(3, .inl (I (R a0 12) (a2).toNatClampNeg)), (0, .inr (.inl a0)), (1, .inl a1), (2, .inl a2)]) (q := 21) dX12_valueNow_20 rfl rfl (by decide) rfl ?_
      refine sm_iload_n (q := 22) dX12_valueNow_21 rfl rfl 0 rfl ?_
      refine sm_bipush (v := -20) (q := 24) dX12_valueNow_22 rfl (by decide) ?_
      rcases sm_if_e h with ⟨hb6, h⟩ | ⟨hb6, h⟩
      · refine sm_icmp_le (tgt := 55) (q := 27) dX12_valueNow_24 (by decide) rfl (fun _ => ?_) (fun hn => absurd hb6 hn)
        refine sm_iload_n (q := 56) dX12_valueNow_55 rfl rfl 0 rfl ?_
        refine sm_bipush (v := -28) (q := 58) dX12_valueNow_56 rfl (by decide) ?_
        rcases sm_if_e h with ⟨hb7, h⟩ | ⟨hb7, h⟩
        · refine sm_icmp_ne (tgt := 88) (q := 61) dX12_valueNow_58 (by decide) rfl (fun hn => absurd hb7 hn) (fun _ => ?_)
          refine sm_aload_n (q := 62) dX12_valueNow_61 rfl rfl 1 rfl ?_
          refine sm_getR (r := R a0 36) (q := 65) dX12_valueNow_62 rfl fk_X12_95 hc1 (by decide) (by decide) rfl ?_
          refine sm_iload_n (q := 66) dX12_valueNow_65 rfl rfl 2 rfl ?_
          refine sm_iconst (v := 1) (q := 67) dX12_valueNow_66 rfl (by decide) ?_
          refine sm_isub (q := 68) dX12_valueNow_67 rfl ?_
          refine sm_aload_n (q := 69) dX12_valueNow_68 rfl rfl 1 rfl ?_
          refine sm_getR (r := R a0 36) (q := 72) dX12_valueNow_69 rfl fk_X12_95 hc1 (by decide) (by decide) rfl ?_
          refine sm_iload_n (q := 73) dX12_valueNow_72 rfl rfl 2 rfl ?_
          refine sm_iconst (v := 1) (q := 74) dX12_valueNow_73 rfl (by decide) ?_
          refine sm_isub (q := 75) dX12_valueNow_74 rfl ?_
          obtain ⟨hc8, h⟩ := sm_gd_e h
          refine sm_iald (n := (sm_kd (R a0 36)).2) (q := 76) dX12_valueNow_75 rfl (Prod.ext hc8.1 rfl) hc8.2 ?_
          rcases sm_if_e h with ⟨hb9, h⟩ | ⟨hb9, h⟩
          · refine sm_if_eq (tgt := 83) (q := 79) dX12_valueNow_76 (by decide) rfl (fun _ => ?_) (fun hn => absurd hb9 hn)
            refine sm_iconst (v := 1) (q := 84) dX12_valueNow_83 rfl (by decide) ?_
            obtain ⟨I10, hI10, h⟩ := sm_lt_e h
            refine sm_iast (n := (sm_kd (R a0 36)).2) (q := 85) dX12_valueNow_84 rfl (Prod.ext hc8.1 rfl) hc8.2 ?_
            refine sm_memI hI10 ?_
            refine sm_goto (q := 117) dX12_valueNow_85 (by decide) ?_
            refine sm_iinc (v := (a2 + 1)) (L' := [(2, .inl (a2 + 1)), (3, .inl (I (R a0 12) (a2).toNatClampNeg)), (0, .inr (.inl a0)), (1, .inl a1)]) (q := 120) dX12_valueNow_117 rfl 3 rfl rfl (by decide) rfl ?_
            refine sm_goto (q := 4) dX12_valueNow_120 (by decide) ?_
            refine sm_pick [2, 3, 0] rfl ?_
            exact ih _ _ _ _ _ h
          · refine sm_if_eq (tgt := 83) (q := 79) dX12_valueNow_76 (by decide) rfl (fun ht => absurd ht hb9) (fun _ => ?_)
            refine sm_iconst (v := 0) (q := 80) dX12_valueNow_79 rfl (by decide) ?_
            refine sm_goto (q := 84) dX12_valueNow_80 (by decide) ?_
            obtain ⟨I11, hI11, h⟩ := sm_lt_e h
            refine sm_iast (n := (sm_kd (R a0 36)).2) (q := 85) dX12_valueNow_84 rfl (Prod.ext hc8.1 rfl) hc8.2 ?_
            refine sm_memI hI11 ?_
            refine sm_goto (q := 117) dX12_valueNow_85 (by decide) ?_
            refine sm_iinc (v := (a2 + 1)) (L' := [(2, .inl (a2 + 1)), (3, .inl (I (R a0 12) (a2).toNatClampNeg)), (0, .inr (.inl a0)), (1, .inl a1)]) (q := 120) dX12_valueNow_117 rfl 3 rfl rfl (by decide) rfl ?_
            refine sm_goto (q := 4) dX12_valueNow_120 (by decide) ?_
            refine sm_pick [2, 3, 0] rfl ?_
            exact ih _ _ _ _ _ h
        · refine sm_icmp_ne (tgt := 88) (q := 61) dX12_valueNow_58 (by decide) rfl (fun _ => ?_) (fun he => absurd he hb7)
          refine sm_iinc (v := (a1 + (-1))) (L' := [(1, .inl (a1 + (-1))), (3, .inl (I (R a0 12) (a2).toNatClampNeg)), (0, .inr (.inl a0)), (2, .inl a2)]) (q := 91) dX12_valueNow_88 rfl 2 rfl rfl (by decide) rfl ?_
          refine sm_aload_n (q := 92) dX12_valueNow_91 rfl rfl 2 rfl ?_
          refine sm_getR (r := R a0 36) (q := 95) dX12_valueNow_92 rfl fk_X12_95 hc1 (by decide) (by decide) rfl ?_
          refine sm_iload_n (q := 96) dX12_valueNow_95 rfl rfl 0 rfl ?_
          refine sm_iconst (v := 1) (q := 97) dX12_valueNow_96 rfl (by decide) ?_
          refine sm_isub (q := 98) dX12_valueNow_97 rfl ?_
          refine sm_iload_n (q := 99) dX12_valueNow_98 rfl rfl 1 rfl ?_
          refine sm_aload_n (q := 100) dX12_valueNow_99 rfl rfl 2 rfl ?_
          refine sm_getR (r := R a0 36) (q := 103) dX12_valueNow_100 rfl fk_X12_95 hc1 (by decide) (by decide) rfl ?_
          refine sm_iload_n (q := 104) dX12_valueNow_103 rfl rfl 0 rfl ?_
          refine sm_iconst (v := 1) (q := 105) dX12_valueNow_104 rfl (by decide) ?_
          refine sm_isub (q := 106) dX12_valueNow_105 rfl ?_
          obtain ⟨hc12, h⟩ := sm_gd_e h
          refine sm_iald (n := (sm_kd (R a0 36)).2) (q := 107) dX12_valueNow_106 rfl (Prod.ext hc12.1 rfl) hc12.2 ?_
          refine sm_aload_n (q := 108) dX12_valueNow_107 rfl rfl 2 rfl ?_
          refine sm_getR (r := R a0 36) (q := 111) dX12_valueNow_108 rfl fk_X12_95 hc1 (by decide) (by decide) rfl ?_
          refine sm_iload_n (q := 112) dX12_valueNow_111 rfl rfl 0 rfl ?_
          obtain ⟨hc13, h⟩ := sm_gd_e h
          refine sm_iald (n := (sm_kd (R a0 36)).2) (q := 113) dX12_valueNow_112 rfl (Prod.ext hc13.1 rfl) hc13.2 ?_
          obtain ⟨p14, hc_p14, h⟩ := sm_bd_e h
          refine sm_callSi (q := 116) (As := [.inl (I (R a0 12) (a2).toNatClampNeg), .inl (I (R a0 36) (((a1 + (-1)) - (1 : Int32))).toNatClampNeg), .inl (I (R a0 36) ((a1 + (-1))).toNatClampNeg)]) (S := [.inl ((a1 + (-1)) - (1 : Int32)), .inr (.inl (R a0 36))]) (e_X12_reckon hc_p14) ms_X12_309 rfl (by decide) (Nat.le_of_ble_eq_true rfl) dX12_valueNow_113 rfl ?_
          obtain ⟨I15, hI15, h⟩ := sm_lt_e h
          refine sm_iast (n := (sm_kd (R a0 36)).2) (q := 117) dX12_valueNow_116 rfl (Prod.ext hc12.1 rfl) hc12.2 ?_
          refine sm_memI hI15 ?_
          refine sm_iinc (v := (a2 + 1)) (L' := [(2, .inl (a2 + 1)), (1, .inl (a1 + (-1))), (3, .inl (I (R a0 12) (a2).toNatClampNeg)), (0, .inr (.inl a0))]) (q := 120) dX12_valueNow_117 rfl 3 rfl rfl (by decide) rfl ?_
          refine sm_goto (q := 4) dX12_valueNow_120 (by decide) ?_
          refine sm_pick [3, 1, 0] rfl ?_
          exact ih _ _ _ _ _ h
      · refine sm_icmp_le (tgt := 55) (q := 27) dX12_valueNow_24 (by decide) rfl (fun ht => absurd ht hb6) (fun _ => ?_)
        refine sm_aload_n (q := 28) dX12_valueNow_27 rfl rfl 1 rfl ?_
        refine sm_getR (r := R a0 36) (q := 31) dX12_valueNow_28 rfl fk_X12_95 hc1 (by decide) (by decide) rfl ?_
        refine sm_iload_n (q := 32) dX12_valueNow_31 rfl rfl 2 rfl ?_
        refine sm_iload_n (q := 33) dX12_valueNow_32 rfl rfl 0 rfl ?_
        rcases sm_if_e h with ⟨hb16, h⟩ | ⟨hb16, h⟩
        · refine sm_if_lt (tgt := 40) (q := 36) dX12_valueNow_33 (by decide) rfl (fun _ => ?_) (fun hn => absurd hb16 hn)
          refine sm_aload_n (q := 41) dX12_valueNow_40 rfl rfl 1 rfl ?_
          refine sm_getR (r := R a0 35) (q := 44) dX12_valueNow_41 rfl fk_X12_92 hc1 (by decide) (by decide) rfl ?_
          refine sm_iconst (v := -1) (q := 45) dX12_valueNow_44 rfl (by decide) ?_
          refine sm_iload_n (q := 46) dX12_valueNow_45 rfl rfl 0 rfl ?_
          refine sm_isub (q := 47) dX12_valueNow_46 rfl ?_
          obtain ⟨hc17, h⟩ := sm_gd_e h
          refine sm_iald (n := (sm_kd (R a0 35)).2) (q := 48) dX12_valueNow_47 rfl (Prod.ext hc17.1 rfl) hc17.2 ?_
          obtain ⟨hc18, h⟩ := sm_gd_e h
          obtain ⟨I19, hI19, h⟩ := sm_lt_e h
          refine sm_iast (n := (sm_kd (R a0 36)).2) (q := 49) dX12_valueNow_48 rfl (Prod.ext hc18.1 rfl) hc18.2 ?_
          refine sm_memI hI19 ?_
          refine sm_iinc (v := (a1 + 1)) (L' := [(1, .inl (a1 + 1)), (3, .inl (I (R a0 12) (a2).toNatClampNeg)), (0, .inr (.inl a0)), (2, .inl a2)]) (q := 52) dX12_valueNow_49 rfl 2 rfl rfl (by decide) rfl ?_
          refine sm_goto (q := 117) dX12_valueNow_52 (by decide) ?_
          refine sm_iinc (v := (a2 + 1)) (L' := [(2, .inl (a2 + 1)), (1, .inl (a1 + 1)), (3, .inl (I (R a0 12) (a2).toNatClampNeg)), (0, .inr (.inl a0))]) (q := 120) dX12_valueNow_117 rfl 3 rfl rfl (by decide) rfl ?_
          refine sm_goto (q := 4) dX12_valueNow_120 (by decide) ?_
          refine sm_pick [3, 1, 0] rfl ?_
          exact ih _ _ _ _ _ h
        · refine sm_if_lt (tgt := 40) (q := 36) dX12_valueNow_33 (by decide) rfl (fun ht => absurd ht hb16) (fun _ => ?_)
          refine sm_iload_n (q := 37) dX12_valueNow_36 rfl rfl 0 rfl ?_
          refine sm_goto (q := 48) dX12_valueNow_37 (by decide) ?_
          obtain ⟨hc20, h⟩ := sm_gd_e h
          obtain ⟨I21, hI21, h⟩ := sm_lt_e h
          refine sm_iast (n := (sm_kd (R a0 36)).2) (q := 49) dX12_valueNow_48 rfl (Prod.ext hc20.1 rfl) hc20.2 ?_
          refine sm_memI hI21 ?_
          refine sm_iinc (v := (a1 + 1)) (L' := [(1, .inl (a1 + 1)), (3, .inl (I (R a0 12) (a2).toNatClampNeg)), (0, .inr (.inl a0)), (2, .inl a2)]) (q := 52) dX12_valueNow_49 rfl 2 rfl rfl (by decide) rfl ?_
          refine sm_goto (q := 117) dX12_valueNow_52 (by decide) ?_
          refine sm_iinc (v := (a2 + 1)) (L' := [(2, .inl (a2 + 1)), (1, .inl (a1 + 1)), (3, .inl (I (R a0 12) (a2).toNatClampNeg)), (0, .inr (.inl a0))]) (q := 120) dX12_valueNow_117 rfl 3 rfl rfl (by decide) rfl ?_
          refine sm_goto (q := 4) dX12_valueNow_120 (by decide) ?_
          refine sm_pick [3, 1, 0] rfl ?_
          exact ih _ _ _ _ _ h
set_option maxHeartbeats 4000000 in
set_option maxRecDepth 100000 in
theorem w_X12_valueNow {l : Launch} (N : Nat) (R : Nat → Nat → Nat) : ∀ (a0 : Nat) (I : (Nat → Nat → Int32)) (y : (Int32 × (Nat → Nat → Int32))), f_X12_valueNow N R a0 I = some y → sm_W l 1 mX12_valueNow 0 [(0, .inr (.inl a0))] [] (I, R) (.inl (some (.inl y.1))) (y.2, R) := by
  intro a0 I y h
  unfold f_X12_valueNow at h
  refine sm_iconst (v := 0) (q := 1) dX12_valueNow_0 rfl (by decide) ?_
  refine sm_istore_n (L' := [(1, .inl (0 : Int32)), (0, .inr (.inl a0))]) (q := 2) dX12_valueNow_1 rfl rfl (by decide) rfl ?_
  refine sm_iconst (v := 0) (q := 3) dX12_valueNow_2 rfl (by decide) ?_
  refine sm_istore_n (L' := [(2, .inl (0 : Int32)), (1, .inl (0 : Int32)), (0, .inr (.inl a0))]) (q := 4) dX12_valueNow_3 rfl rfl (by decide) rfl ?_
  refine sm_pick [2, 1, 0] rfl ?_
  exact w_X12_valueNow_4 N R N _ _ _ _ _ h
theorem e_X12_valueNow {l : Launch} {N : Nat} {R : Nat → Nat → Nat} {a0 : Nat} {I : (Nat → Nat → Int32)} {y : (Int32 × (Nat → Nat → Int32))} (h : f_X12_valueNow N R a0 I = some y) : sm_E l 1 mX12_valueNow [.inr (.inl a0)] (I, R) (.inl (some (.inl y.1))) (y.2, R) :=
  sm_meth (by decide) (Nat.le_of_ble_eq_true rfl) (w_X12_valueNow N R a0 I y h)
def f_X12_isDone (N : Nat) (R : Nat → Nat → Nat) : Nat → Int32 → (Nat → Nat → Int32) → Option (Int32 × (Nat → Nat → Int32)) := fun a0 a1 I =>
  sm_gd (sm_kd a0 = (12, 59)) <|
  sm_gd ((sm_kd (R a0 28)).1 = 13 ∧ ¬ (a1 < 0 ∨ (sm_kd (R a0 28)).2 ≤ (a1).toNatClampNeg)) <|
  sm_gd ((sm_kd (R a0 27)).1 = 13 ∧ ¬ (a1 < 0 ∨ (sm_kd (R a0 27)).2 ≤ (a1).toNatClampNeg)) <|
  sm_gd ((sm_kd (R a0 6)).1 = 13 ∧ ¬ ((I (R a0 27) (a1).toNatClampNeg) < 0 ∨ (sm_kd (R a0 6)).2 ≤ ((I (R a0 27) (a1).toNatClampNeg)).toNatClampNeg)) <|
  if (I (R a0 28) (a1).toNatClampNeg) = (I (R a0 6) ((I (R a0 27) (a1).toNatClampNeg)).toNatClampNeg) then (
    some ((1 : Int32), I))
  else (
    some ((0 : Int32), I))
set_option maxHeartbeats 4000000 in
set_option maxRecDepth 100000 in
theorem w_X12_isDone {l : Launch} (N : Nat) (R : Nat → Nat → Nat) : ∀ (a0 : Nat) (a1 : Int32) (I : (Nat → Nat → Int32)) (y : (Int32 × (Nat → Nat → Int32))), f_X12_isDone N R a0 a1 I = some y → sm_W l 0 mX12_isDone 0 [(0, .inr (.inl a0)), (1, .inl a1)] [] (I, R) (.inl (some (.inl y.1))) (y.2, R) := by
  intro a0 a1 I y h
  unfold f_X12_isDone at h
  refine sm_aload_n (q := 1) dX12_isDone_0 rfl rfl 0 rfl ?_
  obtain ⟨hc1, h⟩ := sm_gd_e h
  refine sm_getR (r := R a0 28) (q := 4) dX12_isDone_1 rfl fk_X12_85 hc1 (by decide) (by decide) rfl ?_
  refine sm_iload_n (q := 5) dX12_isDone_4 rfl rfl 1 rfl ?_
  obtain ⟨hc2, h⟩ := sm_gd_e h
  refine sm_iald (n := (sm_kd (R a0 28)).2) (q := 6) dX12_isDone_5 rfl (Prod.ext hc2.1 rfl) hc2.2 ?_
  refine sm_aload_n (q := 7) dX12_isDone_6 rfl rfl 0 rfl ?_
  refine sm_getR (r := R a0 6) (q := 10) dX12_isDone_7 rfl fk_X12_47 hc1 (by decide) (by decide) rfl ?_
  refine sm_aload_n (q := 11) dX12_isDone_10 rfl rfl 0 rfl ?_
  refine sm_getR (r := R a0 27) (q := 14) dX12_isDone_11 rfl fk_X12_82 hc1 (by decide) (by decide) rfl ?_
  refine sm_iload_n (q := 15) dX12_isDone_14 rfl rfl 1 rfl ?_
  obtain ⟨hc3, h⟩ := sm_gd_e h
  refine sm_iald (n := (sm_kd (R a0 27)).2) (q := 16) dX12_isDone_15 rfl (Prod.ext hc3.1 rfl) hc3.2 ?_
  obtain ⟨hc4, h⟩ := sm_gd_e h
  refine sm_iald (n := (sm_kd (R a0 6)).2) (q := 17) dX12_isDone_16 rfl (Prod.ext hc4.1 rfl) hc4.2 ?_
  rcases sm_if_e h with ⟨hb5, h⟩ | ⟨hb5, h⟩
  · refine sm_icmp_ne (tgt := 24) (q := 20) dX12_isDone_17 (by decide) rfl (fun hn => absurd hb5 hn) (fun _ => ?_)
    refine sm_iconst (v := 1) (q := 21) dX12_isDone_20 rfl (by decide) ?_
    refine sm_goto (q := 25) dX12_isDone_21 (by decide) ?_
    obtain rfl := Option.some.inj h
    exact sm_zret dX12_isDone_25 rfl (by decide)
  · refine sm_icmp_ne (tgt := 24) (q := 20) dX12_isDone_17 (by decide) rfl (fun _ => ?_) (fun he => absurd he hb5)
    refine sm_iconst (v := 0) (q := 25) dX12_isDone_24 rfl (by decide) ?_
    obtain rfl := Option.some.inj h
    exact sm_zret dX12_isDone_25 rfl (by decide)
theorem e_X12_isDone {l : Launch} {N : Nat} {R : Nat → Nat → Nat} {a0 : Nat} {a1 : Int32} {I : (Nat → Nat → Int32)} {y : (Int32 × (Nat → Nat → Int32))} (h : f_X12_isDone N R a0 a1 I = some y) : sm_E l 0 mX12_isDone [.inr (.inl a0), .inl a1] (I, R) (.inl (some (.inl y.1))) (y.2, R) :=
  sm_meth (by decide) (Nat.le_of_ble_eq_true rfl) (w_X12_isDone N R a0 a1 I y h)
def f_X12_hardOf (N : Nat) (R : Nat → Nat → Nat) : Nat → Int32 → Int32 → (Nat → Nat → Int32) → Option (Int32 × (Nat → Nat → Int32)) := fun a0 a1 a2 I =>
  sm_gd (sm_kd a0 = (12, 59)) <|
  sm_gd ((sm_kd (R a0 7)).1 = 13 ∧ ¬ ((((8 : Int32) * a1) + a2) < 0 ∨ (sm_kd (R a0 7)).2 ≤ ((((8 : Int32) * a1) + a2)).toNatClampNeg)) <|
  some ((I (R a0 7) ((((8 : Int32) * a1) + a2)).toNatClampNeg), I)
set_option maxHeartbeats 4000000 in
set_option maxRecDepth 100000 in
theorem w_X12_hardOf {l : Launch} (N : Nat) (R : Nat → Nat → Nat) : ∀ (a0 : Nat) (a1 : Int32) (a2 : Int32) (I : (Nat → Nat → Int32)) (y : (Int32 × (Nat → Nat → Int32))), f_X12_hardOf N R a0 a1 a2 I = some y → sm_W l 0 mX12_hardOf 0 [(0, .inr (.inl a0)), (1, .inl a1), (2, .inl a2)] [] (I, R) (.inl (some (.inl y.1))) (y.2, R) := by
  intro a0 a1 a2 I y h
  unfold f_X12_hardOf at h
  refine sm_aload_n (q := 1) dX12_hardOf_0 rfl rfl 0 rfl ?_
  obtain ⟨hc1, h⟩ := sm_gd_e h
  refine sm_getR (r := R a0 7) (q := 4) dX12_hardOf_1 rfl fk_X12_50 hc1 (by decide) (by decide) rfl ?_
  refine sm_bipush (v := 8) (q := 6) dX12_hardOf_4 rfl (by decide) ?_
  refine sm_iload_n (q := 7) dX12_hardOf_6 rfl rfl 1 rfl ?_
  refine sm_imul (q := 8) dX12_hardOf_7 rfl ?_
  refine sm_iload_n (q := 9) dX12_hardOf_8 rfl rfl 2 rfl ?_
  refine sm_iadd (q := 10) dX12_hardOf_9 rfl ?_
  obtain ⟨hc2, h⟩ := sm_gd_e h
  refine sm_iald (n := (sm_kd (R a0 7)).2) (q := 11) dX12_hardOf_10 rfl (Prod.ext hc2.1 rfl) hc2.2 ?_
  obtain rfl := Option.some.inj h
  exact sm_iret dX12_hardOf_11 rfl
theorem e_X12_hardOf {l : Launch} {N : Nat} {R : Nat → Nat → Nat} {a0 : Nat} {a1 : Int32} {a2 : Int32} {I : (Nat → Nat → Int32)} {y : (Int32 × (Nat → Nat → Int32))} (h : f_X12_hardOf N R a0 a1 a2 I = some y) : sm_E l 0 mX12_hardOf [.inr (.inl a0), .inl a1, .inl a2] (I, R) (.inl (some (.inl y.1))) (y.2, R) :=
  sm_meth (by decide) (Nat.le_of_ble_eq_true rfl) (w_X12_hardOf N R a0 a1 a2 I y h)
def f_X12_nextHard (N : Nat) (R : Nat → Nat → Nat) : Nat → Int32 → (Nat → Nat → Int32) → Option (Int32 × (Nat → Nat → Int32)) := fun a0 a1 I =>
  sm_gd (sm_kd a0 = (12, 59)) <|
  (f_X12_isDone N R a0 a1 I).bind fun p2 =>
  if p2.1 = 0 then (
    sm_gd ((sm_kd (R a0 27)).1 = 13 ∧ ¬ (a1 < 0 ∨ (sm_kd (R a0 27)).2 ≤ (a1).toNatClampNeg)) <|
    sm_gd ((sm_kd (R a0 28)).1 = 13 ∧ ¬ (a1 < 0 ∨ (sm_kd (R a0 28)).2 ≤ (a1).toNatClampNeg)) <|
    (f_X12_hardOf N R a0 (p2.2 (R a0 27) (a1).toNatClampNeg) (p2.2 (R a0 28) (a1).toNatClampNeg) p2.2).bind fun p6 =>
    some (p6.1, p6.2))
  else (
    some ((0 : Int32), p2.2))
set_option maxHeartbeats 4000000 in
set_option maxRecDepth 100000 in
theorem w_X12_nextHard {l : Launch} (N : Nat) (R : Nat → Nat → Nat) : ∀ (a0 : Nat) (a1 : Int32) (I : (Nat → Nat → Int32)) (y : (Int32 × (Nat → Nat → Int32))), f_X12_nextHard N R a0 a1 I = some y → sm_W l 1 mX12_nextHard 0 [(0, .inr (.inl a0)), (1, .inl a1)] [] (I, R) (.inl (some (.inl y.1))) (y.2, R) := by
  intro a0 a1 I y h
  unfold f_X12_nextHard at h
  refine sm_aload_n (q := 1) dX12_nextHard_0 rfl rfl 0 rfl ?_
  refine sm_iload_n (q := 2) dX12_nextHard_1 rfl rfl 1 rfl ?_
  obtain ⟨hc1, h⟩ := sm_gd_e h
  obtain ⟨p2, hc_p2, h⟩ := sm_bd_e h
  refine sm_callVi (q := 5) (As := [.inl a1]) (S := []) (e_X12_isDone hc_p2) mv_X12_313 hc1 rfl (by decide) (Nat.le_of_ble_eq_true rfl) dX12_nextHard_2 rfl ?_
  rcases sm_if_e h with ⟨hb3, h⟩ | ⟨hb3, h⟩
  · refine sm_if_eq (tgt := 12) (q := 8) dX12_nextHard_5 (by decide) rfl (fun _ => ?_) (fun hn => absurd hb3 hn)
    refine sm_aload_n (q := 13) dX12_nextHard_12 rfl rfl 0 rfl ?_
    refine sm_aload_n (q := 14) dX12_nextHard_13 rfl rfl 0 rfl ?_
    refine sm_getR (r := R a0 27) (q := 17) dX12_nextHard_14 rfl fk_X12_82 hc1 (by decide) (by decide) rfl ?_
    refine sm_iload_n (q := 18) dX12_nextHard_17 rfl rfl 1 rfl ?_
    obtain ⟨hc4, h⟩ := sm_gd_e h
    refine sm_iald (n := (sm_kd (R a0 27)).2) (q := 19) dX12_nextHard_18 rfl (Prod.ext hc4.1 rfl) hc4.2 ?_
    refine sm_aload_n (q := 20) dX12_nextHard_19 rfl rfl 0 rfl ?_
    refine sm_getR (r := R a0 28) (q := 23) dX12_nextHard_20 rfl fk_X12_85 hc1 (by decide) (by decide) rfl ?_
    refine sm_iload_n (q := 24) dX12_nextHard_23 rfl rfl 1 rfl ?_
    obtain ⟨hc5, h⟩ := sm_gd_e h
    refine sm_iald (n := (sm_kd (R a0 28)).2) (q := 25) dX12_nextHard_24 rfl (Prod.ext hc5.1 rfl) hc5.2 ?_
    obtain ⟨p6, hc_p6, h⟩ := sm_bd_e h
    refine sm_callVi (q := 28) (As := [.inl (p2.2 (R a0 27) (a1).toNatClampNeg), .inl (p2.2 (R a0 28) (a1).toNatClampNeg)]) (S := []) (e_X12_hardOf hc_p6) mv_X12_316 hc1 rfl (by decide) (Nat.le_of_ble_eq_true rfl) dX12_nextHard_25 rfl ?_
    obtain rfl := Option.some.inj h
    exact sm_iret dX12_nextHard_28 rfl
  · refine sm_if_eq (tgt := 12) (q := 8) dX12_nextHard_5 (by decide) rfl (fun ht => absurd ht hb3) (fun _ => ?_)
    refine sm_iconst (v := 0) (q := 9) dX12_nextHard_8 rfl (by decide) ?_
    refine sm_goto (q := 28) dX12_nextHard_9 (by decide) ?_
    obtain rfl := Option.some.inj h
    exact sm_iret dX12_nextHard_28 rfl
theorem e_X12_nextHard {l : Launch} {N : Nat} {R : Nat → Nat → Nat} {a0 : Nat} {a1 : Int32} {I : (Nat → Nat → Int32)} {y : (Int32 × (Nat → Nat → Int32))} (h : f_X12_nextHard N R a0 a1 I = some y) : sm_E l 1 mX12_nextHard [.inr (.inl a0), .inl a1] (I, R) (.inl (some (.inl y.1))) (y.2, R) :=
  sm_meth (by decide) (Nat.le_of_ble_eq_true rfl) (w_X12_nextHard N R a0 a1 I y h)
def f_X12_gainOf_104 (N : Nat) (R : Nat → Nat → Nat) : Nat → Int32 → Int32 → (Nat → Nat → Int32) → Option (Int32 × (Nat → Nat → Int32)) := fun a0 a1 a2 I =>
  sm_gd (sm_kd a0 = (12, 59)) <|
  sm_gd ((sm_kd (R a0 25)).1 = 13 ∧ ¬ (a1 < 0 ∨ (sm_kd (R a0 25)).2 ≤ (a1).toNatClampNeg)) <|
  sm_gd ((sm_kd (R a0 8)).1 = 13 ∧ ¬ (a1 < 0 ∨ (sm_kd (R a0 8)).2 ≤ (a1).toNatClampNeg)) <|
  if (I (R a0 8) (a1).toNatClampNeg) = (1 : Int32) then (
    some ((sm_mn ((99 : Int32) - (I (R a0 25) (a1).toNatClampNeg)) ((2 : Int32) * (sm_mx (0 : Int32) (sm_mn (20 : Int32) a2)))), I))
  else (
    some ((sm_mn ((99 : Int32) - (I (R a0 25) (a1).toNatClampNeg)) (sm_mx (0 : Int32) (sm_mn (20 : Int32) a2))), I))
def f_X12_gainOf (N : Nat) (R : Nat → Nat → Nat) : Nat → Int32 → (Nat → Nat → Int32) → Option (Int32 × (Nat → Nat → Int32)) := fun a0 a1 I =>
  sm_gd (sm_kd a0 = (12, 59)) <|
  sm_gd ((sm_kd (R a0 26)).1 = 13 ∧ ¬ (a1 < 0 ∨ (sm_kd (R a0 26)).2 ≤ (a1).toNatClampNeg)) <|
  sm_gd ((sm_kd (R a0 4)).1 = 13 ∧ ¬ ((3 : Int32) < 0 ∨ (sm_kd (R a0 4)).2 ≤ ((3 : Int32)).toNatClampNeg)) <|
  if (I (R a0 4) ((3 : Int32)).toNatClampNeg) ≤ 0 then (
    f_X12_gainOf_104 N R a0 a1 ((5 : Int32) - ((I (R a0 26) (a1).toNatClampNeg) / (2 : Int32))) I)
  else (
    sm_gd ((sm_kd (R a0 25)).1 = 13 ∧ ¬ (a1 < 0 ∨ (sm_kd (R a0 25)).2 ≤ (a1).toNatClampNeg)) <|
    sm_gd ((sm_kd (R a0 35)).1 = 13 ∧ ¬ ((0 : Int32) < 0 ∨ (sm_kd (R a0 35)).2 ≤ ((0 : Int32)).toNatClampNeg)) <|
    sm_lt (sm_up I (R a0 35) (sm_up (I (R a0 35)) ((0 : Int32)).toNatClampNeg (I (R a0 25) (a1).toNatClampNeg))) fun I7 =>
    sm_gd ((sm_kd (R a0 35)).1 = 13 ∧ ¬ ((1 : Int32) < 0 ∨ (sm_kd (R a0 35)).2 ≤ ((1 : Int32)).toNatClampNeg)) <|
    sm_lt (sm_up I7 (R a0 35) (sm_up (I7 (R a0 35)) ((1 : Int32)).toNatClampNeg (I7 (R a0 26) (a1).toNatClampNeg))) fun I9 =>
    (f_X12_nextHard N R a0 a1 I9).bind fun p10 =>
    sm_gd ((sm_kd (R a0 35)).1 = 13 ∧ ¬ ((2 : Int32) < 0 ∨ (sm_kd (R a0 35)).2 ≤ ((2 : Int32)).toNatClampNeg)) <|
    sm_lt (sm_up p10.2 (R a0 35) (sm_up (p10.2 (R a0 35)) ((2 : Int32)).toNatClampNeg p10.1)) fun I12 =>
    sm_gd ((sm_kd (R a0 28)).1 = 13 ∧ ¬ (a1 < 0 ∨ (sm_kd (R a0 28)).2 ≤ (a1).toNatClampNeg)) <|
    sm_gd ((sm_kd (R a0 35)).1 = 13 ∧ ¬ ((3 : Int32) < 0 ∨ (sm_kd (R a0 35)).2 ≤ ((3 : Int32)).toNatClampNeg)) <|
    sm_lt (sm_up I12 (R a0 35) (sm_up (I12 (R a0 35)) ((3 : Int32)).toNatClampNeg (I12 (R a0 28) (a1).toNatClampNeg))) fun I15 =>
    sm_gd ((sm_kd (R a0 27)).1 = 13 ∧ ¬ (a1 < 0 ∨ (sm_kd (R a0 27)).2 ≤ (a1).toNatClampNeg)) <|
    sm_gd ((sm_kd (R a0 6)).1 = 13 ∧ ¬ ((I15 (R a0 27) (a1).toNatClampNeg) < 0 ∨ (sm_kd (R a0 6)).2 ≤ ((I15 (R a0 27) (a1).toNatClampNeg)).toNatClampNeg)) <|
    sm_gd ((sm_kd (R a0 35)).1 = 13 ∧ ¬ ((4 : Int32) < 0 ∨ (sm_kd (R a0 35)).2 ≤ ((4 : Int32)).toNatClampNeg)) <|
    sm_lt (sm_up I15 (R a0 35) (sm_up (I15 (R a0 35)) ((4 : Int32)).toNatClampNeg (I15 (R a0 6) ((I15 (R a0 27) (a1).toNatClampNeg)).toNatClampNeg))) fun I19 =>
    sm_gd ((sm_kd (R a0 29)).1 = 13 ∧ ¬ (a1 < 0 ∨ (sm_kd (R a0 29)).2 ≤ (a1).toNatClampNeg)) <|
    (f_X12_bitsOf N R (I19 (R a0 29) (a1).toNatClampNeg) I19).bind fun p21 =>
    sm_gd ((sm_kd (R a0 35)).1 = 13 ∧ ¬ ((5 : Int32) < 0 ∨ (sm_kd (R a0 35)).2 ≤ ((5 : Int32)).toNatClampNeg)) <|
    sm_lt (sm_up p21.2 (R a0 35) (sm_up (p21.2 (R a0 35)) ((5 : Int32)).toNatClampNeg p21.1)) fun I23 =>
    (f_X12_valueNow N R a0 I23).bind fun p24 =>
    f_X12_gainOf_104 N R a0 a1 p24.1 p24.2)
set_option maxHeartbeats 4000000 in
set_option maxRecDepth 100000 in
theorem w_X12_gainOf_104 {l : Launch} (N : Nat) (R : Nat → Nat → Nat) : ∀ (a0 : Nat) (a1 : Int32) (a2 : Int32) (I : (Nat → Nat → Int32)) (y : (Int32 × (Nat → Nat → Int32))), f_X12_gainOf_104 N R a0 a1 a2 I = some y → sm_W l 2 mX12_gainOf 104 [(0, .inr (.inl a0)), (1, .inl a1), (2, .inl a2)] [] (I, R) (.inl (some (.inl y.1))) (y.2, R) := by
  intro a0 a1 a2 I y h
  unfold f_X12_gainOf_104 at h
  refine sm_iconst (v := 0) (q := 105) dX12_gainOf_104 rfl (by decide) ?_
  refine sm_bipush (v := 20) (q := 107) dX12_gainOf_105 rfl (by decide) ?_
  refine sm_iload_n (q := 108) dX12_gainOf_107 rfl rfl 2 rfl ?_
  refine sm_mmn (q := 111) dX12_gainOf_108 rfl mm_X12_189 (Nat.le_of_ble_eq_true rfl) ?_
  refine sm_mmx (q := 114) dX12_gainOf_111 rfl mm_X12_328 (Nat.le_of_ble_eq_true rfl) ?_
  refine sm_istore_n (L' := [(2, .inl (sm_mx (0 : Int32) (sm_mn (20 : Int32) a2))), (0, .inr (.inl a0)), (1, .inl a1)]) (q := 115) dX12_gainOf_114 rfl rfl (by decide) rfl ?_
  refine sm_bipush (v := 99) (q := 117) dX12_gainOf_115 rfl (by decide) ?_
  refine sm_aload_n (q := 118) dX12_gainOf_117 rfl rfl 1 rfl ?_
  obtain ⟨hc1, h⟩ := sm_gd_e h
  refine sm_getR (r := R a0 25) (q := 121) dX12_gainOf_118 rfl fk_X12_76 hc1 (by decide) (by decide) rfl ?_
  refine sm_iload_n (q := 122) dX12_gainOf_121 rfl rfl 2 rfl ?_
  obtain ⟨hc2, h⟩ := sm_gd_e h
  refine sm_iald (n := (sm_kd (R a0 25)).2) (q := 123) dX12_gainOf_122 rfl (Prod.ext hc2.1 rfl) hc2.2 ?_
  refine sm_isub (q := 124) dX12_gainOf_123 rfl ?_
  refine sm_aload_n (q := 125) dX12_gainOf_124 rfl rfl 1 rfl ?_
  refine sm_getR (r := R a0 8) (q := 128) dX12_gainOf_125 rfl fk_X12_52 hc1 (by decide) (by decide) rfl ?_
  refine sm_iload_n (q := 129) dX12_gainOf_128 rfl rfl 2 rfl ?_
  obtain ⟨hc3, h⟩ := sm_gd_e h
  refine sm_iald (n := (sm_kd (R a0 8)).2) (q := 130) dX12_gainOf_129 rfl (Prod.ext hc3.1 rfl) hc3.2 ?_
  refine sm_iconst (v := 1) (q := 131) dX12_gainOf_130 rfl (by decide) ?_
  rcases sm_if_e h with ⟨hb4, h⟩ | ⟨hb4, h⟩
  · refine sm_icmp_ne (tgt := 140) (q := 134) dX12_gainOf_131 (by decide) rfl (fun hn => absurd hb4 hn) (fun _ => ?_)
    refine sm_iconst (v := 2) (q := 135) dX12_gainOf_134 rfl (by decide) ?_
    refine sm_iload_n (q := 136) dX12_gainOf_135 rfl rfl 0 rfl ?_
    refine sm_imul (q := 137) dX12_gainOf_136 rfl ?_
    refine sm_goto (q := 141) dX12_gainOf_137 (by decide) ?_
    refine sm_mmn (q := 144) dX12_gainOf_141 rfl mm_X12_189 (Nat.le_of_ble_eq_true rfl) ?_
    obtain rfl := Option.some.inj h
    exact sm_iret dX12_gainOf_144 rfl
  · refine sm_icmp_ne (tgt := 140) (q := 134) dX12_gainOf_131 (by decide) rfl (fun _ => ?_) (fun he => absurd he hb4)
    refine sm_iload_n (q := 141) dX12_gainOf_140 rfl rfl 0 rfl ?_
    refine sm_mmn (q := 144) dX12_gainOf_141 rfl mm_X12_189 (Nat.le_of_ble_eq_true rfl) ?_
    obtain rfl := Option.some.inj h
    exact sm_iret dX12_gainOf_144 rfl
set_option maxHeartbeats 4000000 in
set_option maxRecDepth 100000 in
theorem w_X12_gainOf {l : Launch} (N : Nat) (R : Nat → Nat → Nat) : ∀ (a0 : Nat) (a1 : Int32) (I : (Nat → Nat → Int32)) (y : (Int32 × (Nat → Nat → Int32))), f_X12_gainOf N R a0 a1 I = some y → sm_W l 2 mX12_gainOf 0 [(0, .inr (.inl a0)), (1, .inl a1)] [] (I, R) (.inl (some (.inl y.1))) (y.2, R) := by
  intro a0 a1 I y h
  unfold f_X12_gainOf at h
  refine sm_iconst (v := 5) (q := 1) dX12_gainOf_0 rfl (by decide) ?_
  refine sm_aload_n (q := 2) dX12_gainOf_1 rfl rfl 0 rfl ?_
  obtain ⟨hc1, h⟩ := sm_gd_e h
  refine sm_getR (r := R a0 26) (q := 5) dX12_gainOf_2 rfl fk_X12_79 hc1 (by decide) (by decide) rfl ?_
  refine sm_iload_n (q := 6) dX12_gainOf_5 rfl rfl 1 rfl ?_
  obtain ⟨hc2, h⟩ := sm_gd_e h
  refine sm_iald (n := (sm_kd (R a0 26)).2) (q := 7) dX12_gainOf_6 rfl (Prod.ext hc2.1 rfl) hc2.2 ?_
  refine sm_iconst (v := 2) (q := 8) dX12_gainOf_7 rfl (by decide) ?_
  refine sm_idiv (q := 9) dX12_gainOf_8 rfl (by decide) ?_
  refine sm_isub (q := 10) dX12_gainOf_9 rfl ?_
  refine sm_istore_n (L' := [(2, .inl ((5 : Int32) - ((I (R a0 26) (a1).toNatClampNeg) / (2 : Int32)))), (0, .inr (.inl a0)), (1, .inl a1)]) (q := 11) dX12_gainOf_10 rfl rfl (by decide) rfl ?_
  refine sm_aload_n (q := 12) dX12_gainOf_11 rfl rfl 1 rfl ?_
  refine sm_getR (r := R a0 4) (q := 15) dX12_gainOf_12 rfl fk_X12_41 hc1 (by decide) (by decide) rfl ?_
  refine sm_iconst (v := 3) (q := 16) dX12_gainOf_15 rfl (by decide) ?_
  obtain ⟨hc3, h⟩ := sm_gd_e h
  refine sm_iald (n := (sm_kd (R a0 4)).2) (q := 17) dX12_gainOf_16 rfl (Prod.ext hc3.1 rfl) hc3.2 ?_
  rcases sm_if_e h with ⟨hb4, h⟩ | ⟨hb4, h⟩
  · refine sm_if_le (tgt := 104) (q := 20) dX12_gainOf_17 (by decide) rfl (fun _ => ?_) (fun hn => absurd hb4 hn)
    refine sm_pick [1, 2, 0] rfl ?_
    exact w_X12_gainOf_104 N R _ _ _ _ _ h
  · refine sm_if_le (tgt := 104) (q := 20) dX12_gainOf_17 (by decide) rfl (fun ht => absurd ht hb4) (fun _ => ?_)
    refine sm_aload_n (q := 21) dX12_gainOf_20 rfl rfl 1 rfl ?_
    refine sm_getR (r := R a0 35) (q := 24) dX12_gainOf_21 rfl fk_X12_92 hc1 (by decide) (by decide) rfl ?_
    refine sm_iconst (v := 0) (q := 25) dX12_gainOf_24 rfl (by decide) ?_
    refine sm_aload_n (q := 26) dX12_gainOf_25 rfl rfl 1 rfl ?_
    refine sm_getR (r := R a0 25) (q := 29) dX12_gainOf_26 rfl fk_X12_76 hc1 (by decide) (by decide) rfl ?_
    refine sm_iload_n (q := 30) dX12_gainOf_29 rfl rfl 2 rfl ?_
    obtain ⟨hc5, h⟩ := sm_gd_e h
    refine sm_iald (n := (sm_kd (R a0 25)).2) (q := 31) dX12_gainOf_30 rfl (Prod.ext hc5.1 rfl) hc5.2 ?_
    obtain ⟨hc6, h⟩ := sm_gd_e h
    obtain ⟨I7, hI7, h⟩ := sm_lt_e h
    refine sm_iast (n := (sm_kd (R a0 35)).2) (q := 32) dX12_gainOf_31 rfl (Prod.ext hc6.1 rfl) hc6.2 ?_
    refine sm_memI hI7 ?_
    refine sm_aload_n (q := 33) dX12_gainOf_32 rfl rfl 1 rfl ?_
    refine sm_getR (r := R a0 35) (q := 36) dX12_gainOf_33 rfl fk_X12_92 hc1 (by decide) (by decide) rfl ?_
    refine sm_iconst (v := 1) (q := 37) dX12_gainOf_36 rfl (by decide) ?_
    refine sm_aload_n (q := 38) dX12_gainOf_37 rfl rfl 1 rfl ?_
    refine sm_getR (r := R a0 26) (q := 41) dX12_gainOf_38 rfl fk_X12_79 hc1 (by decide) (by decide) rfl ?_
    refine sm_iload_n (q := 42) dX12_gainOf_41 rfl rfl 2 rfl ?_
    refine sm_iald (n := (sm_kd (R a0 26)).2) (q := 43) dX12_gainOf_42 rfl (Prod.ext hc2.1 rfl) hc2.2 ?_
    obtain ⟨hc8, h⟩ := sm_gd_e h
    obtain ⟨I9, hI9, h⟩ := sm_lt_e h
    refine sm_iast (n := (sm_kd (R a0 35)).2) (q := 44) dX12_gainOf_43 rfl (Prod.ext hc8.1 rfl) hc8.2 ?_
    refine sm_memI hI9 ?_
    refine sm_aload_n (q := 45) dX12_gainOf_44 rfl rfl 1 rfl ?_
    refine sm_getR (r := R a0 35) (q := 48) dX12_gainOf_45 rfl fk_X12_92 hc1 (by decide) (by decide) rfl ?_
    refine sm_iconst (v := 2) (q := 49) dX12_gainOf_48 rfl (by decide) ?_
    refine sm_aload_n (q := 50) dX12_gainOf_49 rfl rfl 1 rfl ?_
    refine sm_iload_n (q := 51) dX12_gainOf_50 rfl rfl 2 rfl ?_
    obtain ⟨p10, hc_p10, h⟩ := sm_bd_e h
    refine sm_callVi (q := 54) (As := [.inl a1]) (S := [.inl (2 : Int32), .inr (.inl (R a0 35))]) (e_X12_nextHard hc_p10) mv_X12_319 hc1 rfl (by decide) (Nat.le_of_ble_eq_true rfl) dX12_gainOf_51 rfl ?_
    obtain ⟨hc11, h⟩ := sm_gd_e h
    obtain ⟨I12, hI12, h⟩ := sm_lt_e h
    refine sm_iast (n := (sm_kd (R a0 35)).2) (q := 55) dX12_gainOf_54 rfl (Prod.ext hc11.1 rfl) hc11.2 ?_
    refine sm_memI hI12 ?_
    refine sm_aload_n (q := 56) dX12_gainOf_55 rfl rfl 1 rfl ?_
    refine sm_getR (r := R a0 35) (q := 59) dX12_gainOf_56 rfl fk_X12_92 hc1 (by decide) (by decide) rfl ?_
    refine sm_iconst (v := 3) (q := 60) dX12_gainOf_59 rfl (by decide) ?_
    refine sm_aload_n (q := 61) dX12_gainOf_60 rfl rfl 1 rfl ?_
    refine sm_getR (r := R a0 28) (q := 64) dX12_gainOf_61 rfl fk_X12_85 hc1 (by decide) (by decide) rfl ?_
    refine sm_iload_n (q := 65) dX12_gainOf_64 rfl rfl 2 rfl ?_
    obtain ⟨hc13, h⟩ := sm_gd_e h
    refine sm_iald (n := (sm_kd (R a0 28)).2) (q := 66) dX12_gainOf_65 rfl (Prod.ext hc13.1 rfl) hc13.2 ?_
    obtain ⟨hc14, h⟩ := sm_gd_e h
    obtain ⟨I15, hI15, h⟩ := sm_lt_e h
    refine sm_iast (n := (sm_kd (R a0 35)).2) (q := 67) dX12_gainOf_66 rfl (Prod.ext hc14.1 rfl) hc14.2 ?_
    refine sm_memI hI15 ?_
    refine sm_aload_n (q := 68) dX12_gainOf_67 rfl rfl 1 rfl ?_
    refine sm_getR (r := R a0 35) (q := 71) dX12_gainOf_68 rfl fk_X12_92 hc1 (by decide) (by decide) rfl ?_
    refine sm_iconst (v := 4) (q := 72) dX12_gainOf_71 rfl (by decide) ?_
    refine sm_aload_n (q := 73) dX12_gainOf_72 rfl rfl 1 rfl ?_
    refine sm_getR (r := R a0 6) (q := 76) dX12_gainOf_73 rfl fk_X12_47 hc1 (by decide) (by decide) rfl ?_
    refine sm_aload_n (q := 77) dX12_gainOf_76 rfl rfl 1 rfl ?_
    refine sm_getR (r := R a0 27) (q := 80) dX12_gainOf_77 rfl fk_X12_82 hc1 (by decide) (by decide) rfl ?_
    refine sm_iload_n (q := 81) dX12_gainOf_80 rfl rfl 2 rfl ?_
    obtain ⟨hc16, h⟩ := sm_gd_e h
    refine sm_iald (n := (sm_kd (R a0 27)).2) (q := 82) dX12_gainOf_81 rfl (Prod.ext hc16.1 rfl) hc16.2 ?_
    obtain ⟨hc17, h⟩ := sm_gd_e h
    refine sm_iald (n := (sm_kd (R a0 6)).2) (q := 83) dX12_gainOf_82 rfl (Prod.ext hc17.1 rfl) hc17.2 ?_
    obtain ⟨hc18, h⟩ := sm_gd_e h
    obtain ⟨I19, hI19, h⟩ := sm_lt_e h
    refine sm_iast (n := (sm_kd (R a0 35)).2) (q := 84) dX12_gainOf_83 rfl (Prod.ext hc18.1 rfl) hc18.2 ?_
    refine sm_memI hI19 ?_
    refine sm_aload_n (q := 85) dX12_gainOf_84 rfl rfl 1 rfl ?_
    refine sm_getR (r := R a0 35) (q := 88) dX12_gainOf_85 rfl fk_X12_92 hc1 (by decide) (by decide) rfl ?_
    refine sm_iconst (v := 5) (q := 89) dX12_gainOf_88 rfl (by decide) ?_
    refine sm_aload_n (q := 90) dX12_gainOf_89 rfl rfl 1 rfl ?_
    refine sm_getR (r := R a0 29) (q := 93) dX12_gainOf_90 rfl fk_X12_87 hc1 (by decide) (by decide) rfl ?_
    refine sm_iload_n (q := 94) dX12_gainOf_93 rfl rfl 2 rfl ?_
    obtain ⟨hc20, h⟩ := sm_gd_e h
    refine sm_iald (n := (sm_kd (R a0 29)).2) (q := 95) dX12_gainOf_94 rfl (Prod.ext hc20.1 rfl) hc20.2 ?_
    obtain ⟨p21, hc_p21, h⟩ := sm_bd_e h
    refine sm_callSi (q := 98) (As := [.inl (I19 (R a0 29) (a1).toNatClampNeg)]) (S := [.inl (5 : Int32), .inr (.inl (R a0 35))]) (e_X12_bitsOf hc_p21) ms_X12_322 rfl (by decide) (Nat.le_of_ble_eq_true rfl) dX12_gainOf_95 rfl ?_
    obtain ⟨hc22, h⟩ := sm_gd_e h
    obtain ⟨I23, hI23, h⟩ := sm_lt_e h
    refine sm_iast (n := (sm_kd (R a0 35)).2) (q := 99) dX12_gainOf_98 rfl (Prod.ext hc22.1 rfl) hc22.2 ?_
    refine sm_memI hI23 ?_
    refine sm_aload_n (q := 100) dX12_gainOf_99 rfl rfl 1 rfl ?_
    obtain ⟨p24, hc_p24, h⟩ := sm_bd_e h
    refine sm_callVi (q := 103) (As := []) (S := []) (e_X12_valueNow hc_p24) mv_X12_325 hc1 rfl (by decide) (Nat.le_of_ble_eq_true rfl) dX12_gainOf_100 rfl ?_
    refine sm_istore_n (L' := [(2, .inl p24.1), (0, .inr (.inl a0)), (1, .inl a1)]) (q := 104) dX12_gainOf_103 rfl rfl (by decide) rfl ?_
    refine sm_pick [1, 2, 0] rfl ?_
    exact w_X12_gainOf_104 N R _ _ _ _ _ h
theorem e_X12_gainOf {l : Launch} {N : Nat} {R : Nat → Nat → Nat} {a0 : Nat} {a1 : Int32} {I : (Nat → Nat → Int32)} {y : (Int32 × (Nat → Nat → Int32))} (h : f_X12_gainOf N R a0 a1 I = some y) : sm_E l 2 mX12_gainOf [.inr (.inl a0), .inl a1] (I, R) (.inl (some (.inl y.1))) (y.2, R) :=
  sm_meth (by decide) (Nat.le_of_ble_eq_true rfl) (w_X12_gainOf N R a0 a1 I y h)
def f_X12_practise (N : Nat) (R : Nat → Nat → Nat) : Nat → Int32 → (Nat → Nat → Int32) → Option (Unit × (Nat → Nat → Int32)) := fun a0 a1 I =>
  sm_gd (sm_kd a0 = (12, 59)) <|
  sm_gd ((sm_kd (R a0 25)).1 = 13 ∧ ¬ (a1 < 0 ∨ (sm_kd (R a0 25)).2 ≤ (a1).toNatClampNeg)) <|
  (f_X12_gainOf N R a0 a1 I).bind fun p3 =>
  sm_lt (sm_up p3.2 (R a0 25) (sm_up (p3.2 (R a0 25)) (a1).toNatClampNeg ((I (R a0 25) (a1).toNatClampNeg) + p3.1))) fun I4 =>
  some ((), I4)
set_option maxHeartbeats 4000000 in
set_option maxRecDepth 100000 in
theorem w_X12_practise {l : Launch} (N : Nat) (R : Nat → Nat → Nat) : ∀ (a0 : Nat) (a1 : Int32) (I : (Nat → Nat → Int32)) (y : (Unit × (Nat → Nat → Int32))), f_X12_practise N R a0 a1 I = some y → sm_W l 3 mX12_practise 0 [(0, .inr (.inl a0)), (1, .inl a1)] [] (I, R) (.inl none) (y.2, R) := by
  intro a0 a1 I y h
  unfold f_X12_practise at h
  refine sm_aload_n (q := 1) dX12_practise_0 rfl rfl 0 rfl ?_
  obtain ⟨hc1, h⟩ := sm_gd_e h
  refine sm_getR (r := R a0 25) (q := 4) dX12_practise_1 rfl fk_X12_76 hc1 (by decide) (by decide) rfl ?_
  refine sm_iload_n (q := 5) dX12_practise_4 rfl rfl 1 rfl ?_
  refine sm_dup2 (q := 6) dX12_practise_5 rfl rfl rfl ?_
  obtain ⟨hc2, h⟩ := sm_gd_e h
  refine sm_iald (n := (sm_kd (R a0 25)).2) (q := 7) dX12_practise_6 rfl (Prod.ext hc2.1 rfl) hc2.2 ?_
  refine sm_aload_n (q := 8) dX12_practise_7 rfl rfl 0 rfl ?_
  refine sm_iload_n (q := 9) dX12_practise_8 rfl rfl 1 rfl ?_
  obtain ⟨p3, hc_p3, h⟩ := sm_bd_e h
  refine sm_callVi (q := 12) (As := [.inl a1]) (S := [.inl (I (R a0 25) (a1).toNatClampNeg), .inl a1, .inr (.inl (R a0 25))]) (e_X12_gainOf hc_p3) mv_X12_331 hc1 rfl (by decide) (Nat.le_of_ble_eq_true rfl) dX12_practise_9 rfl ?_
  refine sm_iadd (q := 13) dX12_practise_12 rfl ?_
  obtain ⟨I4, hI4, h⟩ := sm_lt_e h
  refine sm_iast (n := (sm_kd (R a0 25)).2) (q := 14) dX12_practise_13 rfl (Prod.ext hc2.1 rfl) hc2.2 ?_
  refine sm_memI hI4 ?_
  obtain rfl := Option.some.inj h
  exact sm_vret dX12_practise_14 rfl
theorem e_X12_practise {l : Launch} {N : Nat} {R : Nat → Nat → Nat} {a0 : Nat} {a1 : Int32} {I : (Nat → Nat → Int32)} {y : (Unit × (Nat → Nat → Int32))} (h : f_X12_practise N R a0 a1 I = some y) : sm_E l 3 mX12_practise [.inr (.inl a0), .inl a1] (I, R) (.inl none) (y.2, R) :=
  sm_meth (by decide) (Nat.le_of_ble_eq_true rfl) (w_X12_practise N R a0 a1 I y h)
def f_X12_mayGoOn (N : Nat) (R : Nat → Nat → Nat) : Nat → Int32 → (Nat → Nat → Int32) → Option (Int32 × (Nat → Nat → Int32)) := fun a0 a1 I =>
  sm_gd (sm_kd a0 = (12, 59)) <|
  (f_X12_isDone N R a0 a1 I).bind fun p2 =>
  if p2.1 = 0 then (
    sm_gd ((sm_kd (R a0 25)).1 = 13 ∧ ¬ (a1 < 0 ∨ (sm_kd (R a0 25)).2 ≤ (a1).toNatClampNeg)) <|
    (f_X12_nextHard N R a0 a1 p2.2).bind fun p5 =>
    if (p2.2 (R a0 25) (a1).toNatClampNeg) < p5.1 then (
      some ((0 : Int32), p5.2))
    else (
      some ((1 : Int32), p5.2)))
  else (
    some ((0 : Int32), p2.2))
set_option maxHeartbeats 4000000 in
set_option maxRecDepth 100000 in
theorem w_X12_mayGoOn {l : Launch} (N : Nat) (R : Nat → Nat → Nat) : ∀ (a0 : Nat) (a1 : Int32) (I : (Nat → Nat → Int32)) (y : (Int32 × (Nat → Nat → Int32))), f_X12_mayGoOn N R a0 a1 I = some y → sm_W l 2 mX12_mayGoOn 0 [(0, .inr (.inl a0)), (1, .inl a1)] [] (I, R) (.inl (some (.inl y.1))) (y.2, R) := by
  intro a0 a1 I y h
  unfold f_X12_mayGoOn at h
  refine sm_aload_n (q := 1) dX12_mayGoOn_0 rfl rfl 0 rfl ?_
  refine sm_iload_n (q := 2) dX12_mayGoOn_1 rfl rfl 1 rfl ?_
  obtain ⟨hc1, h⟩ := sm_gd_e h
  obtain ⟨p2, hc_p2, h⟩ := sm_bd_e h
  refine sm_callVi (q := 5) (As := [.inl a1]) (S := []) (e_X12_isDone hc_p2) mv_X12_313 hc1 rfl (by decide) (Nat.le_of_ble_eq_true rfl) dX12_mayGoOn_2 rfl ?_
  rcases sm_if_e h with ⟨hb3, h⟩ | ⟨hb3, h⟩
  · refine sm_if_ne (tgt := 26) (q := 8) dX12_mayGoOn_5 (by decide) rfl (fun hn => absurd hb3 hn) (fun _ => ?_)
    refine sm_aload_n (q := 9) dX12_mayGoOn_8 rfl rfl 0 rfl ?_
    refine sm_getR (r := R a0 25) (q := 12) dX12_mayGoOn_9 rfl fk_X12_76 hc1 (by decide) (by decide) rfl ?_
    refine sm_iload_n (q := 13) dX12_mayGoOn_12 rfl rfl 1 rfl ?_
    obtain ⟨hc4, h⟩ := sm_gd_e h
    refine sm_iald (n := (sm_kd (R a0 25)).2) (q := 14) dX12_mayGoOn_13 rfl (Prod.ext hc4.1 rfl) hc4.2 ?_
    refine sm_aload_n (q := 15) dX12_mayGoOn_14 rfl rfl 0 rfl ?_
    refine sm_iload_n (q := 16) dX12_mayGoOn_15 rfl rfl 1 rfl ?_
    obtain ⟨p5, hc_p5, h⟩ := sm_bd_e h
    refine sm_callVi (q := 19) (As := [.inl a1]) (S := [.inl (p2.2 (R a0 25) (a1).toNatClampNeg)]) (e_X12_nextHard hc_p5) mv_X12_319 hc1 rfl (by decide) (Nat.le_of_ble_eq_true rfl) dX12_mayGoOn_16 rfl ?_
    rcases sm_if_e h with ⟨hb6, h⟩ | ⟨hb6, h⟩
    · refine sm_icmp_lt (tgt := 26) (q := 22) dX12_mayGoOn_19 (by decide) rfl (fun _ => ?_) (fun hn => absurd hb6 hn)
      refine sm_iconst (v := 0) (q := 27) dX12_mayGoOn_26 rfl (by decide) ?_
      obtain rfl := Option.some.inj h
      exact sm_zret dX12_mayGoOn_27 rfl (by decide)
    · refine sm_icmp_lt (tgt := 26) (q := 22) dX12_mayGoOn_19 (by decide) rfl (fun ht => absurd ht hb6) (fun _ => ?_)
      refine sm_iconst (v := 1) (q := 23) dX12_mayGoOn_22 rfl (by decide) ?_
      refine sm_goto (q := 27) dX12_mayGoOn_23 (by decide) ?_
      obtain rfl := Option.some.inj h
      exact sm_zret dX12_mayGoOn_27 rfl (by decide)
  · refine sm_if_ne (tgt := 26) (q := 8) dX12_mayGoOn_5 (by decide) rfl (fun _ => ?_) (fun he => absurd he hb3)
    refine sm_iconst (v := 0) (q := 27) dX12_mayGoOn_26 rfl (by decide) ?_
    obtain rfl := Option.some.inj h
    exact sm_zret dX12_mayGoOn_27 rfl (by decide)
theorem e_X12_mayGoOn {l : Launch} {N : Nat} {R : Nat → Nat → Nat} {a0 : Nat} {a1 : Int32} {I : (Nat → Nat → Int32)} {y : (Int32 × (Nat → Nat → Int32))} (h : f_X12_mayGoOn N R a0 a1 I = some y) : sm_E l 2 mX12_mayGoOn [.inr (.inl a0), .inl a1] (I, R) (.inl (some (.inl y.1))) (y.2, R) :=
  sm_meth (by decide) (Nat.le_of_ble_eq_true rfl) (w_X12_mayGoOn N R a0 a1 I y h)
def f_X12_lesson_18 (N : Nat) (R : Nat → Nat → Nat) : Nat → Nat → Int32 → (Nat → Nat → Int32) → Option (Unit × (Nat → Nat → Int32))
  | 0, _, _, _ => none
  | n + 1, a0, a1, I =>
    sm_gd (sm_kd a0 = (12, 59)) <|
    sm_gd ((sm_kd (R a0 27)).1 = 13 ∧ ¬ (a1 < 0 ∨ (sm_kd (R a0 27)).2 ≤ (a1).toNatClampNeg)) <|
    sm_gd ((sm_kd (R a0 5)).1 = 13 ∧ ¬ ((I (R a0 27) (a1).toNatClampNeg) < 0 ∨ (sm_kd (R a0 5)).2 ≤ ((I (R a0 27) (a1).toNatClampNeg)).toNatClampNeg)) <|
    if (I (R a0 5) ((I (R a0 27) (a1).toNatClampNeg)).toNatClampNeg) = (1 : Int32) then (
      (f_X12_mayGoOn N R a0 a1 I).bind fun p5 =>
      if p5.1 = 0 then (
        some ((), p5.2))
      else (
        sm_gd ((sm_kd (R a0 28)).1 = 13 ∧ ¬ (a1 < 0 ∨ (sm_kd (R a0 28)).2 ≤ (a1).toNatClampNeg)) <|
        sm_lt (sm_up p5.2 (R a0 28) (sm_up (p5.2 (R a0 28)) (a1).toNatClampNeg ((p5.2 (R a0 28) (a1).toNatClampNeg) + (1 : Int32)))) fun I8 =>
        f_X12_lesson_18 N R n a0 a1 I8))
    else (
      some ((), I))
def f_X12_lesson (N : Nat) (R : Nat → Nat → Nat) : Nat → Int32 → (Nat → Nat → Int32) → Option (Unit × (Nat → Nat → Int32)) := fun a0 a1 I =>
  sm_gd (sm_kd a0 = (12, 59)) <|
  (f_X12_mayGoOn N R a0 a1 I).bind fun p2 =>
  if p2.1 = 0 then (
    f_X12_lesson_18 N R N a0 a1 p2.2)
  else (
    sm_gd ((sm_kd (R a0 28)).1 = 13 ∧ ¬ (a1 < 0 ∨ (sm_kd (R a0 28)).2 ≤ (a1).toNatClampNeg)) <|
    sm_lt (sm_up p2.2 (R a0 28) (sm_up (p2.2 (R a0 28)) (a1).toNatClampNeg ((p2.2 (R a0 28) (a1).toNatClampNeg) + (1 : Int32)))) fun I5 =>
    f_X12_lesson_18 N R N a0 a1 I5)
set_option maxHeartbeats 4000000 in
set_option maxRecDepth 100000 in
theorem w_X12_lesson_18 {l : Launch} (N : Nat) (R : Nat → Nat → Nat) : ∀ (n : Nat) (a0 : Nat) (a1 : Int32) (I : (Nat → Nat → Int32)) (y : (Unit × (Nat → Nat → Int32))), f_X12_lesson_18 N R n a0 a1 I = some y → sm_W l 3 mX12_lesson 18 [(0, .inr (.inl a0)), (1, .inl a1)] [] (I, R) (.inl none) (y.2, R) := by
  intro n
  induction n with
  | zero => intro a0 a1 I y h; cases h
  | succ n ih =>
    intro a0 a1 I y h
    rw [f_X12_lesson_18] at h
    refine sm_aload_n (q := 19) dX12_lesson_18 rfl rfl 0 rfl ?_
    obtain ⟨hc1, h⟩ := sm_gd_e h
    refine sm_getR (r := R a0 5) (q := 22) dX12_lesson_19 rfl fk_X12_45 hc1 (by decide) (by decide) rfl ?_
    refine sm_aload_n (q := 23) dX12_lesson_22 rfl rfl 0 rfl ?_
    refine sm_getR (r := R a0 27) (q := 26) dX12_lesson_23 rfl fk_X12_82 hc1 (by decide) (by decide) rfl ?_
    refine sm_iload_n (q := 27) dX12_lesson_26 rfl rfl 1 rfl ?_
    obtain ⟨hc2, h⟩ := sm_gd_e h
    refine sm_iald (n := (sm_kd (R a0 27)).2) (q := 28) dX12_lesson_27 rfl (Prod.ext hc2.1 rfl) hc2.2 ?_
    obtain ⟨hc3, h⟩ := sm_gd_e h
    refine sm_iald (n := (sm_kd (R a0 5)).2) (q := 29) dX12_lesson_28 rfl (Prod.ext hc3.1 rfl) hc3.2 ?_
    refine sm_iconst (v := 1) (q := 30) dX12_lesson_29 rfl (by decide) ?_
    rcases sm_if_e h with ⟨hb4, h⟩ | ⟨hb4, h⟩
    · refine sm_icmp_ne (tgt := 54) (q := 33) dX12_lesson_30 (by decide) rfl (fun hn => absurd hb4 hn) (fun _ => ?_)
      refine sm_aload_n (q := 34) dX12_lesson_33 rfl rfl 0 rfl ?_
      refine sm_iload_n (q := 35) dX12_lesson_34 rfl rfl 1 rfl ?_
      obtain ⟨p5, hc_p5, h⟩ := sm_bd_e h
      refine sm_callVi (q := 38) (As := [.inl a1]) (S := []) (e_X12_mayGoOn hc_p5) mv_X12_334 hc1 rfl (by decide) (Nat.le_of_ble_eq_true rfl) dX12_lesson_35 rfl ?_
      rcases sm_if_e h with ⟨hb6, h⟩ | ⟨hb6, h⟩
      · refine sm_if_eq (tgt := 54) (q := 41) dX12_lesson_38 (by decide) rfl (fun _ => ?_) (fun hn => absurd hb6 hn)
        obtain rfl := Option.some.inj h
        exact sm_vret dX12_lesson_54 rfl
      · refine sm_if_eq (tgt := 54) (q := 41) dX12_lesson_38 (by decide) rfl (fun ht => absurd ht hb6) (fun _ => ?_)
        refine sm_aload_n (q := 42) dX12_lesson_41 rfl rfl 0 rfl ?_
        refine sm_getR (r := R a0 28) (q := 45) dX12_lesson_42 rfl fk_X12_85 hc1 (by decide) (by decide) rfl ?_
        refine sm_iload_n (q := 46) dX12_lesson_45 rfl rfl 1 rfl ?_
        refine sm_dup2 (q := 47) dX12_lesson_46 rfl rfl rfl ?_
        obtain ⟨hc7, h⟩ := sm_gd_e h
        refine sm_iald (n := (sm_kd (R a0 28)).2) (q := 48) dX12_lesson_47 rfl (Prod.ext hc7.1 rfl) hc7.2 ?_
        refine sm_iconst (v := 1) (q := 49) dX12_lesson_48 rfl (by decide) ?_
        refine sm_iadd (q := 50) dX12_lesson_49 rfl ?_
        obtain ⟨I8, hI8, h⟩ := sm_lt_e h
        refine sm_iast (n := (sm_kd (R a0 28)).2) (q := 51) dX12_lesson_50 rfl (Prod.ext hc7.1 rfl) hc7.2 ?_
        refine sm_memI hI8 ?_
        refine sm_goto (q := 18) dX12_lesson_51 (by decide) ?_
        refine sm_pick [0, 1] rfl ?_
        exact ih _ _ _ _ h
    · refine sm_icmp_ne (tgt := 54) (q := 33) dX12_lesson_30 (by decide) rfl (fun _ => ?_) (fun he => absurd he hb4)
      obtain rfl := Option.some.inj h
      exact sm_vret dX12_lesson_54 rfl
set_option maxHeartbeats 4000000 in
set_option maxRecDepth 100000 in
theorem w_X12_lesson {l : Launch} (N : Nat) (R : Nat → Nat → Nat) : ∀ (a0 : Nat) (a1 : Int32) (I : (Nat → Nat → Int32)) (y : (Unit × (Nat → Nat → Int32))), f_X12_lesson N R a0 a1 I = some y → sm_W l 3 mX12_lesson 0 [(0, .inr (.inl a0)), (1, .inl a1)] [] (I, R) (.inl none) (y.2, R) := by
  intro a0 a1 I y h
  unfold f_X12_lesson at h
  refine sm_aload_n (q := 1) dX12_lesson_0 rfl rfl 0 rfl ?_
  refine sm_iload_n (q := 2) dX12_lesson_1 rfl rfl 1 rfl ?_
  obtain ⟨hc1, h⟩ := sm_gd_e h
  obtain ⟨p2, hc_p2, h⟩ := sm_bd_e h
  refine sm_callVi (q := 5) (As := [.inl a1]) (S := []) (e_X12_mayGoOn hc_p2) mv_X12_334 hc1 rfl (by decide) (Nat.le_of_ble_eq_true rfl) dX12_lesson_2 rfl ?_
  rcases sm_if_e h with ⟨hb3, h⟩ | ⟨hb3, h⟩
  · refine sm_if_eq (tgt := 18) (q := 8) dX12_lesson_5 (by decide) rfl (fun _ => ?_) (fun hn => absurd hb3 hn)
    refine sm_pick [0, 1] rfl ?_
    exact w_X12_lesson_18 N R N _ _ _ _ h
  · refine sm_if_eq (tgt := 18) (q := 8) dX12_lesson_5 (by decide) rfl (fun ht => absurd ht hb3) (fun _ => ?_)
    refine sm_aload_n (q := 9) dX12_lesson_8 rfl rfl 0 rfl ?_
    refine sm_getR (r := R a0 28) (q := 12) dX12_lesson_9 rfl fk_X12_85 hc1 (by decide) (by decide) rfl ?_
    refine sm_iload_n (q := 13) dX12_lesson_12 rfl rfl 1 rfl ?_
    refine sm_dup2 (q := 14) dX12_lesson_13 rfl rfl rfl ?_
    obtain ⟨hc4, h⟩ := sm_gd_e h
    refine sm_iald (n := (sm_kd (R a0 28)).2) (q := 15) dX12_lesson_14 rfl (Prod.ext hc4.1 rfl) hc4.2 ?_
    refine sm_iconst (v := 1) (q := 16) dX12_lesson_15 rfl (by decide) ?_
    refine sm_iadd (q := 17) dX12_lesson_16 rfl ?_
    obtain ⟨I5, hI5, h⟩ := sm_lt_e h
    refine sm_iast (n := (sm_kd (R a0 28)).2) (q := 18) dX12_lesson_17 rfl (Prod.ext hc4.1 rfl) hc4.2 ?_
    refine sm_memI hI5 ?_
    refine sm_pick [0, 1] rfl ?_
    exact w_X12_lesson_18 N R N _ _ _ _ h
theorem e_X12_lesson {l : Launch} {N : Nat} {R : Nat → Nat → Nat} {a0 : Nat} {a1 : Int32} {I : (Nat → Nat → Int32)} {y : (Unit × (Nat → Nat → Int32))} (h : f_X12_lesson N R a0 a1 I = some y) : sm_E l 3 mX12_lesson [.inr (.inl a0), .inl a1] (I, R) (.inl none) (y.2, R) :=
  sm_meth (by decide) (Nat.le_of_ble_eq_true rfl) (w_X12_lesson N R a0 a1 I y h)
def f_X12_aWeek_2 (N : Nat) (R : Nat → Nat → Nat) : Nat → Nat → Int32 → (Nat → Nat → Int32) → Option (Unit × (Nat → Nat → Int32))
  | 0, _, _, _ => none
  | n + 1, a0, a1, I =>
    sm_gd (sm_kd a0 = (12, 59)) <|
    sm_gd ((sm_kd (R a0 4)).1 = 13 ∧ ¬ ((1 : Int32) < 0 ∨ (sm_kd (R a0 4)).2 ≤ ((1 : Int32)).toNatClampNeg)) <|
    if (I (R a0 4) ((1 : Int32)).toNatClampNeg) ≤ a1 then (
      sm_lt (sm_up I a0 (sm_up (I a0) 31 ((I a0 31) + (1 : Int32)))) fun I4 =>
      some ((), I4))
    else (
      sm_gd ((sm_kd (R a0 29)).1 = 13 ∧ ¬ (a1 < 0 ∨ (sm_kd (R a0 29)).2 ≤ (a1).toNatClampNeg)) <|
      (f_X12_isOf N R (I (R a0 29) (a1).toNatClampNeg) (0 : Int32) I).bind fun p6 =>
      if p6.1 = 0 then (
        (f_X12_practise N R a0 a1 p6.2).bind fun p8 =>
        (f_X12_lesson N R a0 a1 p8.2).bind fun p9 =>
        sm_gd ((sm_kd (R a0 26)).1 = 13 ∧ ¬ (a1 < 0 ∨ (sm_kd (R a0 26)).2 ≤ (a1).toNatClampNeg)) <|
        sm_lt (sm_up p9.2 (R a0 26) (sm_up (p9.2 (R a0 26)) (a1).toNatClampNeg (sm_mx (0 : Int32) ((p9.2 (R a0 26) (a1).toNatClampNeg) - (1 : Int32))))) fun I11 =>
        sm_lt (sm_up I11 (R a0 29) (sm_up (I11 (R a0 29)) (a1).toNatClampNeg ((I11 (R a0 29) (a1).toNatClampNeg) >>> ((1 : Int32) &&& 31)))) fun I12 =>
        f_X12_aWeek_2 N R n a0 (a1 + 1) I12)
      else (
        sm_lt (sm_up p6.2 (R a0 29) (sm_up (p6.2 (R a0 29)) (a1).toNatClampNeg ((p6.2 (R a0 29) (a1).toNatClampNeg) >>> ((1 : Int32) &&& 31)))) fun I13 =>
        f_X12_aWeek_2 N R n a0 (a1 + 1) I13))
def f_X12_aWeek (N : Nat) (R : Nat → Nat → Nat) : Nat → (Nat → Nat → Int32) → Option (Unit × (Nat → Nat → Int32)) := fun a0 I =>
  f_X12_aWeek_2 N R N a0 (0 : Int32) I
set_option maxHeartbeats 4000000 in
set_option maxRecDepth 100000 in
theorem w_X12_aWeek_2 {l : Launch} (N : Nat) (R : Nat → Nat → Nat) : ∀ (n : Nat) (a0 : Nat) (a1 : Int32) (I : (Nat → Nat → Int32)) (y : (Unit × (Nat → Nat → Int32))), f_X12_aWeek_2 N R n a0 a1 I = some y → sm_W l 4 mX12_aWeek 2 [(0, .inr (.inl a0)), (1, .inl a1)] [] (I, R) (.inl none) (y.2, R) := by
  intro n
  induction n with
  | zero => intro a0 a1 I y h; cases h
  | succ n ih =>
    intro a0 a1 I y h
    rw [f_X12_aWeek_2] at h
    refine sm_iload_n (q := 3) dX12_aWeek_2 rfl rfl 1 rfl ?_
    refine sm_aload_n (q := 4) dX12_aWeek_3 rfl rfl 0 rfl ?_
    obtain ⟨hc1, h⟩ := sm_gd_e h
    refine sm_getR (r := R a0 4) (q := 7) dX12_aWeek_4 rfl fk_X12_41 hc1 (by decide) (by decide) rfl ?_
    refine sm_iconst (v := 1) (q := 8) dX12_aWeek_7 rfl (by decide) ?_
    obtain ⟨hc2, h⟩ := sm_gd_e h
    refine sm_iald (n := (sm_kd (R a0 4)).2) (q := 9) dX12_aWeek_8 rfl (Prod.ext hc2.1 rfl) hc2.2 ?_
    rcases sm_if_e h with ⟨hb3, h⟩ | ⟨hb3, h⟩
    · refine sm_icmp_ge (tgt := 69) (q := 12) dX12_aWeek_9 (by decide) rfl (fun _ => ?_) (fun hn => absurd hb3 hn)
      refine sm_aload_n (q := 70) dX12_aWeek_69 rfl rfl 0 rfl ?_
      refine sm_dup (q := 71) dX12_aWeek_70 rfl rfl ?_
      refine sm_getI (q := 74) dX12_aWeek_71 rfl fk_X12_296 hc1 (by decide) (by decide) ?_
      refine sm_iconst (v := 1) (q := 75) dX12_aWeek_74 rfl (by decide) ?_
      refine sm_iadd (q := 76) dX12_aWeek_75 rfl ?_
      obtain ⟨I4, hI4, h⟩ := sm_lt_e h
      refine sm_putI (q := 79) dX12_aWeek_76 rfl fk_X12_296 hc1 (by decide) (by decide) ?_
      refine sm_memI hI4 ?_
      obtain rfl := Option.some.inj h
      exact sm_vret dX12_aWeek_79 rfl
    · refine sm_icmp_ge (tgt := 69) (q := 12) dX12_aWeek_9 (by decide) rfl (fun ht => absurd ht hb3) (fun _ => ?_)
      refine sm_aload_n (q := 13) dX12_aWeek_12 rfl rfl 0 rfl ?_
      refine sm_getR (r := R a0 29) (q := 16) dX12_aWeek_13 rfl fk_X12_87 hc1 (by decide) (by decide) rfl ?_
      refine sm_iload_n (q := 17) dX12_aWeek_16 rfl rfl 1 rfl ?_
      obtain ⟨hc5, h⟩ := sm_gd_e h
      refine sm_iald (n := (sm_kd (R a0 29)).2) (q := 18) dX12_aWeek_17 rfl (Prod.ext hc5.1 rfl) hc5.2 ?_
      refine sm_iconst (v := 0) (q := 19) dX12_aWeek_18 rfl (by decide) ?_
      obtain ⟨p6, hc_p6, h⟩ := sm_bd_e h
      refine sm_callSi (q := 22) (As := [.inl (I (R a0 29) (a1).toNatClampNeg), .inl (0 : Int32)]) (S := []) (e_X12_isOf hc_p6) ms_X12_337 rfl (by decide) (Nat.le_of_ble_eq_true rfl) dX12_aWeek_19 rfl ?_
      rcases sm_if_e h with ⟨hb7, h⟩ | ⟨hb7, h⟩
      · refine sm_if_ne (tgt := 53) (q := 25) dX12_aWeek_22 (by decide) rfl (fun hn => absurd hb7 hn) (fun _ => ?_)
        refine sm_aload_n (q := 26) dX12_aWeek_25 rfl rfl 0 rfl ?_
        refine sm_iload_n (q := 27) dX12_aWeek_26 rfl rfl 1 rfl ?_
        obtain ⟨p8, hc_p8, h⟩ := sm_bd_e h
        refine sm_callVv (q := 30) (As := [.inl a1]) (S := []) (e_X12_practise hc_p8) mv_X12_340 hc1 rfl (by decide) (Nat.le_of_ble_eq_true rfl) dX12_aWeek_27 rfl ?_
        refine sm_aload_n (q := 31) dX12_aWeek_30 rfl rfl 0 rfl ?_
        refine sm_iload_n (q := 32) dX12_aWeek_31 rfl rfl 1 rfl ?_
        obtain ⟨p9, hc_p9, h⟩ := sm_bd_e h
        refine sm_callVv (q := 35) (As := [.inl a1]) (S := []) (e_X12_lesson hc_p9) mv_X12_343 hc1 rfl (by decide) (Nat.le_of_ble_eq_true rfl) dX12_aWeek_32 rfl ?_
        refine sm_aload_n (q := 36) dX12_aWeek_35 rfl rfl 0 rfl ?_
        refine sm_getR (r := R a0 26) (q := 39) dX12_aWeek_36 rfl fk_X12_79 hc1 (by decide) (by decide) rfl ?_
        refine sm_iload_n (q := 40) dX12_aWeek_39 rfl rfl 1 rfl ?_
        refine sm_iconst (v := 0) (q := 41) dX12_aWeek_40 rfl (by decide) ?_
        refine sm_aload_n (q := 42) dX12_aWeek_41 rfl rfl 0 rfl ?_
        refine sm_getR (r := R a0 26) (q := 45) dX12_aWeek_42 rfl fk_X12_79 hc1 (by decide) (by decide) rfl ?_
        refine sm_iload_n (q := 46) dX12_aWeek_45 rfl rfl 1 rfl ?_
        obtain ⟨hc10, h⟩ := sm_gd_e h
        refine sm_iald (n := (sm_kd (R a0 26)).2) (q := 47) dX12_aWeek_46 rfl (Prod.ext hc10.1 rfl) hc10.2 ?_
        refine sm_iconst (v := 1) (q := 48) dX12_aWeek_47 rfl (by decide) ?_
        refine sm_isub (q := 49) dX12_aWeek_48 rfl ?_
        refine sm_mmx (q := 52) dX12_aWeek_49 rfl mm_X12_328 (Nat.le_of_ble_eq_true rfl) ?_
        obtain ⟨I11, hI11, h⟩ := sm_lt_e h
        refine sm_iast (n := (sm_kd (R a0 26)).2) (q := 53) dX12_aWeek_52 rfl (Prod.ext hc10.1 rfl) hc10.2 ?_
        refine sm_memI hI11 ?_
        refine sm_aload_n (q := 54) dX12_aWeek_53 rfl rfl 0 rfl ?_
        refine sm_getR (r := R a0 29) (q := 57) dX12_aWeek_54 rfl fk_X12_87 hc1 (by decide) (by decide) rfl ?_
        refine sm_iload_n (q := 58) dX12_aWeek_57 rfl rfl 1 rfl ?_
        refine sm_dup2 (q := 59) dX12_aWeek_58 rfl rfl rfl ?_
        refine sm_iald (n := (sm_kd (R a0 29)).2) (q := 60) dX12_aWeek_59 rfl (Prod.ext hc5.1 rfl) hc5.2 ?_
        refine sm_iconst (v := 1) (q := 61) dX12_aWeek_60 rfl (by decide) ?_
        refine sm_ishr (q := 62) dX12_aWeek_61 rfl ?_
        obtain ⟨I12, hI12, h⟩ := sm_lt_e h
        refine sm_iast (n := (sm_kd (R a0 29)).2) (q := 63) dX12_aWeek_62 rfl (Prod.ext hc5.1 rfl) hc5.2 ?_
        refine sm_memI hI12 ?_
        refine sm_iinc (v := (a1 + 1)) (L' := [(1, .inl (a1 + 1)), (0, .inr (.inl a0))]) (q := 66) dX12_aWeek_63 rfl 1 rfl rfl (by decide) rfl ?_
        refine sm_goto (q := 2) dX12_aWeek_66 (by decide) ?_
        refine sm_pick [1, 0] rfl ?_
        exact ih _ _ _ _ h
      · refine sm_if_ne (tgt := 53) (q := 25) dX12_aWeek_22 (by decide) rfl (fun _ => ?_) (fun he => absurd he hb7)
        refine sm_aload_n (q := 54) dX12_aWeek_53 rfl rfl 0 rfl ?_
        refine sm_getR (r := R a0 29) (q := 57) dX12_aWeek_54 rfl fk_X12_87 hc1 (by decide) (by decide) rfl ?_
        refine sm_iload_n (q := 58) dX12_aWeek_57 rfl rfl 1 rfl ?_
        refine sm_dup2 (q := 59) dX12_aWeek_58 rfl rfl rfl ?_
        refine sm_iald (n := (sm_kd (R a0 29)).2) (q := 60) dX12_aWeek_59 rfl (Prod.ext hc5.1 rfl) hc5.2 ?_
        refine sm_iconst (v := 1) (q := 61) dX12_aWeek_60 rfl (by decide) ?_
        refine sm_ishr (q := 62) dX12_aWeek_61 rfl ?_
        obtain ⟨I13, hI13, h⟩ := sm_lt_e h
        refine sm_iast (n := (sm_kd (R a0 29)).2) (q := 63) dX12_aWeek_62 rfl (Prod.ext hc5.1 rfl) hc5.2 ?_
        refine sm_memI hI13 ?_
        refine sm_iinc (v := (a1 + 1)) (L' := [(1, .inl (a1 + 1)), (0, .inr (.inl a0))]) (q := 66) dX12_aWeek_63 rfl 1 rfl rfl (by decide) rfl ?_
        refine sm_goto (q := 2) dX12_aWeek_66 (by decide) ?_
        refine sm_pick [1, 0] rfl ?_
        exact ih _ _ _ _ h
set_option maxHeartbeats 4000000 in
set_option maxRecDepth 100000 in
theorem w_X12_aWeek {l : Launch} (N : Nat) (R : Nat → Nat → Nat) : ∀ (a0 : Nat) (I : (Nat → Nat → Int32)) (y : (Unit × (Nat → Nat → Int32))), f_X12_aWeek N R a0 I = some y → sm_W l 4 mX12_aWeek 0 [(0, .inr (.inl a0))] [] (I, R) (.inl none) (y.2, R) := by
  intro a0 I y h
  unfold f_X12_aWeek at h
  refine sm_iconst (v := 0) (q := 1) dX12_aWeek_0 rfl (by decide) ?_
  refine sm_istore_n (L' := [(1, .inl (0 : Int32)), (0, .inr (.inl a0))]) (q := 2) dX12_aWeek_1 rfl rfl (by decide) rfl ?_
  refine sm_pick [1, 0] rfl ?_
  exact w_X12_aWeek_2 N R N _ _ _ _ h
theorem e_X12_aWeek {l : Launch} {N : Nat} {R : Nat → Nat → Nat} {a0 : Nat} {I : (Nat → Nat → Int32)} {y : (Unit × (Nat → Nat → Int32))} (h : f_X12_aWeek N R a0 I = some y) : sm_E l 4 mX12_aWeek [.inr (.inl a0)] (I, R) (.inl none) (y.2, R) :=
  sm_meth (by decide) (Nat.le_of_ble_eq_true rfl) (w_X12_aWeek N R a0 I y h)
def f_X12_goOn_2 (N : Nat) (R : Nat → Nat → Nat) : Nat → Nat → Int32 → Int32 → (Nat → Nat → Int32) → Option (Unit × (Nat → Nat → Int32))
  | 0, _, _, _, _ => none
  | n + 1, a0, a1, a2, I =>
    if a1 ≤ a2 then (
      some ((), I))
    else (
      sm_gd (sm_kd a0 = (12, 59)) <|
      (f_X12_aWeek N R a0 I).bind fun p3 =>
      f_X12_goOn_2 N R n a0 a1 (a2 + 1) p3.2)
def f_X12_goOn (N : Nat) (R : Nat → Nat → Nat) : Nat → Int32 → (Nat → Nat → Int32) → Option (Unit × (Nat → Nat → Int32)) := fun a0 a1 I =>
  f_X12_goOn_2 N R N a0 a1 (0 : Int32) I
set_option maxHeartbeats 4000000 in
set_option maxRecDepth 100000 in
theorem w_X12_goOn_2 {l : Launch} (N : Nat) (R : Nat → Nat → Nat) : ∀ (n : Nat) (a0 : Nat) (a1 : Int32) (a2 : Int32) (I : (Nat → Nat → Int32)) (y : (Unit × (Nat → Nat → Int32))), f_X12_goOn_2 N R n a0 a1 a2 I = some y → sm_W l 5 mX12_goOn 2 [(0, .inr (.inl a0)), (1, .inl a1), (2, .inl a2)] [] (I, R) (.inl none) (y.2, R) := by
  intro n
  induction n with
  | zero => intro a0 a1 a2 I y h; cases h
  | succ n ih =>
    intro a0 a1 a2 I y h
    rw [f_X12_goOn_2] at h
    refine sm_iload_n (q := 3) dX12_goOn_2 rfl rfl 2 rfl ?_
    refine sm_iload_n (q := 4) dX12_goOn_3 rfl rfl 1 rfl ?_
    rcases sm_if_e h with ⟨hb1, h⟩ | ⟨hb1, h⟩
    · refine sm_icmp_ge (tgt := 17) (q := 7) dX12_goOn_4 (by decide) rfl (fun _ => ?_) (fun hn => absurd hb1 hn)
      obtain rfl := Option.some.inj h
      exact sm_vret dX12_goOn_17 rfl
    · refine sm_icmp_ge (tgt := 17) (q := 7) dX12_goOn_4 (by decide) rfl (fun ht => absurd ht hb1) (fun _ => ?_)
      refine sm_aload_n (q := 8) dX12_goOn_7 rfl rfl 0 rfl ?_
      obtain ⟨hc2, h⟩ := sm_gd_e h
      obtain ⟨p3, hc_p3, h⟩ := sm_bd_e h
      refine sm_callVv (q := 11) (As := []) (S := []) (e_X12_aWeek hc_p3) mv_X12_346 hc2 rfl (by decide) (Nat.le_of_ble_eq_true rfl) dX12_goOn_8 rfl ?_
      refine sm_iinc (v := (a2 + 1)) (L' := [(2, .inl (a2 + 1)), (0, .inr (.inl a0)), (1, .inl a1)]) (q := 14) dX12_goOn_11 rfl 2 rfl rfl (by decide) rfl ?_
      refine sm_goto (q := 2) dX12_goOn_14 (by decide) ?_
      refine sm_pick [1, 2, 0] rfl ?_
      exact ih _ _ _ _ _ h
set_option maxHeartbeats 4000000 in
set_option maxRecDepth 100000 in
theorem w_X12_goOn {l : Launch} (N : Nat) (R : Nat → Nat → Nat) : ∀ (a0 : Nat) (a1 : Int32) (I : (Nat → Nat → Int32)) (y : (Unit × (Nat → Nat → Int32))), f_X12_goOn N R a0 a1 I = some y → sm_W l 5 mX12_goOn 0 [(0, .inr (.inl a0)), (1, .inl a1)] [] (I, R) (.inl none) (y.2, R) := by
  intro a0 a1 I y h
  unfold f_X12_goOn at h
  refine sm_iconst (v := 0) (q := 1) dX12_goOn_0 rfl (by decide) ?_
  refine sm_istore_n (L' := [(2, .inl (0 : Int32)), (0, .inr (.inl a0)), (1, .inl a1)]) (q := 2) dX12_goOn_1 rfl rfl (by decide) rfl ?_
  refine sm_pick [1, 2, 0] rfl ?_
  exact w_X12_goOn_2 N R N _ _ _ _ _ h
theorem e_X12_goOn {l : Launch} {N : Nat} {R : Nat → Nat → Nat} {a0 : Nat} {a1 : Int32} {I : (Nat → Nat → Int32)} {y : (Unit × (Nat → Nat → Int32))} (h : f_X12_goOn N R a0 a1 I = some y) : sm_E l 5 mX12_goOn [.inr (.inl a0), .inl a1] (I, R) (.inl none) (y.2, R) :=
  sm_meth (by decide) (Nat.le_of_ble_eq_true rfl) (w_X12_goOn N R a0 a1 I y h)
def f_X12_awayIn_4 (N : Nat) (R : Nat → Nat → Nat) : Nat → Nat → Int32 → Int32 → Int32 → (Nat → Nat → Int32) → Option (Int32 × (Nat → Nat → Int32))
  | 0, _, _, _, _, _ => none
  | n + 1, a0, a1, a2, a3, I =>
    sm_gd (sm_kd a0 = (12, 59)) <|
    sm_gd ((sm_kd (R a0 4)).1 = 13 ∧ ¬ ((1 : Int32) < 0 ∨ (sm_kd (R a0 4)).2 ≤ ((1 : Int32)).toNatClampNeg)) <|
    if (I (R a0 4) ((1 : Int32)).toNatClampNeg) ≤ a3 then (
      some (a2, I))
    else (
      sm_gd ((sm_kd (R a0 29)).1 = 13 ∧ ¬ (a3 < 0 ∨ (sm_kd (R a0 29)).2 ≤ (a3).toNatClampNeg)) <|
      (f_X12_isOf N R (I (R a0 29) (a3).toNatClampNeg) (a1 - (1 : Int32)) I).bind fun p5 =>
      if p5.1 = 0 then (
        f_X12_awayIn_4 N R n a0 a1 (a2 ||| (0 : Int32)) (a3 + 1) p5.2)
      else (
        f_X12_awayIn_4 N R n a0 a1 (a2 ||| ((1 : Int32) <<< (a3 &&& 31))) (a3 + 1) p5.2))
def f_X12_awayIn (N : Nat) (R : Nat → Nat → Nat) : Nat → Int32 → (Nat → Nat → Int32) → Option (Int32 × (Nat → Nat → Int32)) := fun a0 a1 I =>
  f_X12_awayIn_4 N R N a0 a1 (0 : Int32) (0 : Int32) I
set_option maxHeartbeats 4000000 in
set_option maxRecDepth 100000 in
theorem w_X12_awayIn_4 {l : Launch} (N : Nat) (R : Nat → Nat → Nat) : ∀ (n : Nat) (a0 : Nat) (a1 : Int32) (a2 : Int32) (a3 : Int32) (I : (Nat → Nat → Int32)) (y : (Int32 × (Nat → Nat → Int32))), f_X12_awayIn_4 N R n a0 a1 a2 a3 I = some y → sm_W l 1 mX12_awayIn 4 [(0, .inr (.inl a0)), (1, .inl a1), (2, .inl a2), (3, .inl a3)] [] (I, R) (.inl (some (.inl y.1))) (y.2, R) := by
  intro n
  induction n with
  | zero => intro a0 a1 a2 a3 I y h; cases h
  | succ n ih =>
    intro a0 a1 a2 a3 I y h
    rw [f_X12_awayIn_4] at h
    refine sm_iload_n (q := 5) dX12_awayIn_4 rfl rfl 3 rfl ?_
    refine sm_aload_n (q := 6) dX12_awayIn_5 rfl rfl 0 rfl ?_
    obtain ⟨hc1, h⟩ := sm_gd_e h
    refine sm_getR (r := R a0 4) (q := 9) dX12_awayIn_6 rfl fk_X12_41 hc1 (by decide) (by decide) rfl ?_
    refine sm_iconst (v := 1) (q := 10) dX12_awayIn_9 rfl (by decide) ?_
    obtain ⟨hc2, h⟩ := sm_gd_e h
    refine sm_iald (n := (sm_kd (R a0 4)).2) (q := 11) dX12_awayIn_10 rfl (Prod.ext hc2.1 rfl) hc2.2 ?_
    rcases sm_if_e h with ⟨hb3, h⟩ | ⟨hb3, h⟩
    · refine sm_icmp_ge (tgt := 45) (q := 14) dX12_awayIn_11 (by decide) rfl (fun _ => ?_) (fun hn => absurd hb3 hn)
      refine sm_iload_n (q := 46) dX12_awayIn_45 rfl rfl 2 rfl ?_
      obtain rfl := Option.some.inj h
      exact sm_iret dX12_awayIn_46 rfl
    · refine sm_icmp_ge (tgt := 45) (q := 14) dX12_awayIn_11 (by decide) rfl (fun ht => absurd ht hb3) (fun _ => ?_)
      refine sm_iload_n (q := 15) dX12_awayIn_14 rfl rfl 2 rfl ?_
      refine sm_aload_n (q := 16) dX12_awayIn_15 rfl rfl 0 rfl ?_
      refine sm_getR (r := R a0 29) (q := 19) dX12_awayIn_16 rfl fk_X12_87 hc1 (by decide) (by decide) rfl ?_
      refine sm_iload_n (q := 20) dX12_awayIn_19 rfl rfl 3 rfl ?_
      obtain ⟨hc4, h⟩ := sm_gd_e h
      refine sm_iald (n := (sm_kd (R a0 29)).2) (q := 21) dX12_awayIn_20 rfl (Prod.ext hc4.1 rfl) hc4.2 ?_
      refine sm_iload_n (q := 22) dX12_awayIn_21 rfl rfl 1 rfl ?_
      refine sm_iconst (v := 1) (q := 23) dX12_awayIn_22 rfl (by decide) ?_
      refine sm_isub (q := 24) dX12_awayIn_23 rfl ?_
      obtain ⟨p5, hc_p5, h⟩ := sm_bd_e h
      refine sm_callSi (q := 27) (As := [.inl (I (R a0 29) (a3).toNatClampNeg), .inl (a1 - (1 : Int32))]) (S := [.inl a2]) (e_X12_isOf hc_p5) ms_X12_337 rfl (by decide) (Nat.le_of_ble_eq_true rfl) dX12_awayIn_24 rfl ?_
      rcases sm_if_e h with ⟨hb6, h⟩ | ⟨hb6, h⟩
      · refine sm_if_eq (tgt := 36) (q := 30) dX12_awayIn_27 (by decide) rfl (fun _ => ?_) (fun hn => absurd hb6 hn)
        refine sm_iconst (v := 0) (q := 37) dX12_awayIn_36 rfl (by decide) ?_
        refine sm_ior (q := 38) dX12_awayIn_37 rfl ?_
        refine sm_istore_n (L' := [(2, .inl (a2 ||| (0 : Int32))), (0, .inr (.inl a0)), (1, .inl a1), (3, .inl a3)]) (q := 39) dX12_awayIn_38 rfl rfl (by decide) rfl ?_
        refine sm_iinc (v := (a3 + 1)) (L' := [(3, .inl (a3 + 1)), (2, .inl (a2 ||| (0 : Int32))), (0, .inr (.inl a0)), (1, .inl a1)]) (q := 42) dX12_awayIn_39 rfl 3 rfl rfl (by decide) rfl ?_
        refine sm_goto (q := 4) dX12_awayIn_42 (by decide) ?_
        refine sm_pick [2, 3, 1, 0] rfl ?_
        exact ih _ _ _ _ _ _ h
      · refine sm_if_eq (tgt := 36) (q := 30) dX12_awayIn_27 (by decide) rfl (fun ht => absurd ht hb6) (fun _ => ?_)
        refine sm_iconst (v := 1) (q := 31) dX12_awayIn_30 rfl (by decide) ?_
        refine sm_iload_n (q := 32) dX12_awayIn_31 rfl rfl 3 rfl ?_
        refine sm_ishl (q := 33) dX12_awayIn_32 rfl ?_
        refine sm_goto (q := 37) dX12_awayIn_33 (by decide) ?_
        refine sm_ior (q := 38) dX12_awayIn_37 rfl ?_
        refine sm_istore_n (L' := [(2, .inl (a2 ||| ((1 : Int32) <<< (a3 &&& 31)))), (0, .inr (.inl a0)), (1, .inl a1), (3, .inl a3)]) (q := 39) dX12_awayIn_38 rfl rfl (by decide) rfl ?_
        refine sm_iinc (v := (a3 + 1)) (L' := [(3, .inl (a3 + 1)), (2, .inl (a2 ||| ((1 : Int32) <<< (a3 &&& 31)))), (0, .inr (.inl a0)), (1, .inl a1)]) (q := 42) dX12_awayIn_39 rfl 3 rfl rfl (by decide) rfl ?_
        refine sm_goto (q := 4) dX12_awayIn_42 (by decide) ?_
        refine sm_pick [2, 3, 1, 0] rfl ?_
        exact ih _ _ _ _ _ _ h
set_option maxHeartbeats 4000000 in
set_option maxRecDepth 100000 in
theorem w_X12_awayIn {l : Launch} (N : Nat) (R : Nat → Nat → Nat) : ∀ (a0 : Nat) (a1 : Int32) (I : (Nat → Nat → Int32)) (y : (Int32 × (Nat → Nat → Int32))), f_X12_awayIn N R a0 a1 I = some y → sm_W l 1 mX12_awayIn 0 [(0, .inr (.inl a0)), (1, .inl a1)] [] (I, R) (.inl (some (.inl y.1))) (y.2, R) := by
  intro a0 a1 I y h
  unfold f_X12_awayIn at h
  refine sm_iconst (v := 0) (q := 1) dX12_awayIn_0 rfl (by decide) ?_
  refine sm_istore_n (L' := [(2, .inl (0 : Int32)), (0, .inr (.inl a0)), (1, .inl a1)]) (q := 2) dX12_awayIn_1 rfl rfl (by decide) rfl ?_
  refine sm_iconst (v := 0) (q := 3) dX12_awayIn_2 rfl (by decide) ?_
  refine sm_istore_n (L' := [(3, .inl (0 : Int32)), (2, .inl (0 : Int32)), (0, .inr (.inl a0)), (1, .inl a1)]) (q := 4) dX12_awayIn_3 rfl rfl (by decide) rfl ?_
  refine sm_pick [2, 3, 1, 0] rfl ?_
  exact w_X12_awayIn_4 N R N _ _ _ _ _ _ h
theorem e_X12_awayIn {l : Launch} {N : Nat} {R : Nat → Nat → Nat} {a0 : Nat} {a1 : Int32} {I : (Nat → Nat → Int32)} {y : (Int32 × (Nat → Nat → Int32))} (h : f_X12_awayIn N R a0 a1 I = some y) : sm_E l 1 mX12_awayIn [.inr (.inl a0), .inl a1] (I, R) (.inl (some (.inl y.1))) (y.2, R) :=
  sm_meth (by decide) (Nat.le_of_ble_eq_true rfl) (w_X12_awayIn N R a0 a1 I y h)
def f_X12_mayGo (N : Nat) (R : Nat → Nat → Nat) : Nat → Int32 → Int32 → (Nat → Nat → Int32) → Option (Int32 × (Nat → Nat → Int32)) := fun a0 a1 a2 I =>
  (f_X12_isIn N R (Int32.toInt64 a2) (1 : Int64) (30 : Int64) I).bind fun p1 =>
  if p1.1 = 0 then (
    some ((0 : Int32), p1.2))
  else (
    sm_gd (sm_kd a0 = (12, 59)) <|
    sm_gd ((sm_kd (R a0 29)).1 = 13 ∧ ¬ (a1 < 0 ∨ (sm_kd (R a0 29)).2 ≤ (a1).toNatClampNeg)) <|
    (f_X12_isOf N R (p1.2 (R a0 29) (a1).toNatClampNeg) (a2 - (1 : Int32)) p1.2).bind fun p5 =>
    if p5.1 = 0 then (
      (f_X12_awayIn N R a0 a2 p5.2).bind fun p7 =>
      (f_X12_bitsOf N R p7.1 p7.2).bind fun p8 =>
      if (p8.2 a0 32) ≤ p8.1 then (
        some ((0 : Int32), p8.2))
      else (
        some ((1 : Int32), p8.2)))
    else (
      some ((0 : Int32), p5.2)))
set_option maxHeartbeats 4000000 in
set_option maxRecDepth 100000 in
theorem w_X12_mayGo {l : Launch} (N : Nat) (R : Nat → Nat → Nat) : ∀ (a0 : Nat) (a1 : Int32) (a2 : Int32) (I : (Nat → Nat → Int32)) (y : (Int32 × (Nat → Nat → Int32))), f_X12_mayGo N R a0 a1 a2 I = some y → sm_W l 2 mX12_mayGo 0 [(0, .inr (.inl a0)), (1, .inl a1), (2, .inl a2)] [] (I, R) (.inl (some (.inl y.1))) (y.2, R) := by
  intro a0 a1 a2 I y h
  unfold f_X12_mayGo at h
  refine sm_iload_n (q := 1) dX12_mayGo_0 rfl rfl 2 rfl ?_
  refine sm_i2l (v := (Int32.toInt64 a2)) (q := 2) dX12_mayGo_1 rfl rfl ?_
  refine sm_lconst (v := 1) (q := 3) dX12_mayGo_2 rfl (by decide) ?_
  refine sm_ldc2 (q := 6) dX12_mayGo_3 rfl co_X12_349 ?_
  obtain ⟨p1, hc_p1, h⟩ := sm_bd_e h
  refine sm_callSi (q := 9) (As := [.inr (.inr (Int32.toInt64 a2)), .inr (.inr (1 : Int64)), .inr (.inr (30 : Int64))]) (S := []) (e_X12_isIn hc_p1) ms_X12_155 rfl (by decide) (Nat.le_of_ble_eq_true rfl) dX12_mayGo_6 rfl ?_
  rcases sm_if_e h with ⟨hb2, h⟩ | ⟨hb2, h⟩
  · refine sm_if_eq (tgt := 46) (q := 12) dX12_mayGo_9 (by decide) rfl (fun _ => ?_) (fun hn => absurd hb2 hn)
    refine sm_iconst (v := 0) (q := 47) dX12_mayGo_46 rfl (by decide) ?_
    obtain rfl := Option.some.inj h
    exact sm_zret dX12_mayGo_47 rfl (by decide)
  · refine sm_if_eq (tgt := 46) (q := 12) dX12_mayGo_9 (by decide) rfl (fun ht => absurd ht hb2) (fun _ => ?_)
    refine sm_aload_n (q := 13) dX12_mayGo_12 rfl rfl 0 rfl ?_
    obtain ⟨hc3, h⟩ := sm_gd_e h
    refine sm_getR (r := R a0 29) (q := 16) dX12_mayGo_13 rfl fk_X12_87 hc3 (by decide) (by decide) rfl ?_
    refine sm_iload_n (q := 17) dX12_mayGo_16 rfl rfl 1 rfl ?_
    obtain ⟨hc4, h⟩ := sm_gd_e h
    refine sm_iald (n := (sm_kd (R a0 29)).2) (q := 18) dX12_mayGo_17 rfl (Prod.ext hc4.1 rfl) hc4.2 ?_
    refine sm_iload_n (q := 19) dX12_mayGo_18 rfl rfl 2 rfl ?_
    refine sm_iconst (v := 1) (q := 20) dX12_mayGo_19 rfl (by decide) ?_
    refine sm_isub (q := 21) dX12_mayGo_20 rfl ?_
    obtain ⟨p5, hc_p5, h⟩ := sm_bd_e h
    refine sm_callSi (q := 24) (As := [.inl (p1.2 (R a0 29) (a1).toNatClampNeg), .inl (a2 - (1 : Int32))]) (S := []) (e_X12_isOf hc_p5) ms_X12_337 rfl (by decide) (Nat.le_of_ble_eq_true rfl) dX12_mayGo_21 rfl ?_
    rcases sm_if_e h with ⟨hb6, h⟩ | ⟨hb6, h⟩
    · refine sm_if_ne (tgt := 46) (q := 27) dX12_mayGo_24 (by decide) rfl (fun hn => absurd hb6 hn) (fun _ => ?_)
      refine sm_aload_n (q := 28) dX12_mayGo_27 rfl rfl 0 rfl ?_
      refine sm_iload_n (q := 29) dX12_mayGo_28 rfl rfl 2 rfl ?_
      obtain ⟨p7, hc_p7, h⟩ := sm_bd_e h
      refine sm_callVi (q := 32) (As := [.inl a2]) (S := []) (e_X12_awayIn hc_p7) mv_X12_351 hc3 rfl (by decide) (Nat.le_of_ble_eq_true rfl) dX12_mayGo_29 rfl ?_
      obtain ⟨p8, hc_p8, h⟩ := sm_bd_e h
      refine sm_callSi (q := 35) (As := [.inl p7.1]) (S := []) (e_X12_bitsOf hc_p8) ms_X12_322 rfl (by decide) (Nat.le_of_ble_eq_true rfl) dX12_mayGo_32 rfl ?_
      refine sm_aload_n (q := 36) dX12_mayGo_35 rfl rfl 0 rfl ?_
      refine sm_getI (q := 39) dX12_mayGo_36 rfl fk_X12_149 hc3 (by decide) (by decide) ?_
      rcases sm_if_e h with ⟨hb9, h⟩ | ⟨hb9, h⟩
      · refine sm_icmp_ge (tgt := 46) (q := 42) dX12_mayGo_39 (by decide) rfl (fun _ => ?_) (fun hn => absurd hb9 hn)
        refine sm_iconst (v := 0) (q := 47) dX12_mayGo_46 rfl (by decide) ?_
        obtain rfl := Option.some.inj h
        exact sm_zret dX12_mayGo_47 rfl (by decide)
      · refine sm_icmp_ge (tgt := 46) (q := 42) dX12_mayGo_39 (by decide) rfl (fun ht => absurd ht hb9) (fun _ => ?_)
        refine sm_iconst (v := 1) (q := 43) dX12_mayGo_42 rfl (by decide) ?_
        refine sm_goto (q := 47) dX12_mayGo_43 (by decide) ?_
        obtain rfl := Option.some.inj h
        exact sm_zret dX12_mayGo_47 rfl (by decide)
    · refine sm_if_ne (tgt := 46) (q := 27) dX12_mayGo_24 (by decide) rfl (fun _ => ?_) (fun he => absurd he hb6)
      refine sm_iconst (v := 0) (q := 47) dX12_mayGo_46 rfl (by decide) ?_
      obtain rfl := Option.some.inj h
      exact sm_zret dX12_mayGo_47 rfl (by decide)
theorem e_X12_mayGo {l : Launch} {N : Nat} {R : Nat → Nat → Nat} {a0 : Nat} {a1 : Int32} {a2 : Int32} {I : (Nat → Nat → Int32)} {y : (Int32 × (Nat → Nat → Int32))} (h : f_X12_mayGo N R a0 a1 a2 I = some y) : sm_E l 2 mX12_mayGo [.inr (.inl a0), .inl a1, .inl a2] (I, R) (.inl (some (.inl y.1))) (y.2, R) :=
  sm_meth (by decide) (Nat.le_of_ble_eq_true rfl) (w_X12_mayGo N R a0 a1 a2 I y h)
def f_X12_tire (N : Nat) (R : Nat → Nat → Nat) : Nat → Int32 → Int32 → (Nat → Nat → Int32) → Option (Unit × (Nat → Nat → Int32)) := fun a0 a1 a2 I =>
  sm_gd (sm_kd a0 = (12, 59)) <|
  sm_gd ((sm_kd (R a0 26)).1 = 13 ∧ ¬ (a1 < 0 ∨ (sm_kd (R a0 26)).2 ≤ (a1).toNatClampNeg)) <|
  sm_lt (sm_up I (R a0 26) (sm_up (I (R a0 26)) (a1).toNatClampNeg (sm_mn (9 : Int32) ((I (R a0 26) (a1).toNatClampNeg) + a2)))) fun I3 =>
  some ((), I3)
set_option maxHeartbeats 4000000 in
set_option maxRecDepth 100000 in
theorem w_X12_tire {l : Launch} (N : Nat) (R : Nat → Nat → Nat) : ∀ (a0 : Nat) (a1 : Int32) (a2 : Int32) (I : (Nat → Nat → Int32)) (y : (Unit × (Nat → Nat → Int32))), f_X12_tire N R a0 a1 a2 I = some y → sm_W l 0 mX12_tire 0 [(0, .inr (.inl a0)), (1, .inl a1), (2, .inl a2)] [] (I, R) (.inl none) (y.2, R) := by
  intro a0 a1 a2 I y h
  unfold f_X12_tire at h
  refine sm_aload_n (q := 1) dX12_tire_0 rfl rfl 0 rfl ?_
  obtain ⟨hc1, h⟩ := sm_gd_e h
  refine sm_getR (r := R a0 26) (q := 4) dX12_tire_1 rfl fk_X12_79 hc1 (by decide) (by decide) rfl ?_
  refine sm_iload_n (q := 5) dX12_tire_4 rfl rfl 1 rfl ?_
  refine sm_bipush (v := 9) (q := 7) dX12_tire_5 rfl (by decide) ?_
  refine sm_aload_n (q := 8) dX12_tire_7 rfl rfl 0 rfl ?_
  refine sm_getR (r := R a0 26) (q := 11) dX12_tire_8 rfl fk_X12_79 hc1 (by decide) (by decide) rfl ?_
  refine sm_iload_n (q := 12) dX12_tire_11 rfl rfl 1 rfl ?_
  obtain ⟨hc2, h⟩ := sm_gd_e h
  refine sm_iald (n := (sm_kd (R a0 26)).2) (q := 13) dX12_tire_12 rfl (Prod.ext hc2.1 rfl) hc2.2 ?_
  refine sm_iload_n (q := 14) dX12_tire_13 rfl rfl 2 rfl ?_
  refine sm_iadd (q := 15) dX12_tire_14 rfl ?_
  refine sm_mmn (q := 18) dX12_tire_15 rfl mm_X12_189 (Nat.le_of_ble_eq_true rfl) ?_
  obtain ⟨I3, hI3, h⟩ := sm_lt_e h
  refine sm_iast (n := (sm_kd (R a0 26)).2) (q := 19) dX12_tire_18 rfl (Prod.ext hc2.1 rfl) hc2.2 ?_
  refine sm_memI hI3 ?_
  obtain rfl := Option.some.inj h
  exact sm_vret dX12_tire_19 rfl
theorem e_X12_tire {l : Launch} {N : Nat} {R : Nat → Nat → Nat} {a0 : Nat} {a1 : Int32} {a2 : Int32} {I : (Nat → Nat → Int32)} {y : (Unit × (Nat → Nat → Int32))} (h : f_X12_tire N R a0 a1 a2 I = some y) : sm_E l 0 mX12_tire [.inr (.inl a0), .inl a1, .inl a2] (I, R) (.inl none) (y.2, R) :=
  sm_meth (by decide) (Nat.le_of_ble_eq_true rfl) (w_X12_tire N R a0 a1 a2 I y h)
def f_X12_go (N : Nat) (R : Nat → Nat → Nat) : Nat → Int32 → Int32 → (Nat → Nat → Int32) → Option (Unit × (Nat → Nat → Int32)) := fun a0 a1 a2 I =>
  sm_gd (sm_kd a0 = (12, 59)) <|
  (f_X12_practise N R a0 a1 I).bind fun p2 =>
  (f_X12_tire N R a0 a1 (2 : Int32) p2.2).bind fun p3 =>
  sm_gd ((sm_kd (R a0 29)).1 = 13 ∧ ¬ (a1 < 0 ∨ (sm_kd (R a0 29)).2 ≤ (a1).toNatClampNeg)) <|
  sm_lt (sm_up p3.2 (R a0 29) (sm_up (p3.2 (R a0 29)) (a1).toNatClampNeg ((p3.2 (R a0 29) (a1).toNatClampNeg) ||| ((1 : Int32) <<< ((a2 - (1 : Int32)) &&& 31))))) fun I5 =>
  some ((), I5)
set_option maxHeartbeats 4000000 in
set_option maxRecDepth 100000 in
theorem w_X12_go {l : Launch} (N : Nat) (R : Nat → Nat → Nat) : ∀ (a0 : Nat) (a1 : Int32) (a2 : Int32) (I : (Nat → Nat → Int32)) (y : (Unit × (Nat → Nat → Int32))), f_X12_go N R a0 a1 a2 I = some y → sm_W l 4 mX12_go 0 [(0, .inr (.inl a0)), (1, .inl a1), (2, .inl a2)] [] (I, R) (.inl none) (y.2, R) := by
  intro a0 a1 a2 I y h
  unfold f_X12_go at h
  refine sm_aload_n (q := 1) dX12_go_0 rfl rfl 0 rfl ?_
  refine sm_iload_n (q := 2) dX12_go_1 rfl rfl 1 rfl ?_
  obtain ⟨hc1, h⟩ := sm_gd_e h
  obtain ⟨p2, hc_p2, h⟩ := sm_bd_e h
  refine sm_callVv (q := 5) (As := [.inl a1]) (S := []) (e_X12_practise hc_p2) mv_X12_340 hc1 rfl (by decide) (Nat.le_of_ble_eq_true rfl) dX12_go_2 rfl ?_
  refine sm_aload_n (q := 6) dX12_go_5 rfl rfl 0 rfl ?_
  refine sm_iload_n (q := 7) dX12_go_6 rfl rfl 1 rfl ?_
  refine sm_iconst (v := 2) (q := 8) dX12_go_7 rfl (by decide) ?_
  obtain ⟨p3, hc_p3, h⟩ := sm_bd_e h
  refine sm_callVv (q := 11) (As := [.inl a1, .inl (2 : Int32)]) (S := []) (e_X12_tire hc_p3) mv_X12_354 hc1 rfl (by decide) (Nat.le_of_ble_eq_true rfl) dX12_go_8 rfl ?_
  refine sm_aload_n (q := 12) dX12_go_11 rfl rfl 0 rfl ?_
  refine sm_getR (r := R a0 29) (q := 15) dX12_go_12 rfl fk_X12_87 hc1 (by decide) (by decide) rfl ?_
  refine sm_iload_n (q := 16) dX12_go_15 rfl rfl 1 rfl ?_
  refine sm_dup2 (q := 17) dX12_go_16 rfl rfl rfl ?_
  obtain ⟨hc4, h⟩ := sm_gd_e h
  refine sm_iald (n := (sm_kd (R a0 29)).2) (q := 18) dX12_go_17 rfl (Prod.ext hc4.1 rfl) hc4.2 ?_
  refine sm_iconst (v := 1) (q := 19) dX12_go_18 rfl (by decide) ?_
  refine sm_iload_n (q := 20) dX12_go_19 rfl rfl 2 rfl ?_
  refine sm_iconst (v := 1) (q := 21) dX12_go_20 rfl (by decide) ?_
  refine sm_isub (q := 22) dX12_go_21 rfl ?_
  refine sm_ishl (q := 23) dX12_go_22 rfl ?_
  refine sm_ior (q := 24) dX12_go_23 rfl ?_
  obtain ⟨I5, hI5, h⟩ := sm_lt_e h
  refine sm_iast (n := (sm_kd (R a0 29)).2) (q := 25) dX12_go_24 rfl (Prod.ext hc4.1 rfl) hc4.2 ?_
  refine sm_memI hI5 ?_
  obtain rfl := Option.some.inj h
  exact sm_vret dX12_go_25 rfl
theorem e_X12_go {l : Launch} {N : Nat} {R : Nat → Nat → Nat} {a0 : Nat} {a1 : Int32} {a2 : Int32} {I : (Nat → Nat → Int32)} {y : (Unit × (Nat → Nat → Int32))} (h : f_X12_go N R a0 a1 a2 I = some y) : sm_E l 4 mX12_go [.inr (.inl a0), .inl a1, .inl a2] (I, R) (.inl none) (y.2, R) :=
  sm_meth (by decide) (Nat.le_of_ble_eq_true rfl) (w_X12_go N R a0 a1 a2 I y h)
