def f_X0_clear (N : Nat) (R : Nat → Nat → Nat) : Nat → (Nat → Nat → Int32) → Option (Unit × (Nat → Nat → Int32)) := fun a0 I =>
  sm_gd (sm_kd a0 = (0, 3)) <|
  sm_lt (sm_up I a0 (sm_up (I a0) 1 (0 : Int32))) fun I2 =>
  sm_lt (sm_up I2 a0 (sm_up (I2 a0) 2 (0 : Int32))) fun I3 =>
  some ((), I3)
set_option maxHeartbeats 4000000 in
set_option maxRecDepth 100000 in
theorem w_X0_clear {l : Launch} (N : Nat) (R : Nat → Nat → Nat) : ∀ (a0 : Nat) (I : (Nat → Nat → Int32)) (y : (Unit × (Nat → Nat → Int32))), f_X0_clear N R a0 I = some y → sm_W l 0 mX0_clear 0 [(0, .inr (.inl a0))] [] (I, R) (.inl none) (y.2, R) := by
  intro a0 I y h
  unfold f_X0_clear at h
  refine sm_aload_n (q := 1) dX0_clear_0 rfl rfl 0 rfl ?_
  refine sm_iconst (v := 0) (q := 2) dX0_clear_1 rfl (by decide) ?_
  obtain ⟨hc1, h⟩ := sm_gd_e h
  obtain ⟨I2, hI2, h⟩ := sm_lt_e h
  refine sm_putI (q := 5) dX0_clear_2 rfl fk_X0_17 hc1 (by decide) (by decide) ?_
  refine sm_memI hI2 ?_
  refine sm_aload_n (q := 6) dX0_clear_5 rfl rfl 0 rfl ?_
  refine sm_iconst (v := 0) (q := 7) dX0_clear_6 rfl (by decide) ?_
  obtain ⟨I3, hI3, h⟩ := sm_lt_e h
  refine sm_putI (q := 10) dX0_clear_7 rfl fk_X0_21 hc1 (by decide) (by decide) ?_
  refine sm_memI hI3 ?_
  obtain rfl := Option.some.inj h
  exact sm_vret dX0_clear_10 rfl
theorem e_X0_clear {l : Launch} {N : Nat} {R : Nat → Nat → Nat} {a0 : Nat} {I : (Nat → Nat → Int32)} {y : (Unit × (Nat → Nat → Int32))} (h : f_X0_clear N R a0 I = some y) : sm_E l 0 mX0_clear [.inr (.inl a0)] (I, R) (.inl none) (y.2, R) :=
  sm_meth (by decide) (Nat.le_of_ble_eq_true rfl) (w_X0_clear N R a0 I y h)
def f_X0_become (N : Nat) (R : Nat → Nat → Nat) : Nat → Nat → (Nat → Nat → Int32) → Option (Unit × (Nat → Nat → Int32)) := fun a0 a1 I =>
  sm_gd (sm_kd a1 = (0, 3)) <|
  sm_gd (sm_kd a0 = (0, 3)) <|
  sm_gd ((sm_kd (R a0 0)).1 = 13) <|
  sm_gd (((sm_kd (R a1 0)).1 = 13 ∧ (sm_kd (R a0 0)).1 = 13) ∧ (¬ (0 : Int32) < 0 ∧ ¬ (0 : Int32) < 0 ∧ ¬ (Int32.ofNat (sm_kd (R a0 0)).2) < 0) ∧ ((0 : Int32)).toNatClampNeg + ((Int32.ofNat (sm_kd (R a0 0)).2)).toNatClampNeg ≤ (sm_kd (R a1 0)).2 ∧ ((0 : Int32)).toNatClampNeg + ((Int32.ofNat (sm_kd (R a0 0)).2)).toNatClampNeg ≤ (sm_kd (R a0 0)).2) <|
  sm_lt (sm_up I (R a0 0) (va_cpy (I (R a1 0)) (I (R a0 0)) ((0 : Int32)).toNatClampNeg ((0 : Int32)).toNatClampNeg ((Int32.ofNat (sm_kd (R a0 0)).2)).toNatClampNeg)) fun I5 =>
  sm_lt (sm_up I5 a0 (sm_up (I5 a0) 1 (I5 a1 1))) fun I6 =>
  sm_lt (sm_up I6 a0 (sm_up (I6 a0) 2 (I6 a1 2))) fun I7 =>
  some ((), I7)
set_option maxHeartbeats 4000000 in
set_option maxRecDepth 100000 in
theorem w_X0_become {l : Launch} (N : Nat) (R : Nat → Nat → Nat) : ∀ (a0 : Nat) (a1 : Nat) (I : (Nat → Nat → Int32)) (y : (Unit × (Nat → Nat → Int32))), f_X0_become N R a0 a1 I = some y → sm_W l 0 mX0_become 0 [(0, .inr (.inl a0)), (1, .inr (.inl a1))] [] (I, R) (.inl none) (y.2, R) := by
  intro a0 a1 I y h
  unfold f_X0_become at h
  refine sm_aload_n (q := 1) dX0_become_0 rfl rfl 1 rfl ?_
  obtain ⟨hc1, h⟩ := sm_gd_e h
  refine sm_getR (r := R a1 0) (q := 4) dX0_become_1 rfl fk_X0_11 hc1 (by decide) (by decide) rfl ?_
  refine sm_iconst (v := 0) (q := 5) dX0_become_4 rfl (by decide) ?_
  refine sm_aload_n (q := 6) dX0_become_5 rfl rfl 0 rfl ?_
  obtain ⟨hc2, h⟩ := sm_gd_e h
  refine sm_getR (r := R a0 0) (q := 9) dX0_become_6 rfl fk_X0_11 hc2 (by decide) (by decide) rfl ?_
  refine sm_iconst (v := 0) (q := 10) dX0_become_9 rfl (by decide) ?_
  refine sm_aload_n (q := 11) dX0_become_10 rfl rfl 0 rfl ?_
  refine sm_getR (r := R a0 0) (q := 14) dX0_become_11 rfl fk_X0_11 hc2 (by decide) (by decide) rfl ?_
  obtain ⟨hc3, h⟩ := sm_gd_e h
  refine sm_alenI (t := 0) (v := (Int32.ofNat (sm_kd (R a0 0)).2)) (q := 15) dX0_become_14 rfl (Prod.ext hc3 rfl) (by decide) rfl ?_
  obtain ⟨hc4, h⟩ := sm_gd_e h
  obtain ⟨I5, hI5, h⟩ := sm_lt_e h
  refine sm_copy (q := 18) dX0_become_15 rfl ac_X0_24 (Prod.ext hc4.1.1 rfl) (Prod.ext hc4.1.2 rfl) hc4.2.1.1 hc4.2.1.2.1 hc4.2.1.2.2 hc4.2.2.1 hc4.2.2.2 (Nat.le_of_ble_eq_true rfl) ?_
  refine sm_memI hI5 ?_
  refine sm_aload_n (q := 19) dX0_become_18 rfl rfl 0 rfl ?_
  refine sm_aload_n (q := 20) dX0_become_19 rfl rfl 1 rfl ?_
  refine sm_getI (q := 23) dX0_become_20 rfl fk_X0_17 hc1 (by decide) (by decide) ?_
  obtain ⟨I6, hI6, h⟩ := sm_lt_e h
  refine sm_putI (q := 26) dX0_become_23 rfl fk_X0_17 hc2 (by decide) (by decide) ?_
  refine sm_memI hI6 ?_
  refine sm_aload_n (q := 27) dX0_become_26 rfl rfl 0 rfl ?_
  refine sm_aload_n (q := 28) dX0_become_27 rfl rfl 1 rfl ?_
  refine sm_getI (q := 31) dX0_become_28 rfl fk_X0_21 hc1 (by decide) (by decide) ?_
  obtain ⟨I7, hI7, h⟩ := sm_lt_e h
  refine sm_putI (q := 34) dX0_become_31 rfl fk_X0_21 hc2 (by decide) (by decide) ?_
  refine sm_memI hI7 ?_
  obtain rfl := Option.some.inj h
  exact sm_vret dX0_become_34 rfl
theorem e_X0_become {l : Launch} {N : Nat} {R : Nat → Nat → Nat} {a0 : Nat} {a1 : Nat} {I : (Nat → Nat → Int32)} {y : (Unit × (Nat → Nat → Int32))} (h : f_X0_become N R a0 a1 I = some y) : sm_E l 0 mX0_become [.inr (.inl a0), .inr (.inl a1)] (I, R) (.inl none) (y.2, R) :=
  sm_meth (by decide) (Nat.le_of_ble_eq_true rfl) (w_X0_become N R a0 a1 I y h)
def f_X4_write (N : Nat) (R : Nat → Nat → Nat) : Nat → Nat → Int32 → (Nat → Nat → Int32) → Option (Unit × (Nat → Nat → Int32)) := fun a0 a1 a2 I =>
  if a2 < 0 then (
    some ((), I))
  else (
    sm_gd ((sm_kd a1).1 = 13) <|
    if a2 ≤ ((Int32.ofNat (sm_kd a1).2) - (5 : Int32)) then (
      sm_gd (sm_kd a0 = (4, 6)) <|
      sm_gd ((sm_kd a1).1 = 13 ∧ ¬ (a2 < 0 ∨ (sm_kd a1).2 ≤ (a2).toNatClampNeg)) <|
      sm_lt (sm_up I a1 (sm_up (I a1) (a2).toNatClampNeg (I a0 0))) fun I6 =>
      sm_gd ((sm_kd a1).1 = 13 ∧ ¬ ((a2 + (1 : Int32)) < 0 ∨ (sm_kd a1).2 ≤ ((a2 + (1 : Int32))).toNatClampNeg)) <|
      sm_lt (sm_up I6 a1 (sm_up (I6 a1) ((a2 + (1 : Int32))).toNatClampNeg (I6 a0 1))) fun I8 =>
      sm_gd ((sm_kd a1).1 = 13 ∧ ¬ ((a2 + (2 : Int32)) < 0 ∨ (sm_kd a1).2 ≤ ((a2 + (2 : Int32))).toNatClampNeg)) <|
      sm_lt (sm_up I8 a1 (sm_up (I8 a1) ((a2 + (2 : Int32))).toNatClampNeg (I8 a0 2))) fun I10 =>
      sm_gd ((sm_kd a1).1 = 13 ∧ ¬ ((a2 + (3 : Int32)) < 0 ∨ (sm_kd a1).2 ≤ ((a2 + (3 : Int32))).toNatClampNeg)) <|
      sm_lt (sm_up I10 a1 (sm_up (I10 a1) ((a2 + (3 : Int32))).toNatClampNeg (I10 a0 3))) fun I12 =>
      sm_gd ((sm_kd a1).1 = 13 ∧ ¬ ((a2 + (4 : Int32)) < 0 ∨ (sm_kd a1).2 ≤ ((a2 + (4 : Int32))).toNatClampNeg)) <|
      sm_lt (sm_up I12 a1 (sm_up (I12 a1) ((a2 + (4 : Int32))).toNatClampNeg (I12 a0 4))) fun I14 =>
      some ((), I14))
    else (
      some ((), I)))
set_option maxHeartbeats 4000000 in
set_option maxRecDepth 100000 in
theorem w_X4_write {l : Launch} (N : Nat) (R : Nat → Nat → Nat) : ∀ (a0 : Nat) (a1 : Nat) (a2 : Int32) (I : (Nat → Nat → Int32)) (y : (Unit × (Nat → Nat → Int32))), f_X4_write N R a0 a1 a2 I = some y → sm_W l 0 mX4_write 0 [(0, .inr (.inl a0)), (1, .inr (.inl a1)), (2, .inl a2)] [] (I, R) (.inl none) (y.2, R) := by
  intro a0 a1 a2 I y h
  unfold f_X4_write at h
  refine sm_iload_n (q := 1) dX4_write_0 rfl rfl 2 rfl ?_
  rcases sm_if_e h with ⟨hb1, h⟩ | ⟨hb1, h⟩
  · refine sm_if_lt (tgt := 12) (q := 4) dX4_write_1 (by decide) rfl (fun _ => ?_) (fun hn => absurd hb1 hn)
    obtain rfl := Option.some.inj h
    exact sm_vret dX4_write_12 rfl
  · refine sm_if_lt (tgt := 12) (q := 4) dX4_write_1 (by decide) rfl (fun ht => absurd ht hb1) (fun _ => ?_)
    refine sm_iload_n (q := 5) dX4_write_4 rfl rfl 2 rfl ?_
    refine sm_aload_n (q := 6) dX4_write_5 rfl rfl 1 rfl ?_
    obtain ⟨hc2, h⟩ := sm_gd_e h
    refine sm_alenI (t := 0) (v := (Int32.ofNat (sm_kd a1).2)) (q := 7) dX4_write_6 rfl (Prod.ext hc2 rfl) (by decide) rfl ?_
    refine sm_iconst (v := 5) (q := 8) dX4_write_7 rfl (by decide) ?_
    refine sm_isub (q := 9) dX4_write_8 rfl ?_
    rcases sm_if_e h with ⟨hb3, h⟩ | ⟨hb3, h⟩
    · refine sm_icmp_le (tgt := 13) (q := 12) dX4_write_9 (by decide) rfl (fun _ => ?_) (fun hn => absurd hb3 hn)
      refine sm_aload_n (q := 14) dX4_write_13 rfl rfl 1 rfl ?_
      refine sm_iload_n (q := 15) dX4_write_14 rfl rfl 2 rfl ?_
      refine sm_aload_n (q := 16) dX4_write_15 rfl rfl 0 rfl ?_
      obtain ⟨hc4, h⟩ := sm_gd_e h
      refine sm_getI (q := 19) dX4_write_16 rfl fk_X4_9 hc4 (by decide) (by decide) ?_
      obtain ⟨hc5, h⟩ := sm_gd_e h
      obtain ⟨I6, hI6, h⟩ := sm_lt_e h
      refine sm_iast (n := (sm_kd a1).2) (q := 20) dX4_write_19 rfl (Prod.ext hc5.1 rfl) hc5.2 ?_
      refine sm_memI hI6 ?_
      refine sm_aload_n (q := 21) dX4_write_20 rfl rfl 1 rfl ?_
      refine sm_iload_n (q := 22) dX4_write_21 rfl rfl 2 rfl ?_
      refine sm_iconst (v := 1) (q := 23) dX4_write_22 rfl (by decide) ?_
      refine sm_iadd (q := 24) dX4_write_23 rfl ?_
      refine sm_aload_n (q := 25) dX4_write_24 rfl rfl 0 rfl ?_
      refine sm_getI (q := 28) dX4_write_25 rfl fk_X4_15 hc4 (by decide) (by decide) ?_
      obtain ⟨hc7, h⟩ := sm_gd_e h
      obtain ⟨I8, hI8, h⟩ := sm_lt_e h
      refine sm_iast (n := (sm_kd a1).2) (q := 29) dX4_write_28 rfl (Prod.ext hc7.1 rfl) hc7.2 ?_
      refine sm_memI hI8 ?_
      refine sm_aload_n (q := 30) dX4_write_29 rfl rfl 1 rfl ?_
      refine sm_iload_n (q := 31) dX4_write_30 rfl rfl 2 rfl ?_
      refine sm_iconst (v := 2) (q := 32) dX4_write_31 rfl (by decide) ?_
      refine sm_iadd (q := 33) dX4_write_32 rfl ?_
      refine sm_aload_n (q := 34) dX4_write_33 rfl rfl 0 rfl ?_
      refine sm_getI (q := 37) dX4_write_34 rfl fk_X4_18 hc4 (by decide) (by decide) ?_
      obtain ⟨hc9, h⟩ := sm_gd_e h
      obtain ⟨I10, hI10, h⟩ := sm_lt_e h
      refine sm_iast (n := (sm_kd a1).2) (q := 38) dX4_write_37 rfl (Prod.ext hc9.1 rfl) hc9.2 ?_
      refine sm_memI hI10 ?_
      refine sm_aload_n (q := 39) dX4_write_38 rfl rfl 1 rfl ?_
      refine sm_iload_n (q := 40) dX4_write_39 rfl rfl 2 rfl ?_
      refine sm_iconst (v := 3) (q := 41) dX4_write_40 rfl (by decide) ?_
      refine sm_iadd (q := 42) dX4_write_41 rfl ?_
      refine sm_aload_n (q := 43) dX4_write_42 rfl rfl 0 rfl ?_
      refine sm_getI (q := 46) dX4_write_43 rfl fk_X4_21 hc4 (by decide) (by decide) ?_
      obtain ⟨hc11, h⟩ := sm_gd_e h
      obtain ⟨I12, hI12, h⟩ := sm_lt_e h
      refine sm_iast (n := (sm_kd a1).2) (q := 47) dX4_write_46 rfl (Prod.ext hc11.1 rfl) hc11.2 ?_
      refine sm_memI hI12 ?_
      refine sm_aload_n (q := 48) dX4_write_47 rfl rfl 1 rfl ?_
      refine sm_iload_n (q := 49) dX4_write_48 rfl rfl 2 rfl ?_
      refine sm_iconst (v := 4) (q := 50) dX4_write_49 rfl (by decide) ?_
      refine sm_iadd (q := 51) dX4_write_50 rfl ?_
      refine sm_aload_n (q := 52) dX4_write_51 rfl rfl 0 rfl ?_
      refine sm_getI (q := 55) dX4_write_52 rfl fk_X4_24 hc4 (by decide) (by decide) ?_
      obtain ⟨hc13, h⟩ := sm_gd_e h
      obtain ⟨I14, hI14, h⟩ := sm_lt_e h
      refine sm_iast (n := (sm_kd a1).2) (q := 56) dX4_write_55 rfl (Prod.ext hc13.1 rfl) hc13.2 ?_
      refine sm_memI hI14 ?_
      obtain rfl := Option.some.inj h
      exact sm_vret dX4_write_56 rfl
    · refine sm_icmp_le (tgt := 13) (q := 12) dX4_write_9 (by decide) rfl (fun ht => absurd ht hb3) (fun _ => ?_)
      obtain rfl := Option.some.inj h
      exact sm_vret dX4_write_12 rfl
theorem e_X4_write {l : Launch} {N : Nat} {R : Nat → Nat → Nat} {a0 : Nat} {a1 : Nat} {a2 : Int32} {I : (Nat → Nat → Int32)} {y : (Unit × (Nat → Nat → Int32))} (h : f_X4_write N R a0 a1 a2 I = some y) : sm_E l 0 mX4_write [.inr (.inl a0), .inr (.inl a1), .inl a2] (I, R) (.inl none) (y.2, R) :=
  sm_meth (by decide) (Nat.le_of_ble_eq_true rfl) (w_X4_write N R a0 a1 a2 I y h)
def f_X10_write_32 (N : Nat) (R : Nat → Nat → Nat) : Nat → Nat → Nat → Int32 → Int32 → (Nat → Nat → Int32) → Option (Unit × (Nat → Nat → Int32))
  | 0, _, _, _, _, _ => none
  | n + 1, a0, a1, a2, a3, I =>
    sm_gd (sm_kd a0 = (10, 4)) <|
    if (I a0 1) ≤ a3 then (
      some ((), I))
    else (
      sm_gd ((sm_kd (R a0 0)).1 = 16 ∧ ¬ (a3 < 0 ∨ (sm_kd (R a0 0)).2 ≤ (a3).toNatClampNeg)) <|
      sm_gd (sm_kd (R (R a0 0) (a3).toNatClampNeg) = (4, 6)) <|
      (f_X4_write N R (R (R a0 0) (a3).toNatClampNeg) a1 ((a2 + (2 : Int32)) + (a3 * (5 : Int32))) I).bind fun p5 =>
      f_X10_write_32 N R n a0 a1 a2 (a3 + 1) p5.2)
def f_X10_write (N : Nat) (R : Nat → Nat → Nat) : Nat → Nat → Int32 → (Nat → Nat → Int32) → Option (Unit × (Nat → Nat → Int32)) := fun a0 a1 a2 I =>
  if a2 < 0 then (
    some ((), I))
  else (
    sm_gd ((sm_kd a1).1 = 13) <|
    if a2 ≤ ((Int32.ofNat (sm_kd a1).2) - (37 : Int32)) then (
      sm_gd (sm_kd a0 = (10, 4)) <|
      sm_gd ((sm_kd a1).1 = 13 ∧ ¬ (a2 < 0 ∨ (sm_kd a1).2 ≤ (a2).toNatClampNeg)) <|
      sm_lt (sm_up I a1 (sm_up (I a1) (a2).toNatClampNeg (I a0 2))) fun I6 =>
      sm_gd ((sm_kd a1).1 = 13 ∧ ¬ ((a2 + (1 : Int32)) < 0 ∨ (sm_kd a1).2 ≤ ((a2 + (1 : Int32))).toNatClampNeg)) <|
      sm_lt (sm_up I6 a1 (sm_up (I6 a1) ((a2 + (1 : Int32))).toNatClampNeg (I6 a0 3))) fun I8 =>
      f_X10_write_32 N R N a0 a1 a2 (0 : Int32) I8)
    else (
      some ((), I)))
set_option maxHeartbeats 4000000 in
set_option maxRecDepth 100000 in
theorem w_X10_write_32 {l : Launch} (N : Nat) (R : Nat → Nat → Nat) : ∀ (n : Nat) (a0 : Nat) (a1 : Nat) (a2 : Int32) (a3 : Int32) (I : (Nat → Nat → Int32)) (y : (Unit × (Nat → Nat → Int32))), f_X10_write_32 N R n a0 a1 a2 a3 I = some y → sm_W l 1 mX10_write 32 [(0, .inr (.inl a0)), (1, .inr (.inl a1)), (2, .inl a2), (3, .inl a3)] [] (I, R) (.inl none) (y.2, R) := by
  intro n
  induction n with
  | zero => intro a0 a1 a2 a3 I y h; cases h
  | succ n ih =>
    intro a0 a1 a2 a3 I y h
    rw [f_X10_write_32] at h
    refine sm_iload_n (q := 33) dX10_write_32 rfl rfl 3 rfl ?_
    refine sm_aload_n (q := 34) dX10_write_33 rfl rfl 0 rfl ?_
    obtain ⟨hc1, h⟩ := sm_gd_e h
    refine sm_getI (q := 37) dX10_write_34 rfl fk_X10_22 hc1 (by decide) (by decide) ?_
    rcases sm_if_e h with ⟨hb2, h⟩ | ⟨hb2, h⟩
    · refine sm_icmp_ge (tgt := 63) (q := 40) dX10_write_37 (by decide) rfl (fun _ => ?_) (fun hn => absurd hb2 hn)
      obtain rfl := Option.some.inj h
      exact sm_vret dX10_write_63 rfl
    · refine sm_icmp_ge (tgt := 63) (q := 40) dX10_write_37 (by decide) rfl (fun ht => absurd ht hb2) (fun _ => ?_)
      refine sm_aload_n (q := 41) dX10_write_40 rfl rfl 0 rfl ?_
      refine sm_getR (r := R a0 0) (q := 44) dX10_write_41 rfl fk_X10_11 hc1 (by decide) (by decide) rfl ?_
      refine sm_iload_n (q := 45) dX10_write_44 rfl rfl 3 rfl ?_
      obtain ⟨hc3, h⟩ := sm_gd_e h
      refine sm_aald (t := 3) (n := (sm_kd (R a0 0)).2) (q := 46) dX10_write_45 rfl (Prod.ext hc3.1 rfl) (Or.inl ⟨rfl, rfl⟩) hc3.2 rfl ?_
      refine sm_aload_n (q := 47) dX10_write_46 rfl rfl 1 rfl ?_
      refine sm_iload_n (q := 48) dX10_write_47 rfl rfl 2 rfl ?_
      refine sm_iconst (v := 2) (q := 49) dX10_write_48 rfl (by decide) ?_
      refine sm_iadd (q := 50) dX10_write_49 rfl ?_
      refine sm_iload_n (q := 51) dX10_write_50 rfl rfl 3 rfl ?_
      refine sm_iconst (v := 5) (q := 52) dX10_write_51 rfl (by decide) ?_
      refine sm_imul (q := 53) dX10_write_52 rfl ?_
      refine sm_iadd (q := 54) dX10_write_53 rfl ?_
      obtain ⟨hc4, h⟩ := sm_gd_e h
      obtain ⟨p5, hc_p5, h⟩ := sm_bd_e h
      refine sm_callVv (q := 57) (As := [.inr (.inl a1), .inl ((a2 + (2 : Int32)) + (a3 * (5 : Int32)))]) (S := []) (e_X4_write hc_p5) mv_X10_32 hc4 rfl (by decide) (Nat.le_of_ble_eq_true rfl) dX10_write_54 rfl ?_
      refine sm_iinc (v := (a3 + 1)) (L' := [(3, .inl (a3 + 1)), (0, .inr (.inl a0)), (1, .inr (.inl a1)), (2, .inl a2)]) (q := 60) dX10_write_57 rfl 3 rfl rfl (by decide) rfl ?_
      refine sm_goto (q := 32) dX10_write_60 (by decide) ?_
      refine sm_pick [1, 2, 3, 0] rfl ?_
      exact ih _ _ _ _ _ _ h
set_option maxHeartbeats 4000000 in
set_option maxRecDepth 100000 in
theorem w_X10_write {l : Launch} (N : Nat) (R : Nat → Nat → Nat) : ∀ (a0 : Nat) (a1 : Nat) (a2 : Int32) (I : (Nat → Nat → Int32)) (y : (Unit × (Nat → Nat → Int32))), f_X10_write N R a0 a1 a2 I = some y → sm_W l 1 mX10_write 0 [(0, .inr (.inl a0)), (1, .inr (.inl a1)), (2, .inl a2)] [] (I, R) (.inl none) (y.2, R) := by
  intro a0 a1 a2 I y h
  unfold f_X10_write at h
  refine sm_iload_n (q := 1) dX10_write_0 rfl rfl 2 rfl ?_
  rcases sm_if_e h with ⟨hb1, h⟩ | ⟨hb1, h⟩
  · refine sm_if_lt (tgt := 13) (q := 4) dX10_write_1 (by decide) rfl (fun _ => ?_) (fun hn => absurd hb1 hn)
    obtain rfl := Option.some.inj h
    exact sm_vret dX10_write_13 rfl
  · refine sm_if_lt (tgt := 13) (q := 4) dX10_write_1 (by decide) rfl (fun ht => absurd ht hb1) (fun _ => ?_)
    refine sm_iload_n (q := 5) dX10_write_4 rfl rfl 2 rfl ?_
    refine sm_aload_n (q := 6) dX10_write_5 rfl rfl 1 rfl ?_
    obtain ⟨hc2, h⟩ := sm_gd_e h
    refine sm_alenI (t := 0) (v := (Int32.ofNat (sm_kd a1).2)) (q := 7) dX10_write_6 rfl (Prod.ext hc2 rfl) (by decide) rfl ?_
    refine sm_bipush (v := 37) (q := 9) dX10_write_7 rfl (by decide) ?_
    refine sm_isub (q := 10) dX10_write_9 rfl ?_
    rcases sm_if_e h with ⟨hb3, h⟩ | ⟨hb3, h⟩
    · refine sm_icmp_le (tgt := 14) (q := 13) dX10_write_10 (by decide) rfl (fun _ => ?_) (fun hn => absurd hb3 hn)
      refine sm_aload_n (q := 15) dX10_write_14 rfl rfl 1 rfl ?_
      refine sm_iload_n (q := 16) dX10_write_15 rfl rfl 2 rfl ?_
      refine sm_aload_n (q := 17) dX10_write_16 rfl rfl 0 rfl ?_
      obtain ⟨hc4, h⟩ := sm_gd_e h
      refine sm_getI (q := 20) dX10_write_17 rfl fk_X10_25 hc4 (by decide) (by decide) ?_
      obtain ⟨hc5, h⟩ := sm_gd_e h
      obtain ⟨I6, hI6, h⟩ := sm_lt_e h
      refine sm_iast (n := (sm_kd a1).2) (q := 21) dX10_write_20 rfl (Prod.ext hc5.1 rfl) hc5.2 ?_
      refine sm_memI hI6 ?_
      refine sm_aload_n (q := 22) dX10_write_21 rfl rfl 1 rfl ?_
      refine sm_iload_n (q := 23) dX10_write_22 rfl rfl 2 rfl ?_
      refine sm_iconst (v := 1) (q := 24) dX10_write_23 rfl (by decide) ?_
      refine sm_iadd (q := 25) dX10_write_24 rfl ?_
      refine sm_aload_n (q := 26) dX10_write_25 rfl rfl 0 rfl ?_
      refine sm_getI (q := 29) dX10_write_26 rfl fk_X10_17 hc4 (by decide) (by decide) ?_
      obtain ⟨hc7, h⟩ := sm_gd_e h
      obtain ⟨I8, hI8, h⟩ := sm_lt_e h
      refine sm_iast (n := (sm_kd a1).2) (q := 30) dX10_write_29 rfl (Prod.ext hc7.1 rfl) hc7.2 ?_
      refine sm_memI hI8 ?_
      refine sm_iconst (v := 0) (q := 31) dX10_write_30 rfl (by decide) ?_
      refine sm_istore_n (L' := [(3, .inl (0 : Int32)), (0, .inr (.inl a0)), (1, .inr (.inl a1)), (2, .inl a2)]) (q := 32) dX10_write_31 rfl rfl (by decide) rfl ?_
      refine sm_pick [1, 2, 3, 0] rfl ?_
      exact w_X10_write_32 N R N _ _ _ _ _ _ h
    · refine sm_icmp_le (tgt := 14) (q := 13) dX10_write_10 (by decide) rfl (fun ht => absurd ht hb3) (fun _ => ?_)
      obtain rfl := Option.some.inj h
      exact sm_vret dX10_write_13 rfl
theorem e_X10_write {l : Launch} {N : Nat} {R : Nat → Nat → Nat} {a0 : Nat} {a1 : Nat} {a2 : Int32} {I : (Nat → Nat → Int32)} {y : (Unit × (Nat → Nat → Int32))} (h : f_X10_write N R a0 a1 a2 I = some y) : sm_E l 1 mX10_write [.inr (.inl a0), .inr (.inl a1), .inl a2] (I, R) (.inl none) (y.2, R) :=
  sm_meth (by decide) (Nat.le_of_ble_eq_true rfl) (w_X10_write N R a0 a1 a2 I y h)
def f_X0_keep (N : Nat) (R : Nat → Nat → Nat) : Nat → Nat → (Nat → Nat → Int32) → Option (Unit × (Nat → Nat → Int32)) := fun a0 a1 I =>
  sm_gd (sm_kd a0 = (0, 3)) <|
  sm_gd (sm_kd a1 = (10, 4)) <|
  (f_X10_write N R a1 (R a0 0) ((((I a0 1) + (I a0 2)) - ((I a0 1) + (I a0 2)) / (40 : Int32) * (40 : Int32)) * (37 : Int32)) I).bind fun p3 =>
  if (40 : Int32) ≤ (p3.2 a0 2) then (
    sm_lt (sm_up p3.2 a0 (sm_up (p3.2 a0) 1 (((p3.2 a0 1) + (1 : Int32)) - ((p3.2 a0 1) + (1 : Int32)) / (40 : Int32) * (40 : Int32)))) fun I5 =>
    some ((), I5))
  else (
    sm_lt (sm_up p3.2 a0 (sm_up (p3.2 a0) 2 ((p3.2 a0 2) + (1 : Int32)))) fun I6 =>
    some ((), I6))
set_option maxHeartbeats 4000000 in
set_option maxRecDepth 100000 in
theorem w_X0_keep {l : Launch} (N : Nat) (R : Nat → Nat → Nat) : ∀ (a0 : Nat) (a1 : Nat) (I : (Nat → Nat → Int32)) (y : (Unit × (Nat → Nat → Int32))), f_X0_keep N R a0 a1 I = some y → sm_W l 2 mX0_keep 0 [(0, .inr (.inl a0)), (1, .inr (.inl a1))] [] (I, R) (.inl none) (y.2, R) := by
  intro a0 a1 I y h
  unfold f_X0_keep at h
  refine sm_aload_n (q := 1) dX0_keep_0 rfl rfl 1 rfl ?_
  refine sm_aload_n (q := 2) dX0_keep_1 rfl rfl 0 rfl ?_
  obtain ⟨hc1, h⟩ := sm_gd_e h
  refine sm_getR (r := R a0 0) (q := 5) dX0_keep_2 rfl fk_X0_11 hc1 (by decide) (by decide) rfl ?_
  refine sm_aload_n (q := 6) dX0_keep_5 rfl rfl 0 rfl ?_
  refine sm_getI (q := 9) dX0_keep_6 rfl fk_X0_17 hc1 (by decide) (by decide) ?_
  refine sm_aload_n (q := 10) dX0_keep_9 rfl rfl 0 rfl ?_
  refine sm_getI (q := 13) dX0_keep_10 rfl fk_X0_21 hc1 (by decide) (by decide) ?_
  refine sm_iadd (q := 14) dX0_keep_13 rfl ?_
  refine sm_bipush (v := 40) (q := 16) dX0_keep_14 rfl (by decide) ?_
  refine sm_irem (q := 17) dX0_keep_16 rfl (by decide) ?_
  refine sm_bipush (v := 37) (q := 19) dX0_keep_17 rfl (by decide) ?_
  refine sm_imul (q := 20) dX0_keep_19 rfl ?_
  obtain ⟨hc2, h⟩ := sm_gd_e h
  obtain ⟨p3, hc_p3, h⟩ := sm_bd_e h
  refine sm_callVv (q := 23) (As := [.inr (.inl (R a0 0)), .inl ((((I a0 1) + (I a0 2)) - ((I a0 1) + (I a0 2)) / (40 : Int32) * (40 : Int32)) * (37 : Int32))]) (S := []) (e_X10_write hc_p3) mv_X0_30 hc2 rfl (by decide) (Nat.le_of_ble_eq_true rfl) dX0_keep_20 rfl ?_
  refine sm_aload_n (q := 24) dX0_keep_23 rfl rfl 0 rfl ?_
  refine sm_getI (q := 27) dX0_keep_24 rfl fk_X0_21 hc1 (by decide) (by decide) ?_
  refine sm_bipush (v := 40) (q := 29) dX0_keep_27 rfl (by decide) ?_
  rcases sm_if_e h with ⟨hb4, h⟩ | ⟨hb4, h⟩
  · refine sm_icmp_ge (tgt := 45) (q := 32) dX0_keep_29 (by decide) rfl (fun _ => ?_) (fun hn => absurd hb4 hn)
    refine sm_aload_n (q := 46) dX0_keep_45 rfl rfl 0 rfl ?_
    refine sm_aload_n (q := 47) dX0_keep_46 rfl rfl 0 rfl ?_
    refine sm_getI (q := 50) dX0_keep_47 rfl fk_X0_17 hc1 (by decide) (by decide) ?_
    refine sm_iconst (v := 1) (q := 51) dX0_keep_50 rfl (by decide) ?_
    refine sm_iadd (q := 52) dX0_keep_51 rfl ?_
    refine sm_bipush (v := 40) (q := 54) dX0_keep_52 rfl (by decide) ?_
    refine sm_irem (q := 55) dX0_keep_54 rfl (by decide) ?_
    obtain ⟨I5, hI5, h⟩ := sm_lt_e h
    refine sm_putI (q := 58) dX0_keep_55 rfl fk_X0_17 hc1 (by decide) (by decide) ?_
    refine sm_memI hI5 ?_
    obtain rfl := Option.some.inj h
    exact sm_vret dX0_keep_58 rfl
  · refine sm_icmp_ge (tgt := 45) (q := 32) dX0_keep_29 (by decide) rfl (fun ht => absurd ht hb4) (fun _ => ?_)
    refine sm_aload_n (q := 33) dX0_keep_32 rfl rfl 0 rfl ?_
    refine sm_dup (q := 34) dX0_keep_33 rfl rfl ?_
    refine sm_getI (q := 37) dX0_keep_34 rfl fk_X0_21 hc1 (by decide) (by decide) ?_
    refine sm_iconst (v := 1) (q := 38) dX0_keep_37 rfl (by decide) ?_
    refine sm_iadd (q := 39) dX0_keep_38 rfl ?_
    obtain ⟨I6, hI6, h⟩ := sm_lt_e h
    refine sm_putI (q := 42) dX0_keep_39 rfl fk_X0_21 hc1 (by decide) (by decide) ?_
    refine sm_memI hI6 ?_
    refine sm_goto (q := 58) dX0_keep_42 (by decide) ?_
    obtain rfl := Option.some.inj h
    exact sm_vret dX0_keep_58 rfl
theorem e_X0_keep {l : Launch} {N : Nat} {R : Nat → Nat → Nat} {a0 : Nat} {a1 : Nat} {I : (Nat → Nat → Int32)} {y : (Unit × (Nat → Nat → Int32))} (h : f_X0_keep N R a0 a1 I = some y) : sm_E l 2 mX0_keep [.inr (.inl a0), .inr (.inl a1)] (I, R) (.inl none) (y.2, R) :=
  sm_meth (by decide) (Nat.le_of_ble_eq_true rfl) (w_X0_keep N R a0 a1 I y h)
def f_X4_read (N : Nat) (R : Nat → Nat → Nat) : Nat → Nat → Int32 → (Nat → Nat → Int32) → Option (Unit × (Nat → Nat → Int32)) := fun a0 a1 a2 I =>
  if a2 < 0 then (
    some ((), I))
  else (
    sm_gd ((sm_kd a1).1 = 13) <|
    if a2 ≤ ((Int32.ofNat (sm_kd a1).2) - (5 : Int32)) then (
      sm_gd ((sm_kd a1).1 = 13 ∧ ¬ (a2 < 0 ∨ (sm_kd a1).2 ≤ (a2).toNatClampNeg)) <|
      sm_gd (sm_kd a0 = (4, 6)) <|
      sm_lt (sm_up I a0 (sm_up (I a0) 0 (I a1 (a2).toNatClampNeg))) fun I6 =>
      sm_gd ((sm_kd a1).1 = 13 ∧ ¬ ((a2 + (1 : Int32)) < 0 ∨ (sm_kd a1).2 ≤ ((a2 + (1 : Int32))).toNatClampNeg)) <|
      sm_lt (sm_up I6 a0 (sm_up (I6 a0) 1 (I6 a1 ((a2 + (1 : Int32))).toNatClampNeg))) fun I8 =>
      sm_gd ((sm_kd a1).1 = 13 ∧ ¬ ((a2 + (2 : Int32)) < 0 ∨ (sm_kd a1).2 ≤ ((a2 + (2 : Int32))).toNatClampNeg)) <|
      sm_lt (sm_up I8 a0 (sm_up (I8 a0) 2 (I8 a1 ((a2 + (2 : Int32))).toNatClampNeg))) fun I10 =>
      sm_gd ((sm_kd a1).1 = 13 ∧ ¬ ((a2 + (3 : Int32)) < 0 ∨ (sm_kd a1).2 ≤ ((a2 + (3 : Int32))).toNatClampNeg)) <|
      sm_lt (sm_up I10 a0 (sm_up (I10 a0) 3 (I10 a1 ((a2 + (3 : Int32))).toNatClampNeg))) fun I12 =>
      sm_gd ((sm_kd a1).1 = 13 ∧ ¬ ((a2 + (4 : Int32)) < 0 ∨ (sm_kd a1).2 ≤ ((a2 + (4 : Int32))).toNatClampNeg)) <|
      sm_lt (sm_up I12 a0 (sm_up (I12 a0) 4 (I12 a1 ((a2 + (4 : Int32))).toNatClampNeg))) fun I14 =>
      some ((), I14))
    else (
      some ((), I)))
set_option maxHeartbeats 4000000 in
set_option maxRecDepth 100000 in
theorem w_X4_read {l : Launch} (N : Nat) (R : Nat → Nat → Nat) : ∀ (a0 : Nat) (a1 : Nat) (a2 : Int32) (I : (Nat → Nat → Int32)) (y : (Unit × (Nat → Nat → Int32))), f_X4_read N R a0 a1 a2 I = some y → sm_W l 0 mX4_read 0 [(0, .inr (.inl a0)), (1, .inr (.inl a1)), (2, .inl a2)] [] (I, R) (.inl none) (y.2, R) := by
  intro a0 a1 a2 I y h
  unfold f_X4_read at h
  refine sm_iload_n (q := 1) dX4_read_0 rfl rfl 2 rfl ?_
  rcases sm_if_e h with ⟨hb1, h⟩ | ⟨hb1, h⟩
  · refine sm_if_lt (tgt := 12) (q := 4) dX4_read_1 (by decide) rfl (fun _ => ?_) (fun hn => absurd hb1 hn)
    obtain rfl := Option.some.inj h
    exact sm_vret dX4_read_12 rfl
  · refine sm_if_lt (tgt := 12) (q := 4) dX4_read_1 (by decide) rfl (fun ht => absurd ht hb1) (fun _ => ?_)
    refine sm_iload_n (q := 5) dX4_read_4 rfl rfl 2 rfl ?_
    refine sm_aload_n (q := 6) dX4_read_5 rfl rfl 1 rfl ?_
    obtain ⟨hc2, h⟩ := sm_gd_e h
    refine sm_alenI (t := 0) (v := (Int32.ofNat (sm_kd a1).2)) (q := 7) dX4_read_6 rfl (Prod.ext hc2 rfl) (by decide) rfl ?_
    refine sm_iconst (v := 5) (q := 8) dX4_read_7 rfl (by decide) ?_
    refine sm_isub (q := 9) dX4_read_8 rfl ?_
    rcases sm_if_e h with ⟨hb3, h⟩ | ⟨hb3, h⟩
    · refine sm_icmp_le (tgt := 13) (q := 12) dX4_read_9 (by decide) rfl (fun _ => ?_) (fun hn => absurd hb3 hn)
      refine sm_aload_n (q := 14) dX4_read_13 rfl rfl 0 rfl ?_
      refine sm_aload_n (q := 15) dX4_read_14 rfl rfl 1 rfl ?_
      refine sm_iload_n (q := 16) dX4_read_15 rfl rfl 2 rfl ?_
      obtain ⟨hc4, h⟩ := sm_gd_e h
      refine sm_iald (n := (sm_kd a1).2) (q := 17) dX4_read_16 rfl (Prod.ext hc4.1 rfl) hc4.2 ?_
      obtain ⟨hc5, h⟩ := sm_gd_e h
      obtain ⟨I6, hI6, h⟩ := sm_lt_e h
      refine sm_putI (q := 20) dX4_read_17 rfl fk_X4_9 hc5 (by decide) (by decide) ?_
      refine sm_memI hI6 ?_
      refine sm_aload_n (q := 21) dX4_read_20 rfl rfl 0 rfl ?_
      refine sm_aload_n (q := 22) dX4_read_21 rfl rfl 1 rfl ?_
      refine sm_iload_n (q := 23) dX4_read_22 rfl rfl 2 rfl ?_
      refine sm_iconst (v := 1) (q := 24) dX4_read_23 rfl (by decide) ?_
      refine sm_iadd (q := 25) dX4_read_24 rfl ?_
      obtain ⟨hc7, h⟩ := sm_gd_e h
      refine sm_iald (n := (sm_kd a1).2) (q := 26) dX4_read_25 rfl (Prod.ext hc7.1 rfl) hc7.2 ?_
      obtain ⟨I8, hI8, h⟩ := sm_lt_e h
      refine sm_putI (q := 29) dX4_read_26 rfl fk_X4_15 hc5 (by decide) (by decide) ?_
      refine sm_memI hI8 ?_
      refine sm_aload_n (q := 30) dX4_read_29 rfl rfl 0 rfl ?_
      refine sm_aload_n (q := 31) dX4_read_30 rfl rfl 1 rfl ?_
      refine sm_iload_n (q := 32) dX4_read_31 rfl rfl 2 rfl ?_
      refine sm_iconst (v := 2) (q := 33) dX4_read_32 rfl (by decide) ?_
      refine sm_iadd (q := 34) dX4_read_33 rfl ?_
      obtain ⟨hc9, h⟩ := sm_gd_e h
      refine sm_iald (n := (sm_kd a1).2) (q := 35) dX4_read_34 rfl (Prod.ext hc9.1 rfl) hc9.2 ?_
      obtain ⟨I10, hI10, h⟩ := sm_lt_e h
      refine sm_putI (q := 38) dX4_read_35 rfl fk_X4_18 hc5 (by decide) (by decide) ?_
      refine sm_memI hI10 ?_
      refine sm_aload_n (q := 39) dX4_read_38 rfl rfl 0 rfl ?_
      refine sm_aload_n (q := 40) dX4_read_39 rfl rfl 1 rfl ?_
      refine sm_iload_n (q := 41) dX4_read_40 rfl rfl 2 rfl ?_
      refine sm_iconst (v := 3) (q := 42) dX4_read_41 rfl (by decide) ?_
      refine sm_iadd (q := 43) dX4_read_42 rfl ?_
      obtain ⟨hc11, h⟩ := sm_gd_e h
      refine sm_iald (n := (sm_kd a1).2) (q := 44) dX4_read_43 rfl (Prod.ext hc11.1 rfl) hc11.2 ?_
      obtain ⟨I12, hI12, h⟩ := sm_lt_e h
      refine sm_putI (q := 47) dX4_read_44 rfl fk_X4_21 hc5 (by decide) (by decide) ?_
      refine sm_memI hI12 ?_
      refine sm_aload_n (q := 48) dX4_read_47 rfl rfl 0 rfl ?_
      refine sm_aload_n (q := 49) dX4_read_48 rfl rfl 1 rfl ?_
      refine sm_iload_n (q := 50) dX4_read_49 rfl rfl 2 rfl ?_
      refine sm_iconst (v := 4) (q := 51) dX4_read_50 rfl (by decide) ?_
      refine sm_iadd (q := 52) dX4_read_51 rfl ?_
      obtain ⟨hc13, h⟩ := sm_gd_e h
      refine sm_iald (n := (sm_kd a1).2) (q := 53) dX4_read_52 rfl (Prod.ext hc13.1 rfl) hc13.2 ?_
      obtain ⟨I14, hI14, h⟩ := sm_lt_e h
      refine sm_putI (q := 56) dX4_read_53 rfl fk_X4_24 hc5 (by decide) (by decide) ?_
      refine sm_memI hI14 ?_
      obtain rfl := Option.some.inj h
      exact sm_vret dX4_read_56 rfl
    · refine sm_icmp_le (tgt := 13) (q := 12) dX4_read_9 (by decide) rfl (fun ht => absurd ht hb3) (fun _ => ?_)
      obtain rfl := Option.some.inj h
      exact sm_vret dX4_read_12 rfl
theorem e_X4_read {l : Launch} {N : Nat} {R : Nat → Nat → Nat} {a0 : Nat} {a1 : Nat} {a2 : Int32} {I : (Nat → Nat → Int32)} {y : (Unit × (Nat → Nat → Int32))} (h : f_X4_read N R a0 a1 a2 I = some y) : sm_E l 0 mX4_read [.inr (.inl a0), .inr (.inl a1), .inl a2] (I, R) (.inl none) (y.2, R) :=
  sm_meth (by decide) (Nat.le_of_ble_eq_true rfl) (w_X4_read N R a0 a1 a2 I y h)
def f_X10_read_32 (N : Nat) (R : Nat → Nat → Nat) : Nat → Nat → Nat → Int32 → Int32 → (Nat → Nat → Int32) → Option (Unit × (Nat → Nat → Int32))
  | 0, _, _, _, _, _ => none
  | n + 1, a0, a1, a2, a3, I =>
    sm_gd (sm_kd a0 = (10, 4)) <|
    if (I a0 1) ≤ a3 then (
      some ((), I))
    else (
      sm_gd ((sm_kd (R a0 0)).1 = 16 ∧ ¬ (a3 < 0 ∨ (sm_kd (R a0 0)).2 ≤ (a3).toNatClampNeg)) <|
      sm_gd (sm_kd (R (R a0 0) (a3).toNatClampNeg) = (4, 6)) <|
      (f_X4_read N R (R (R a0 0) (a3).toNatClampNeg) a1 ((a2 + (2 : Int32)) + (a3 * (5 : Int32))) I).bind fun p5 =>
      f_X10_read_32 N R n a0 a1 a2 (a3 + 1) p5.2)
def f_X10_read (N : Nat) (R : Nat → Nat → Nat) : Nat → Nat → Int32 → (Nat → Nat → Int32) → Option (Unit × (Nat → Nat → Int32)) := fun a0 a1 a2 I =>
  if a2 < 0 then (
    some ((), I))
  else (
    sm_gd ((sm_kd a1).1 = 13) <|
    if a2 ≤ ((Int32.ofNat (sm_kd a1).2) - (37 : Int32)) then (
      sm_gd ((sm_kd a1).1 = 13 ∧ ¬ (a2 < 0 ∨ (sm_kd a1).2 ≤ (a2).toNatClampNeg)) <|
      sm_gd (sm_kd a0 = (10, 4)) <|
      sm_lt (sm_up I a0 (sm_up (I a0) 2 (I a1 (a2).toNatClampNeg))) fun I6 =>
      sm_gd ((sm_kd a1).1 = 13 ∧ ¬ ((a2 + (1 : Int32)) < 0 ∨ (sm_kd a1).2 ≤ ((a2 + (1 : Int32))).toNatClampNeg)) <|
      sm_lt (sm_up I6 a0 (sm_up (I6 a0) 3 (I6 a1 ((a2 + (1 : Int32))).toNatClampNeg))) fun I8 =>
      f_X10_read_32 N R N a0 a1 a2 (0 : Int32) I8)
    else (
      some ((), I)))
set_option maxHeartbeats 4000000 in
set_option maxRecDepth 100000 in
theorem w_X10_read_32 {l : Launch} (N : Nat) (R : Nat → Nat → Nat) : ∀ (n : Nat) (a0 : Nat) (a1 : Nat) (a2 : Int32) (a3 : Int32) (I : (Nat → Nat → Int32)) (y : (Unit × (Nat → Nat → Int32))), f_X10_read_32 N R n a0 a1 a2 a3 I = some y → sm_W l 1 mX10_read 32 [(0, .inr (.inl a0)), (1, .inr (.inl a1)), (2, .inl a2), (3, .inl a3)] [] (I, R) (.inl none) (y.2, R) := by
  intro n
  induction n with
  | zero => intro a0 a1 a2 a3 I y h; cases h
  | succ n ih =>
    intro a0 a1 a2 a3 I y h
    rw [f_X10_read_32] at h
    refine sm_iload_n (q := 33) dX10_read_32 rfl rfl 3 rfl ?_
    refine sm_aload_n (q := 34) dX10_read_33 rfl rfl 0 rfl ?_
    obtain ⟨hc1, h⟩ := sm_gd_e h
    refine sm_getI (q := 37) dX10_read_34 rfl fk_X10_22 hc1 (by decide) (by decide) ?_
    rcases sm_if_e h with ⟨hb2, h⟩ | ⟨hb2, h⟩
    · refine sm_icmp_ge (tgt := 63) (q := 40) dX10_read_37 (by decide) rfl (fun _ => ?_) (fun hn => absurd hb2 hn)
      obtain rfl := Option.some.inj h
      exact sm_vret dX10_read_63 rfl
    · refine sm_icmp_ge (tgt := 63) (q := 40) dX10_read_37 (by decide) rfl (fun ht => absurd ht hb2) (fun _ => ?_)
      refine sm_aload_n (q := 41) dX10_read_40 rfl rfl 0 rfl ?_
      refine sm_getR (r := R a0 0) (q := 44) dX10_read_41 rfl fk_X10_11 hc1 (by decide) (by decide) rfl ?_
      refine sm_iload_n (q := 45) dX10_read_44 rfl rfl 3 rfl ?_
      obtain ⟨hc3, h⟩ := sm_gd_e h
      refine sm_aald (t := 3) (n := (sm_kd (R a0 0)).2) (q := 46) dX10_read_45 rfl (Prod.ext hc3.1 rfl) (Or.inl ⟨rfl, rfl⟩) hc3.2 rfl ?_
      refine sm_aload_n (q := 47) dX10_read_46 rfl rfl 1 rfl ?_
      refine sm_iload_n (q := 48) dX10_read_47 rfl rfl 2 rfl ?_
      refine sm_iconst (v := 2) (q := 49) dX10_read_48 rfl (by decide) ?_
      refine sm_iadd (q := 50) dX10_read_49 rfl ?_
      refine sm_iload_n (q := 51) dX10_read_50 rfl rfl 3 rfl ?_
      refine sm_iconst (v := 5) (q := 52) dX10_read_51 rfl (by decide) ?_
      refine sm_imul (q := 53) dX10_read_52 rfl ?_
      refine sm_iadd (q := 54) dX10_read_53 rfl ?_
      obtain ⟨hc4, h⟩ := sm_gd_e h
      obtain ⟨p5, hc_p5, h⟩ := sm_bd_e h
      refine sm_callVv (q := 57) (As := [.inr (.inl a1), .inl ((a2 + (2 : Int32)) + (a3 * (5 : Int32)))]) (S := []) (e_X4_read hc_p5) mv_X10_36 hc4 rfl (by decide) (Nat.le_of_ble_eq_true rfl) dX10_read_54 rfl ?_
      refine sm_iinc (v := (a3 + 1)) (L' := [(3, .inl (a3 + 1)), (0, .inr (.inl a0)), (1, .inr (.inl a1)), (2, .inl a2)]) (q := 60) dX10_read_57 rfl 3 rfl rfl (by decide) rfl ?_
      refine sm_goto (q := 32) dX10_read_60 (by decide) ?_
      refine sm_pick [1, 2, 3, 0] rfl ?_
      exact ih _ _ _ _ _ _ h
set_option maxHeartbeats 4000000 in
set_option maxRecDepth 100000 in
theorem w_X10_read {l : Launch} (N : Nat) (R : Nat → Nat → Nat) : ∀ (a0 : Nat) (a1 : Nat) (a2 : Int32) (I : (Nat → Nat → Int32)) (y : (Unit × (Nat → Nat → Int32))), f_X10_read N R a0 a1 a2 I = some y → sm_W l 1 mX10_read 0 [(0, .inr (.inl a0)), (1, .inr (.inl a1)), (2, .inl a2)] [] (I, R) (.inl none) (y.2, R) := by
  intro a0 a1 a2 I y h
  unfold f_X10_read at h
  refine sm_iload_n (q := 1) dX10_read_0 rfl rfl 2 rfl ?_
  rcases sm_if_e h with ⟨hb1, h⟩ | ⟨hb1, h⟩
  · refine sm_if_lt (tgt := 13) (q := 4) dX10_read_1 (by decide) rfl (fun _ => ?_) (fun hn => absurd hb1 hn)
    obtain rfl := Option.some.inj h
    exact sm_vret dX10_read_13 rfl
  · refine sm_if_lt (tgt := 13) (q := 4) dX10_read_1 (by decide) rfl (fun ht => absurd ht hb1) (fun _ => ?_)
    refine sm_iload_n (q := 5) dX10_read_4 rfl rfl 2 rfl ?_
    refine sm_aload_n (q := 6) dX10_read_5 rfl rfl 1 rfl ?_
    obtain ⟨hc2, h⟩ := sm_gd_e h
    refine sm_alenI (t := 0) (v := (Int32.ofNat (sm_kd a1).2)) (q := 7) dX10_read_6 rfl (Prod.ext hc2 rfl) (by decide) rfl ?_
    refine sm_bipush (v := 37) (q := 9) dX10_read_7 rfl (by decide) ?_
    refine sm_isub (q := 10) dX10_read_9 rfl ?_
    rcases sm_if_e h with ⟨hb3, h⟩ | ⟨hb3, h⟩
    · refine sm_icmp_le (tgt := 14) (q := 13) dX10_read_10 (by decide) rfl (fun _ => ?_) (fun hn => absurd hb3 hn)
      refine sm_aload_n (q := 15) dX10_read_14 rfl rfl 0 rfl ?_
      refine sm_aload_n (q := 16) dX10_read_15 rfl rfl 1 rfl ?_
      refine sm_iload_n (q := 17) dX10_read_16 rfl rfl 2 rfl ?_
      obtain ⟨hc4, h⟩ := sm_gd_e h
      refine sm_iald (n := (sm_kd a1).2) (q := 18) dX10_read_17 rfl (Prod.ext hc4.1 rfl) hc4.2 ?_
      obtain ⟨hc5, h⟩ := sm_gd_e h
      obtain ⟨I6, hI6, h⟩ := sm_lt_e h
      refine sm_putI (q := 21) dX10_read_18 rfl fk_X10_25 hc5 (by decide) (by decide) ?_
      refine sm_memI hI6 ?_
      refine sm_aload_n (q := 22) dX10_read_21 rfl rfl 0 rfl ?_
      refine sm_aload_n (q := 23) dX10_read_22 rfl rfl 1 rfl ?_
      refine sm_iload_n (q := 24) dX10_read_23 rfl rfl 2 rfl ?_
      refine sm_iconst (v := 1) (q := 25) dX10_read_24 rfl (by decide) ?_
      refine sm_iadd (q := 26) dX10_read_25 rfl ?_
      obtain ⟨hc7, h⟩ := sm_gd_e h
      refine sm_iald (n := (sm_kd a1).2) (q := 27) dX10_read_26 rfl (Prod.ext hc7.1 rfl) hc7.2 ?_
      obtain ⟨I8, hI8, h⟩ := sm_lt_e h
      refine sm_putI (q := 30) dX10_read_27 rfl fk_X10_17 hc5 (by decide) (by decide) ?_
      refine sm_memI hI8 ?_
      refine sm_iconst (v := 0) (q := 31) dX10_read_30 rfl (by decide) ?_
      refine sm_istore_n (L' := [(3, .inl (0 : Int32)), (0, .inr (.inl a0)), (1, .inr (.inl a1)), (2, .inl a2)]) (q := 32) dX10_read_31 rfl rfl (by decide) rfl ?_
      refine sm_pick [1, 2, 3, 0] rfl ?_
      exact w_X10_read_32 N R N _ _ _ _ _ _ h
    · refine sm_icmp_le (tgt := 14) (q := 13) dX10_read_10 (by decide) rfl (fun ht => absurd ht hb3) (fun _ => ?_)
      obtain rfl := Option.some.inj h
      exact sm_vret dX10_read_13 rfl
theorem e_X10_read {l : Launch} {N : Nat} {R : Nat → Nat → Nat} {a0 : Nat} {a1 : Nat} {a2 : Int32} {I : (Nat → Nat → Int32)} {y : (Unit × (Nat → Nat → Int32))} (h : f_X10_read N R a0 a1 a2 I = some y) : sm_E l 1 mX10_read [.inr (.inl a0), .inr (.inl a1), .inl a2] (I, R) (.inl none) (y.2, R) :=
  sm_meth (by decide) (Nat.le_of_ble_eq_true rfl) (w_X10_read N R a0 a1 a2 I y h)
def f_X0_takeBack (N : Nat) (R : Nat → Nat → Nat) : Nat → Nat → (Nat → Nat → Int32) → Option (Unit × (Nat → Nat → Int32)) := fun a0 a1 I =>
  sm_gd (sm_kd a0 = (0, 3)) <|
  if (I a0 2) ≤ 0 then (
    some ((), I))
  else (
    sm_lt (sm_up I a0 (sm_up (I a0) 2 ((I a0 2) - (1 : Int32)))) fun I3 =>
    sm_gd (sm_kd a1 = (10, 4)) <|
    (f_X10_read N R a1 (R a0 0) ((((I3 a0 1) + (I3 a0 2)) - ((I3 a0 1) + (I3 a0 2)) / (40 : Int32) * (40 : Int32)) * (37 : Int32)) I3).bind fun p5 =>
    some ((), p5.2))
set_option maxHeartbeats 4000000 in
set_option maxRecDepth 100000 in
theorem w_X0_takeBack {l : Launch} (N : Nat) (R : Nat → Nat → Nat) : ∀ (a0 : Nat) (a1 : Nat) (I : (Nat → Nat → Int32)) (y : (Unit × (Nat → Nat → Int32))), f_X0_takeBack N R a0 a1 I = some y → sm_W l 2 mX0_takeBack 0 [(0, .inr (.inl a0)), (1, .inr (.inl a1))] [] (I, R) (.inl none) (y.2, R) := by
  intro a0 a1 I y h
  unfold f_X0_takeBack at h
  refine sm_aload_n (q := 1) dX0_takeBack_0 rfl rfl 0 rfl ?_
  obtain ⟨hc1, h⟩ := sm_gd_e h
  refine sm_getI (q := 4) dX0_takeBack_1 rfl fk_X0_21 hc1 (by decide) (by decide) ?_
  rcases sm_if_e h with ⟨hb2, h⟩ | ⟨hb2, h⟩
  · refine sm_if_le (tgt := 40) (q := 7) dX0_takeBack_4 (by decide) rfl (fun _ => ?_) (fun hn => absurd hb2 hn)
    obtain rfl := Option.some.inj h
    exact sm_vret dX0_takeBack_40 rfl
  · refine sm_if_le (tgt := 40) (q := 7) dX0_takeBack_4 (by decide) rfl (fun ht => absurd ht hb2) (fun _ => ?_)
    refine sm_aload_n (q := 8) dX0_takeBack_7 rfl rfl 0 rfl ?_
    refine sm_dup (q := 9) dX0_takeBack_8 rfl rfl ?_
    refine sm_getI (q := 12) dX0_takeBack_9 rfl fk_X0_21 hc1 (by decide) (by decide) ?_
    refine sm_iconst (v := 1) (q := 13) dX0_takeBack_12 rfl (by decide) ?_
    refine sm_isub (q := 14) dX0_takeBack_13 rfl ?_
    obtain ⟨I3, hI3, h⟩ := sm_lt_e h
    refine sm_putI (q := 17) dX0_takeBack_14 rfl fk_X0_21 hc1 (by decide) (by decide) ?_
    refine sm_memI hI3 ?_
    refine sm_aload_n (q := 18) dX0_takeBack_17 rfl rfl 1 rfl ?_
    refine sm_aload_n (q := 19) dX0_takeBack_18 rfl rfl 0 rfl ?_
    refine sm_getR (r := R a0 0) (q := 22) dX0_takeBack_19 rfl fk_X0_11 hc1 (by decide) (by decide) rfl ?_
    refine sm_aload_n (q := 23) dX0_takeBack_22 rfl rfl 0 rfl ?_
    refine sm_getI (q := 26) dX0_takeBack_23 rfl fk_X0_17 hc1 (by decide) (by decide) ?_
    refine sm_aload_n (q := 27) dX0_takeBack_26 rfl rfl 0 rfl ?_
    refine sm_getI (q := 30) dX0_takeBack_27 rfl fk_X0_21 hc1 (by decide) (by decide) ?_
    refine sm_iadd (q := 31) dX0_takeBack_30 rfl ?_
    refine sm_bipush (v := 40) (q := 33) dX0_takeBack_31 rfl (by decide) ?_
    refine sm_irem (q := 34) dX0_takeBack_33 rfl (by decide) ?_
    refine sm_bipush (v := 37) (q := 36) dX0_takeBack_34 rfl (by decide) ?_
    refine sm_imul (q := 37) dX0_takeBack_36 rfl ?_
    obtain ⟨hc4, h⟩ := sm_gd_e h
    obtain ⟨p5, hc_p5, h⟩ := sm_bd_e h
    refine sm_callVv (q := 40) (As := [.inr (.inl (R a0 0)), .inl ((((I3 a0 1) + (I3 a0 2)) - ((I3 a0 1) + (I3 a0 2)) / (40 : Int32) * (40 : Int32)) * (37 : Int32))]) (S := []) (e_X10_read hc_p5) mv_X0_34 hc4 rfl (by decide) (Nat.le_of_ble_eq_true rfl) dX0_takeBack_37 rfl ?_
    obtain rfl := Option.some.inj h
    exact sm_vret dX0_takeBack_40 rfl
theorem e_X0_takeBack {l : Launch} {N : Nat} {R : Nat → Nat → Nat} {a0 : Nat} {a1 : Nat} {I : (Nat → Nat → Int32)} {y : (Unit × (Nat → Nat → Int32))} (h : f_X0_takeBack N R a0 a1 I = some y) : sm_E l 2 mX0_takeBack [.inr (.inl a0), .inr (.inl a1)] (I, R) (.inl none) (y.2, R) :=
  sm_meth (by decide) (Nat.le_of_ble_eq_true rfl) (w_X0_takeBack N R a0 a1 I y h)
def f_X4_isAwayIn (N : Nat) (R : Nat → Nat → Nat) : Nat → Int32 → (Nat → Nat → Int32) → Option (Int32 × (Nat → Nat → Int32)) := fun a0 a1 I =>
  sm_gd (sm_kd a0 = (4, 6)) <|
  if (((I a0 4) >>> ((a1 - (1 : Int32)) &&& 31)) &&& (1 : Int32)) = (1 : Int32) then (
    some ((1 : Int32), I))
  else (
    some ((0 : Int32), I))
set_option maxHeartbeats 4000000 in
set_option maxRecDepth 100000 in
theorem w_X4_isAwayIn {l : Launch} (N : Nat) (R : Nat → Nat → Nat) : ∀ (a0 : Nat) (a1 : Int32) (I : (Nat → Nat → Int32)) (y : (Int32 × (Nat → Nat → Int32))), f_X4_isAwayIn N R a0 a1 I = some y → sm_W l 0 mX4_isAwayIn 0 [(0, .inr (.inl a0)), (1, .inl a1)] [] (I, R) (.inl (some (.inl y.1))) (y.2, R) := by
  intro a0 a1 I y h
  unfold f_X4_isAwayIn at h
  refine sm_aload_n (q := 1) dX4_isAwayIn_0 rfl rfl 0 rfl ?_
  obtain ⟨hc1, h⟩ := sm_gd_e h
  refine sm_getI (q := 4) dX4_isAwayIn_1 rfl fk_X4_24 hc1 (by decide) (by decide) ?_
  refine sm_iload_n (q := 5) dX4_isAwayIn_4 rfl rfl 1 rfl ?_
  refine sm_iconst (v := 1) (q := 6) dX4_isAwayIn_5 rfl (by decide) ?_
  refine sm_isub (q := 7) dX4_isAwayIn_6 rfl ?_
  refine sm_ishr (q := 8) dX4_isAwayIn_7 rfl ?_
  refine sm_iconst (v := 1) (q := 9) dX4_isAwayIn_8 rfl (by decide) ?_
  refine sm_iand (q := 10) dX4_isAwayIn_9 rfl ?_
  refine sm_iconst (v := 1) (q := 11) dX4_isAwayIn_10 rfl (by decide) ?_
  rcases sm_if_e h with ⟨hb2, h⟩ | ⟨hb2, h⟩
  · refine sm_icmp_ne (tgt := 18) (q := 14) dX4_isAwayIn_11 (by decide) rfl (fun hn => absurd hb2 hn) (fun _ => ?_)
    refine sm_iconst (v := 1) (q := 15) dX4_isAwayIn_14 rfl (by decide) ?_
    refine sm_goto (q := 19) dX4_isAwayIn_15 (by decide) ?_
    obtain rfl := Option.some.inj h
    exact sm_zret dX4_isAwayIn_19 rfl (by decide)
  · refine sm_icmp_ne (tgt := 18) (q := 14) dX4_isAwayIn_11 (by decide) rfl (fun _ => ?_) (fun he => absurd he hb2)
    refine sm_iconst (v := 0) (q := 19) dX4_isAwayIn_18 rfl (by decide) ?_
    obtain rfl := Option.some.inj h
    exact sm_zret dX4_isAwayIn_19 rfl (by decide)
theorem e_X4_isAwayIn {l : Launch} {N : Nat} {R : Nat → Nat → Nat} {a0 : Nat} {a1 : Int32} {I : (Nat → Nat → Int32)} {y : (Int32 × (Nat → Nat → Int32))} (h : f_X4_isAwayIn N R a0 a1 I = some y) : sm_E l 0 mX4_isAwayIn [.inr (.inl a0), .inl a1] (I, R) (.inl (some (.inl y.1))) (y.2, R) :=
  sm_meth (by decide) (Nat.le_of_ble_eq_true rfl) (w_X4_isAwayIn N R a0 a1 I y h)
def f_X10_awayIn_4 (N : Nat) (R : Nat → Nat → Nat) : Nat → Nat → Int32 → Int32 → Int32 → (Nat → Nat → Int32) → Option (Int32 × (Nat → Nat → Int32))
  | 0, _, _, _, _, _ => none
  | n + 1, a0, a1, a2, a3, I =>
    sm_gd (sm_kd a0 = (10, 4)) <|
    if (I a0 1) ≤ a3 then (
      some (a2, I))
    else (
      sm_gd ((sm_kd (R a0 0)).1 = 16 ∧ ¬ (a3 < 0 ∨ (sm_kd (R a0 0)).2 ≤ (a3).toNatClampNeg)) <|
      sm_gd (sm_kd (R (R a0 0) (a3).toNatClampNeg) = (4, 6)) <|
      (f_X4_isAwayIn N R (R (R a0 0) (a3).toNatClampNeg) a1 I).bind fun p5 =>
      if p5.1 = 0 then (
        f_X10_awayIn_4 N R n a0 a1 a2 (a3 + 1) p5.2)
      else (
        f_X10_awayIn_4 N R n a0 a1 (a2 ||| ((1 : Int32) <<< (a3 &&& 31))) (a3 + 1) p5.2))
def f_X10_awayIn (N : Nat) (R : Nat → Nat → Nat) : Nat → Int32 → (Nat → Nat → Int32) → Option (Int32 × (Nat → Nat → Int32)) := fun a0 a1 I =>
  f_X10_awayIn_4 N R N a0 a1 (0 : Int32) (0 : Int32) I
set_option maxHeartbeats 4000000 in
set_option maxRecDepth 100000 in
theorem w_X10_awayIn_4 {l : Launch} (N : Nat) (R : Nat → Nat → Nat) : ∀ (n : Nat) (a0 : Nat) (a1 : Int32) (a2 : Int32) (a3 : Int32) (I : (Nat → Nat → Int32)) (y : (Int32 × (Nat → Nat → Int32))), f_X10_awayIn_4 N R n a0 a1 a2 a3 I = some y → sm_W l 1 mX10_awayIn 4 [(0, .inr (.inl a0)), (1, .inl a1), (2, .inl a2), (3, .inl a3)] [] (I, R) (.inl (some (.inl y.1))) (y.2, R) := by
  intro n
  induction n with
  | zero => intro a0 a1 a2 a3 I y h; cases h
  | succ n ih =>
    intro a0 a1 a2 a3 I y h
    rw [f_X10_awayIn_4] at h
    refine sm_iload_n (q := 5) dX10_awayIn_4 rfl rfl 3 rfl ?_
    refine sm_aload_n (q := 6) dX10_awayIn_5 rfl rfl 0 rfl ?_
    obtain ⟨hc1, h⟩ := sm_gd_e h
    refine sm_getI (q := 9) dX10_awayIn_6 rfl fk_X10_22 hc1 (by decide) (by decide) ?_
    rcases sm_if_e h with ⟨hb2, h⟩ | ⟨hb2, h⟩
    · refine sm_icmp_ge (tgt := 37) (q := 12) dX10_awayIn_9 (by decide) rfl (fun _ => ?_) (fun hn => absurd hb2 hn)
      refine sm_iload_n (q := 38) dX10_awayIn_37 rfl rfl 2 rfl ?_
      obtain rfl := Option.some.inj h
      exact sm_iret dX10_awayIn_38 rfl
    · refine sm_icmp_ge (tgt := 37) (q := 12) dX10_awayIn_9 (by decide) rfl (fun ht => absurd ht hb2) (fun _ => ?_)
      refine sm_aload_n (q := 13) dX10_awayIn_12 rfl rfl 0 rfl ?_
      refine sm_getR (r := R a0 0) (q := 16) dX10_awayIn_13 rfl fk_X10_11 hc1 (by decide) (by decide) rfl ?_
      refine sm_iload_n (q := 17) dX10_awayIn_16 rfl rfl 3 rfl ?_
      obtain ⟨hc3, h⟩ := sm_gd_e h
      refine sm_aald (t := 3) (n := (sm_kd (R a0 0)).2) (q := 18) dX10_awayIn_17 rfl (Prod.ext hc3.1 rfl) (Or.inl ⟨rfl, rfl⟩) hc3.2 rfl ?_
      refine sm_iload_n (q := 19) dX10_awayIn_18 rfl rfl 1 rfl ?_
      obtain ⟨hc4, h⟩ := sm_gd_e h
      obtain ⟨p5, hc_p5, h⟩ := sm_bd_e h
      refine sm_callVi (q := 22) (As := [.inl a1]) (S := []) (e_X4_isAwayIn hc_p5) mv_X10_39 hc4 rfl (by decide) (Nat.le_of_ble_eq_true rfl) dX10_awayIn_19 rfl ?_
      rcases sm_if_e h with ⟨hb6, h⟩ | ⟨hb6, h⟩
      · refine sm_if_eq (tgt := 31) (q := 25) dX10_awayIn_22 (by decide) rfl (fun _ => ?_) (fun hn => absurd hb6 hn)
        refine sm_iinc (v := (a3 + 1)) (L' := [(3, .inl (a3 + 1)), (0, .inr (.inl a0)), (1, .inl a1), (2, .inl a2)]) (q := 34) dX10_awayIn_31 rfl 3 rfl rfl (by decide) rfl ?_
        refine sm_goto (q := 4) dX10_awayIn_34 (by decide) ?_
        refine sm_pick [1, 2, 3, 0] rfl ?_
        exact ih _ _ _ _ _ _ h
      · refine sm_if_eq (tgt := 31) (q := 25) dX10_awayIn_22 (by decide) rfl (fun ht => absurd ht hb6) (fun _ => ?_)
        refine sm_iload_n (q := 26) dX10_awayIn_25 rfl rfl 2 rfl ?_
        refine sm_iconst (v := 1) (q := 27) dX10_awayIn_26 rfl (by decide) ?_
        refine sm_iload_n (q := 28) dX10_awayIn_27 rfl rfl 3 rfl ?_
        refine sm_ishl (q := 29) dX10_awayIn_28 rfl ?_
        refine sm_ior (q := 30) dX10_awayIn_29 rfl ?_
        refine sm_istore_n (L' := [(2, .inl (a2 ||| ((1 : Int32) <<< (a3 &&& 31)))), (0, .inr (.inl a0)), (1, .inl a1), (3, .inl a3)]) (q := 31) dX10_awayIn_30 rfl rfl (by decide) rfl ?_
        refine sm_iinc (v := (a3 + 1)) (L' := [(3, .inl (a3 + 1)), (2, .inl (a2 ||| ((1 : Int32) <<< (a3 &&& 31)))), (0, .inr (.inl a0)), (1, .inl a1)]) (q := 34) dX10_awayIn_31 rfl 3 rfl rfl (by decide) rfl ?_
        refine sm_goto (q := 4) dX10_awayIn_34 (by decide) ?_
        refine sm_pick [2, 3, 1, 0] rfl ?_
        exact ih _ _ _ _ _ _ h
set_option maxHeartbeats 4000000 in
set_option maxRecDepth 100000 in
theorem w_X10_awayIn {l : Launch} (N : Nat) (R : Nat → Nat → Nat) : ∀ (a0 : Nat) (a1 : Int32) (I : (Nat → Nat → Int32)) (y : (Int32 × (Nat → Nat → Int32))), f_X10_awayIn N R a0 a1 I = some y → sm_W l 1 mX10_awayIn 0 [(0, .inr (.inl a0)), (1, .inl a1)] [] (I, R) (.inl (some (.inl y.1))) (y.2, R) := by
  intro a0 a1 I y h
  unfold f_X10_awayIn at h
  refine sm_iconst (v := 0) (q := 1) dX10_awayIn_0 rfl (by decide) ?_
  refine sm_istore_n (L' := [(2, .inl (0 : Int32)), (0, .inr (.inl a0)), (1, .inl a1)]) (q := 2) dX10_awayIn_1 rfl rfl (by decide) rfl ?_
  refine sm_iconst (v := 0) (q := 3) dX10_awayIn_2 rfl (by decide) ?_
  refine sm_istore_n (L' := [(3, .inl (0 : Int32)), (2, .inl (0 : Int32)), (0, .inr (.inl a0)), (1, .inl a1)]) (q := 4) dX10_awayIn_3 rfl rfl (by decide) rfl ?_
  refine sm_pick [2, 3, 1, 0] rfl ?_
  exact w_X10_awayIn_4 N R N _ _ _ _ _ _ h
theorem e_X10_awayIn {l : Launch} {N : Nat} {R : Nat → Nat → Nat} {a0 : Nat} {a1 : Int32} {I : (Nat → Nat → Int32)} {y : (Int32 × (Nat → Nat → Int32))} (h : f_X10_awayIn N R a0 a1 I = some y) : sm_E l 1 mX10_awayIn [.inr (.inl a0), .inl a1] (I, R) (.inl (some (.inl y.1))) (y.2, R) :=
  sm_meth (by decide) (Nat.le_of_ble_eq_true rfl) (w_X10_awayIn N R a0 a1 I y h)
def f_J6_bitCount_0f7a4 (N : Nat) (R : Nat → Nat → Nat) : Int32 → (Nat → Nat → Int32) → Option (Int32 × (Nat → Nat → Int32)) := fun a0 I =>
  some (((((((((a0 - ((sm_us a0 (1 : Int32)) &&& (1431655765 : Int32))) &&& (858993459 : Int32)) + ((sm_us (a0 - ((sm_us a0 (1 : Int32)) &&& (1431655765 : Int32))) (2 : Int32)) &&& (858993459 : Int32))) + (sm_us (((a0 - ((sm_us a0 (1 : Int32)) &&& (1431655765 : Int32))) &&& (858993459 : Int32)) + ((sm_us (a0 - ((sm_us a0 (1 : Int32)) &&& (1431655765 : Int32))) (2 : Int32)) &&& (858993459 : Int32))) (4 : Int32))) &&& (252645135 : Int32)) + (sm_us (((((a0 - ((sm_us a0 (1 : Int32)) &&& (1431655765 : Int32))) &&& (858993459 : Int32)) + ((sm_us (a0 - ((sm_us a0 (1 : Int32)) &&& (1431655765 : Int32))) (2 : Int32)) &&& (858993459 : Int32))) + (sm_us (((a0 - ((sm_us a0 (1 : Int32)) &&& (1431655765 : Int32))) &&& (858993459 : Int32)) + ((sm_us (a0 - ((sm_us a0 (1 : Int32)) &&& (1431655765 : Int32))) (2 : Int32)) &&& (858993459 : Int32))) (4 : Int32))) &&& (252645135 : Int32)) (8 : Int32))) + (sm_us ((((((a0 - ((sm_us a0 (1 : Int32)) &&& (1431655765 : Int32))) &&& (858993459 : Int32)) + ((sm_us (a0 - ((sm_us a0 (1 : Int32)) &&& (1431655765 : Int32))) (2 : Int32)) &&& (858993459 : Int32))) + (sm_us (((a0 - ((sm_us a0 (1 : Int32)) &&& (1431655765 : Int32))) &&& (858993459 : Int32)) + ((sm_us (a0 - ((sm_us a0 (1 : Int32)) &&& (1431655765 : Int32))) (2 : Int32)) &&& (858993459 : Int32))) (4 : Int32))) &&& (252645135 : Int32)) + (sm_us (((((a0 - ((sm_us a0 (1 : Int32)) &&& (1431655765 : Int32))) &&& (858993459 : Int32)) + ((sm_us (a0 - ((sm_us a0 (1 : Int32)) &&& (1431655765 : Int32))) (2 : Int32)) &&& (858993459 : Int32))) + (sm_us (((a0 - ((sm_us a0 (1 : Int32)) &&& (1431655765 : Int32))) &&& (858993459 : Int32)) + ((sm_us (a0 - ((sm_us a0 (1 : Int32)) &&& (1431655765 : Int32))) (2 : Int32)) &&& (858993459 : Int32))) (4 : Int32))) &&& (252645135 : Int32)) (8 : Int32))) (16 : Int32))) &&& (63 : Int32)), I)
set_option maxHeartbeats 4000000 in
set_option maxRecDepth 100000 in
theorem w_J6_bitCount_0f7a4 {l : Launch} (N : Nat) (R : Nat → Nat → Nat) : ∀ (a0 : Int32) (I : (Nat → Nat → Int32)) (y : (Int32 × (Nat → Nat → Int32))), f_J6_bitCount_0f7a4 N R a0 I = some y → sm_W l 0 mJ6_bitCount_0f7a4 0 [(0, .inl a0)] [] (I, R) (.inl (some (.inl y.1))) (y.2, R) := by
  intro a0 I y h
  unfold f_J6_bitCount_0f7a4 at h
  refine sm_iload_n (q := 1) dJ6_bitCount_0f7a4_0 rfl rfl 0 rfl ?_
  refine sm_iload_n (q := 2) dJ6_bitCount_0f7a4_1 rfl rfl 0 rfl ?_
  refine sm_iconst (v := 1) (q := 3) dJ6_bitCount_0f7a4_2 rfl (by decide) ?_
  refine sm_iushr (v := (sm_us a0 (1 : Int32))) (q := 4) dJ6_bitCount_0f7a4_3 rfl rfl ?_
  refine sm_ldcw (q := 7) dJ6_bitCount_0f7a4_4 rfl co_J6_265 ?_
  refine sm_iand (q := 8) dJ6_bitCount_0f7a4_7 rfl ?_
  refine sm_isub (q := 9) dJ6_bitCount_0f7a4_8 rfl ?_
  refine sm_istore_n (L' := [(0, .inl (a0 - ((sm_us a0 (1 : Int32)) &&& (1431655765 : Int32))))]) (q := 10) dJ6_bitCount_0f7a4_9 rfl rfl (by decide) rfl ?_
  refine sm_iload_n (q := 11) dJ6_bitCount_0f7a4_10 rfl rfl 0 rfl ?_
  refine sm_ldcw (q := 14) dJ6_bitCount_0f7a4_11 rfl co_J6_266 ?_
  refine sm_iand (q := 15) dJ6_bitCount_0f7a4_14 rfl ?_
  refine sm_iload_n (q := 16) dJ6_bitCount_0f7a4_15 rfl rfl 0 rfl ?_
  refine sm_iconst (v := 2) (q := 17) dJ6_bitCount_0f7a4_16 rfl (by decide) ?_
  refine sm_iushr (v := (sm_us (a0 - ((sm_us a0 (1 : Int32)) &&& (1431655765 : Int32))) (2 : Int32))) (q := 18) dJ6_bitCount_0f7a4_17 rfl rfl ?_
  refine sm_ldcw (q := 21) dJ6_bitCount_0f7a4_18 rfl co_J6_266 ?_
  refine sm_iand (q := 22) dJ6_bitCount_0f7a4_21 rfl ?_
  refine sm_iadd (q := 23) dJ6_bitCount_0f7a4_22 rfl ?_
  refine sm_istore_n (L' := [(0, .inl (((a0 - ((sm_us a0 (1 : Int32)) &&& (1431655765 : Int32))) &&& (858993459 : Int32)) + ((sm_us (a0 - ((sm_us a0 (1 : Int32)) &&& (1431655765 : Int32))) (2 : Int32)) &&& (858993459 : Int32))))]) (q := 24) dJ6_bitCount_0f7a4_23 rfl rfl (by decide) rfl ?_
  refine sm_iload_n (q := 25) dJ6_bitCount_0f7a4_24 rfl rfl 0 rfl ?_
  refine sm_iload_n (q := 26) dJ6_bitCount_0f7a4_25 rfl rfl 0 rfl ?_
  refine sm_iconst (v := 4) (q := 27) dJ6_bitCount_0f7a4_26 rfl (by decide) ?_
  refine sm_iushr (v := (sm_us (((a0 - ((sm_us a0 (1 : Int32)) &&& (1431655765 : Int32))) &&& (858993459 : Int32)) + ((sm_us (a0 - ((sm_us a0 (1 : Int32)) &&& (1431655765 : Int32))) (2 : Int32)) &&& (858993459 : Int32))) (4 : Int32))) (q := 28) dJ6_bitCount_0f7a4_27 rfl rfl ?_
  refine sm_iadd (q := 29) dJ6_bitCount_0f7a4_28 rfl ?_
  refine sm_ldcw (q := 32) dJ6_bitCount_0f7a4_29 rfl co_J6_267 ?_
  refine sm_iand (q := 33) dJ6_bitCount_0f7a4_32 rfl ?_
  refine sm_istore_n (L' := [(0, .inl (((((a0 - ((sm_us a0 (1 : Int32)) &&& (1431655765 : Int32))) &&& (858993459 : Int32)) + ((sm_us (a0 - ((sm_us a0 (1 : Int32)) &&& (1431655765 : Int32))) (2 : Int32)) &&& (858993459 : Int32))) + (sm_us (((a0 - ((sm_us a0 (1 : Int32)) &&& (1431655765 : Int32))) &&& (858993459 : Int32)) + ((sm_us (a0 - ((sm_us a0 (1 : Int32)) &&& (1431655765 : Int32))) (2 : Int32)) &&& (858993459 : Int32))) (4 : Int32))) &&& (252645135 : Int32)))]) (q := 34) dJ6_bitCount_0f7a4_33 rfl rfl (by decide) rfl ?_
  refine sm_iload_n (q := 35) dJ6_bitCount_0f7a4_34 rfl rfl 0 rfl ?_
  refine sm_iload_n (q := 36) dJ6_bitCount_0f7a4_35 rfl rfl 0 rfl ?_
  refine sm_bipush (v := 8) (q := 38) dJ6_bitCount_0f7a4_36 rfl (by decide) ?_
  refine sm_iushr (v := (sm_us (((((a0 - ((sm_us a0 (1 : Int32)) &&& (1431655765 : Int32))) &&& (858993459 : Int32)) + ((sm_us (a0 - ((sm_us a0 (1 : Int32)) &&& (1431655765 : Int32))) (2 : Int32)) &&& (858993459 : Int32))) + (sm_us (((a0 - ((sm_us a0 (1 : Int32)) &&& (1431655765 : Int32))) &&& (858993459 : Int32)) + ((sm_us (a0 - ((sm_us a0 (1 : Int32)) &&& (1431655765 : Int32))) (2 : Int32)) &&& (858993459 : Int32))) (4 : Int32))) &&& (252645135 : Int32)) (8 : Int32))) (q := 39) dJ6_bitCount_0f7a4_38 rfl rfl ?_
  refine sm_iadd (q := 40) dJ6_bitCount_0f7a4_39 rfl ?_
  refine sm_istore_n (L' := [(0, .inl ((((((a0 - ((sm_us a0 (1 : Int32)) &&& (1431655765 : Int32))) &&& (858993459 : Int32)) + ((sm_us (a0 - ((sm_us a0 (1 : Int32)) &&& (1431655765 : Int32))) (2 : Int32)) &&& (858993459 : Int32))) + (sm_us (((a0 - ((sm_us a0 (1 : Int32)) &&& (1431655765 : Int32))) &&& (858993459 : Int32)) + ((sm_us (a0 - ((sm_us a0 (1 : Int32)) &&& (1431655765 : Int32))) (2 : Int32)) &&& (858993459 : Int32))) (4 : Int32))) &&& (252645135 : Int32)) + (sm_us (((((a0 - ((sm_us a0 (1 : Int32)) &&& (1431655765 : Int32))) &&& (858993459 : Int32)) + ((sm_us (a0 - ((sm_us a0 (1 : Int32)) &&& (1431655765 : Int32))) (2 : Int32)) &&& (858993459 : Int32))) + (sm_us (((a0 - ((sm_us a0 (1 : Int32)) &&& (1431655765 : Int32))) &&& (858993459 : Int32)) + ((sm_us (a0 - ((sm_us a0 (1 : Int32)) &&& (1431655765 : Int32))) (2 : Int32)) &&& (858993459 : Int32))) (4 : Int32))) &&& (252645135 : Int32)) (8 : Int32))))]) (q := 41) dJ6_bitCount_0f7a4_40 rfl rfl (by decide) rfl ?_
  refine sm_iload_n (q := 42) dJ6_bitCount_0f7a4_41 rfl rfl 0 rfl ?_
  refine sm_iload_n (q := 43) dJ6_bitCount_0f7a4_42 rfl rfl 0 rfl ?_
  refine sm_bipush (v := 16) (q := 45) dJ6_bitCount_0f7a4_43 rfl (by decide) ?_
  refine sm_iushr (v := (sm_us ((((((a0 - ((sm_us a0 (1 : Int32)) &&& (1431655765 : Int32))) &&& (858993459 : Int32)) + ((sm_us (a0 - ((sm_us a0 (1 : Int32)) &&& (1431655765 : Int32))) (2 : Int32)) &&& (858993459 : Int32))) + (sm_us (((a0 - ((sm_us a0 (1 : Int32)) &&& (1431655765 : Int32))) &&& (858993459 : Int32)) + ((sm_us (a0 - ((sm_us a0 (1 : Int32)) &&& (1431655765 : Int32))) (2 : Int32)) &&& (858993459 : Int32))) (4 : Int32))) &&& (252645135 : Int32)) + (sm_us (((((a0 - ((sm_us a0 (1 : Int32)) &&& (1431655765 : Int32))) &&& (858993459 : Int32)) + ((sm_us (a0 - ((sm_us a0 (1 : Int32)) &&& (1431655765 : Int32))) (2 : Int32)) &&& (858993459 : Int32))) + (sm_us (((a0 - ((sm_us a0 (1 : Int32)) &&& (1431655765 : Int32))) &&& (858993459 : Int32)) + ((sm_us (a0 - ((sm_us a0 (1 : Int32)) &&& (1431655765 : Int32))) (2 : Int32)) &&& (858993459 : Int32))) (4 : Int32))) &&& (252645135 : Int32)) (8 : Int32))) (16 : Int32))) (q := 46) dJ6_bitCount_0f7a4_45 rfl rfl ?_
  refine sm_iadd (q := 47) dJ6_bitCount_0f7a4_46 rfl ?_
  refine sm_istore_n (L' := [(0, .inl (((((((a0 - ((sm_us a0 (1 : Int32)) &&& (1431655765 : Int32))) &&& (858993459 : Int32)) + ((sm_us (a0 - ((sm_us a0 (1 : Int32)) &&& (1431655765 : Int32))) (2 : Int32)) &&& (858993459 : Int32))) + (sm_us (((a0 - ((sm_us a0 (1 : Int32)) &&& (1431655765 : Int32))) &&& (858993459 : Int32)) + ((sm_us (a0 - ((sm_us a0 (1 : Int32)) &&& (1431655765 : Int32))) (2 : Int32)) &&& (858993459 : Int32))) (4 : Int32))) &&& (252645135 : Int32)) + (sm_us (((((a0 - ((sm_us a0 (1 : Int32)) &&& (1431655765 : Int32))) &&& (858993459 : Int32)) + ((sm_us (a0 - ((sm_us a0 (1 : Int32)) &&& (1431655765 : Int32))) (2 : Int32)) &&& (858993459 : Int32))) + (sm_us (((a0 - ((sm_us a0 (1 : Int32)) &&& (1431655765 : Int32))) &&& (858993459 : Int32)) + ((sm_us (a0 - ((sm_us a0 (1 : Int32)) &&& (1431655765 : Int32))) (2 : Int32)) &&& (858993459 : Int32))) (4 : Int32))) &&& (252645135 : Int32)) (8 : Int32))) + (sm_us ((((((a0 - ((sm_us a0 (1 : Int32)) &&& (1431655765 : Int32))) &&& (858993459 : Int32)) + ((sm_us (a0 - ((sm_us a0 (1 : Int32)) &&& (1431655765 : Int32))) (2 : Int32)) &&& (858993459 : Int32))) + (sm_us (((a0 - ((sm_us a0 (1 : Int32)) &&& (1431655765 : Int32))) &&& (858993459 : Int32)) + ((sm_us (a0 - ((sm_us a0 (1 : Int32)) &&& (1431655765 : Int32))) (2 : Int32)) &&& (858993459 : Int32))) (4 : Int32))) &&& (252645135 : Int32)) + (sm_us (((((a0 - ((sm_us a0 (1 : Int32)) &&& (1431655765 : Int32))) &&& (858993459 : Int32)) + ((sm_us (a0 - ((sm_us a0 (1 : Int32)) &&& (1431655765 : Int32))) (2 : Int32)) &&& (858993459 : Int32))) + (sm_us (((a0 - ((sm_us a0 (1 : Int32)) &&& (1431655765 : Int32))) &&& (858993459 : Int32)) + ((sm_us (a0 - ((sm_us a0 (1 : Int32)) &&& (1431655765 : Int32))) (2 : Int32)) &&& (858993459 : Int32))) (4 : Int32))) &&& (252645135 : Int32)) (8 : Int32))) (16 : Int32))))]) (q := 48) dJ6_bitCount_0f7a4_47 rfl rfl (by decide) rfl ?_
  refine sm_iload_n (q := 49) dJ6_bitCount_0f7a4_48 rfl rfl 0 rfl ?_
  refine sm_bipush (v := 63) (q := 51) dJ6_bitCount_0f7a4_49 rfl (by decide) ?_
  refine sm_iand (q := 52) dJ6_bitCount_0f7a4_51 rfl ?_
  obtain rfl := Option.some.inj h
  exact sm_iret dJ6_bitCount_0f7a4_52 rfl
theorem e_J6_bitCount_0f7a4 {l : Launch} {N : Nat} {R : Nat → Nat → Nat} {a0 : Int32} {I : (Nat → Nat → Int32)} {y : (Int32 × (Nat → Nat → Int32))} (h : f_J6_bitCount_0f7a4 N R a0 I = some y) : sm_E l 0 mJ6_bitCount_0f7a4 [.inl a0] (I, R) (.inl (some (.inl y.1))) (y.2, R) :=
  sm_meth (by decide) (Nat.le_of_ble_eq_true rfl) (w_J6_bitCount_0f7a4 N R a0 I y h)
def f_X10_pianosLeftIn (N : Nat) (R : Nat → Nat → Nat) : Nat → Int32 → (Nat → Nat → Int32) → Option (Int32 × (Nat → Nat → Int32)) := fun a0 a1 I =>
  sm_gd (sm_kd a0 = (10, 4)) <|
  (f_X10_awayIn N R a0 a1 I).bind fun p2 =>
  (f_J6_bitCount_0f7a4 N R p2.1 p2.2).bind fun p3 =>
  some (((I a0 3) - p3.1), p3.2)
set_option maxHeartbeats 4000000 in
set_option maxRecDepth 100000 in
theorem w_X10_pianosLeftIn {l : Launch} (N : Nat) (R : Nat → Nat → Nat) : ∀ (a0 : Nat) (a1 : Int32) (I : (Nat → Nat → Int32)) (y : (Int32 × (Nat → Nat → Int32))), f_X10_pianosLeftIn N R a0 a1 I = some y → sm_W l 2 mX10_pianosLeftIn 0 [(0, .inr (.inl a0)), (1, .inl a1)] [] (I, R) (.inl (some (.inl y.1))) (y.2, R) := by
  intro a0 a1 I y h
  unfold f_X10_pianosLeftIn at h
  refine sm_aload_n (q := 1) dX10_pianosLeftIn_0 rfl rfl 0 rfl ?_
  obtain ⟨hc1, h⟩ := sm_gd_e h
  refine sm_getI (q := 4) dX10_pianosLeftIn_1 rfl fk_X10_17 hc1 (by decide) (by decide) ?_
  refine sm_aload_n (q := 5) dX10_pianosLeftIn_4 rfl rfl 0 rfl ?_
  refine sm_iload_n (q := 6) dX10_pianosLeftIn_5 rfl rfl 1 rfl ?_
  obtain ⟨p2, hc_p2, h⟩ := sm_bd_e h
  refine sm_callVi (q := 9) (As := [.inl a1]) (S := [.inl (I a0 3)]) (e_X10_awayIn hc_p2) mv_X10_43 hc1 rfl (by decide) (Nat.le_of_ble_eq_true rfl) dX10_pianosLeftIn_6 rfl ?_
  obtain ⟨p3, hc_p3, h⟩ := sm_bd_e h
  refine sm_callSi (q := 12) (As := [.inl p2.1]) (S := [.inl (I a0 3)]) (e_J6_bitCount_0f7a4 hc_p3) ms_X10_47 rfl (by decide) (Nat.le_of_ble_eq_true rfl) dX10_pianosLeftIn_9 rfl ?_
  refine sm_isub (q := 13) dX10_pianosLeftIn_12 rfl ?_
  obtain rfl := Option.some.inj h
  exact sm_iret dX10_pianosLeftIn_13 rfl
theorem e_X10_pianosLeftIn {l : Launch} {N : Nat} {R : Nat → Nat → Nat} {a0 : Nat} {a1 : Int32} {I : (Nat → Nat → Int32)} {y : (Int32 × (Nat → Nat → Int32))} (h : f_X10_pianosLeftIn N R a0 a1 I = some y) : sm_E l 2 mX10_pianosLeftIn [.inr (.inl a0), .inl a1] (I, R) (.inl (some (.inl y.1))) (y.2, R) :=
  sm_meth (by decide) (Nat.le_of_ble_eq_true rfl) (w_X10_pianosLeftIn N R a0 a1 I y h)
def f_X10_couldGo (N : Nat) (R : Nat → Nat → Nat) : Nat → Nat → Int32 → (Nat → Nat → Int32) → Option (Int32 × (Nat → Nat → Int32)) := fun a0 a1 a2 I =>
  if a2 < (1 : Int32) then (
    some ((0 : Int32), I))
  else (
    if (30 : Int32) < a2 then (
      some ((0 : Int32), I))
    else (
      sm_gd (sm_kd a1 = (4, 6)) <|
      (f_X4_isAwayIn N R a1 a2 I).bind fun p4 =>
      if p4.1 = 0 then (
        sm_gd (sm_kd a0 = (10, 4)) <|
        (f_X10_pianosLeftIn N R a0 a2 p4.2).bind fun p7 =>
        if p7.1 ≤ 0 then (
          some ((0 : Int32), p7.2))
        else (
          some ((1 : Int32), p7.2)))
      else (
        some ((0 : Int32), p4.2))))
set_option maxHeartbeats 4000000 in
set_option maxRecDepth 100000 in
theorem w_X10_couldGo {l : Launch} (N : Nat) (R : Nat → Nat → Nat) : ∀ (a0 : Nat) (a1 : Nat) (a2 : Int32) (I : (Nat → Nat → Int32)) (y : (Int32 × (Nat → Nat → Int32))), f_X10_couldGo N R a0 a1 a2 I = some y → sm_W l 3 mX10_couldGo 0 [(0, .inr (.inl a0)), (1, .inr (.inl a1)), (2, .inl a2)] [] (I, R) (.inl (some (.inl y.1))) (y.2, R) := by
  intro a0 a1 a2 I y h
  unfold f_X10_couldGo at h
  refine sm_iload_n (q := 1) dX10_couldGo_0 rfl rfl 2 rfl ?_
  refine sm_iconst (v := 1) (q := 2) dX10_couldGo_1 rfl (by decide) ?_
  rcases sm_if_e h with ⟨hb1, h⟩ | ⟨hb1, h⟩
  · refine sm_icmp_lt (tgt := 31) (q := 5) dX10_couldGo_2 (by decide) rfl (fun _ => ?_) (fun hn => absurd hb1 hn)
    refine sm_iconst (v := 0) (q := 32) dX10_couldGo_31 rfl (by decide) ?_
    obtain rfl := Option.some.inj h
    exact sm_zret dX10_couldGo_32 rfl (by decide)
  · refine sm_icmp_lt (tgt := 31) (q := 5) dX10_couldGo_2 (by decide) rfl (fun ht => absurd ht hb1) (fun _ => ?_)
    refine sm_iload_n (q := 6) dX10_couldGo_5 rfl rfl 2 rfl ?_
    refine sm_bipush (v := 30) (q := 8) dX10_couldGo_6 rfl (by decide) ?_
    rcases sm_if_e h with ⟨hb2, h⟩ | ⟨hb2, h⟩
    · refine sm_icmp_gt (tgt := 31) (q := 11) dX10_couldGo_8 (by decide) rfl (fun _ => ?_) (fun hn => absurd hb2 hn)
      refine sm_iconst (v := 0) (q := 32) dX10_couldGo_31 rfl (by decide) ?_
      obtain rfl := Option.some.inj h
      exact sm_zret dX10_couldGo_32 rfl (by decide)
    · refine sm_icmp_gt (tgt := 31) (q := 11) dX10_couldGo_8 (by decide) rfl (fun ht => absurd ht hb2) (fun _ => ?_)
      refine sm_aload_n (q := 12) dX10_couldGo_11 rfl rfl 1 rfl ?_
      refine sm_iload_n (q := 13) dX10_couldGo_12 rfl rfl 2 rfl ?_
      obtain ⟨hc3, h⟩ := sm_gd_e h
      obtain ⟨p4, hc_p4, h⟩ := sm_bd_e h
      refine sm_callVi (q := 16) (As := [.inl a2]) (S := []) (e_X4_isAwayIn hc_p4) mv_X10_39 hc3 rfl (by decide) (Nat.le_of_ble_eq_true rfl) dX10_couldGo_13 rfl ?_
      rcases sm_if_e h with ⟨hb5, h⟩ | ⟨hb5, h⟩
      · refine sm_if_ne (tgt := 31) (q := 19) dX10_couldGo_16 (by decide) rfl (fun hn => absurd hb5 hn) (fun _ => ?_)
        refine sm_aload_n (q := 20) dX10_couldGo_19 rfl rfl 0 rfl ?_
        refine sm_iload_n (q := 21) dX10_couldGo_20 rfl rfl 2 rfl ?_
        obtain ⟨hc6, h⟩ := sm_gd_e h
        obtain ⟨p7, hc_p7, h⟩ := sm_bd_e h
        refine sm_callVi (q := 24) (As := [.inl a2]) (S := []) (e_X10_pianosLeftIn hc_p7) mv_X10_52 hc6 rfl (by decide) (Nat.le_of_ble_eq_true rfl) dX10_couldGo_21 rfl ?_
        rcases sm_if_e h with ⟨hb8, h⟩ | ⟨hb8, h⟩
        · refine sm_if_le (tgt := 31) (q := 27) dX10_couldGo_24 (by decide) rfl (fun _ => ?_) (fun hn => absurd hb8 hn)
          refine sm_iconst (v := 0) (q := 32) dX10_couldGo_31 rfl (by decide) ?_
          obtain rfl := Option.some.inj h
          exact sm_zret dX10_couldGo_32 rfl (by decide)
        · refine sm_if_le (tgt := 31) (q := 27) dX10_couldGo_24 (by decide) rfl (fun ht => absurd ht hb8) (fun _ => ?_)
          refine sm_iconst (v := 1) (q := 28) dX10_couldGo_27 rfl (by decide) ?_
          refine sm_goto (q := 32) dX10_couldGo_28 (by decide) ?_
          obtain rfl := Option.some.inj h
          exact sm_zret dX10_couldGo_32 rfl (by decide)
      · refine sm_if_ne (tgt := 31) (q := 19) dX10_couldGo_16 (by decide) rfl (fun _ => ?_) (fun he => absurd he hb5)
        refine sm_iconst (v := 0) (q := 32) dX10_couldGo_31 rfl (by decide) ?_
        obtain rfl := Option.some.inj h
        exact sm_zret dX10_couldGo_32 rfl (by decide)
theorem e_X10_couldGo {l : Launch} {N : Nat} {R : Nat → Nat → Nat} {a0 : Nat} {a1 : Nat} {a2 : Int32} {I : (Nat → Nat → Int32)} {y : (Int32 × (Nat → Nat → Int32))} (h : f_X10_couldGo N R a0 a1 a2 I = some y) : sm_E l 3 mX10_couldGo [.inr (.inl a0), .inr (.inl a1), .inl a2] (I, R) (.inl (some (.inl y.1))) (y.2, R) :=
  sm_meth (by decide) (Nat.le_of_ble_eq_true rfl) (w_X10_couldGo N R a0 a1 a2 I y h)
def f_X4_become (N : Nat) (R : Nat → Nat → Nat) : Nat → Nat → (Nat → Nat → Int32) → Option (Unit × (Nat → Nat → Int32)) := fun a0 a1 I =>
  sm_gd (sm_kd a1 = (4, 6)) <|
  sm_gd (sm_kd a0 = (4, 6)) <|
  sm_lt (sm_up I a0 (sm_up (I a0) 0 (I a1 0))) fun I3 =>
  sm_lt (sm_up I3 a0 (sm_up (I3 a0) 1 (I3 a1 1))) fun I4 =>
  sm_lt (sm_up I4 a0 (sm_up (I4 a0) 2 (I4 a1 2))) fun I5 =>
  sm_lt (sm_up I5 a0 (sm_up (I5 a0) 3 (I5 a1 3))) fun I6 =>
  sm_lt (sm_up I6 a0 (sm_up (I6 a0) 4 (I6 a1 4))) fun I7 =>
  sm_lt (sm_up I7 a0 (sm_up (I7 a0) 5 (I7 a1 5))) fun I8 =>
  some ((), I8)
set_option maxHeartbeats 4000000 in
set_option maxRecDepth 100000 in
theorem w_X4_become {l : Launch} (N : Nat) (R : Nat → Nat → Nat) : ∀ (a0 : Nat) (a1 : Nat) (I : (Nat → Nat → Int32)) (y : (Unit × (Nat → Nat → Int32))), f_X4_become N R a0 a1 I = some y → sm_W l 0 mX4_become 0 [(0, .inr (.inl a0)), (1, .inr (.inl a1))] [] (I, R) (.inl none) (y.2, R) := by
  intro a0 a1 I y h
  unfold f_X4_become at h
  refine sm_aload_n (q := 1) dX4_become_0 rfl rfl 0 rfl ?_
  refine sm_aload_n (q := 2) dX4_become_1 rfl rfl 1 rfl ?_
  obtain ⟨hc1, h⟩ := sm_gd_e h
  refine sm_getI (q := 5) dX4_become_2 rfl fk_X4_9 hc1 (by decide) (by decide) ?_
  obtain ⟨hc2, h⟩ := sm_gd_e h
  obtain ⟨I3, hI3, h⟩ := sm_lt_e h
  refine sm_putI (q := 8) dX4_become_5 rfl fk_X4_9 hc2 (by decide) (by decide) ?_
  refine sm_memI hI3 ?_
  refine sm_aload_n (q := 9) dX4_become_8 rfl rfl 0 rfl ?_
  refine sm_aload_n (q := 10) dX4_become_9 rfl rfl 1 rfl ?_
  refine sm_getI (q := 13) dX4_become_10 rfl fk_X4_15 hc1 (by decide) (by decide) ?_
  obtain ⟨I4, hI4, h⟩ := sm_lt_e h
  refine sm_putI (q := 16) dX4_become_13 rfl fk_X4_15 hc2 (by decide) (by decide) ?_
  refine sm_memI hI4 ?_
  refine sm_aload_n (q := 17) dX4_become_16 rfl rfl 0 rfl ?_
  refine sm_aload_n (q := 18) dX4_become_17 rfl rfl 1 rfl ?_
  refine sm_getI (q := 21) dX4_become_18 rfl fk_X4_18 hc1 (by decide) (by decide) ?_
  obtain ⟨I5, hI5, h⟩ := sm_lt_e h
  refine sm_putI (q := 24) dX4_become_21 rfl fk_X4_18 hc2 (by decide) (by decide) ?_
  refine sm_memI hI5 ?_
  refine sm_aload_n (q := 25) dX4_become_24 rfl rfl 0 rfl ?_
  refine sm_aload_n (q := 26) dX4_become_25 rfl rfl 1 rfl ?_
  refine sm_getI (q := 29) dX4_become_26 rfl fk_X4_21 hc1 (by decide) (by decide) ?_
  obtain ⟨I6, hI6, h⟩ := sm_lt_e h
  refine sm_putI (q := 32) dX4_become_29 rfl fk_X4_21 hc2 (by decide) (by decide) ?_
  refine sm_memI hI6 ?_
  refine sm_aload_n (q := 33) dX4_become_32 rfl rfl 0 rfl ?_
  refine sm_aload_n (q := 34) dX4_become_33 rfl rfl 1 rfl ?_
  refine sm_getI (q := 37) dX4_become_34 rfl fk_X4_24 hc1 (by decide) (by decide) ?_
  obtain ⟨I7, hI7, h⟩ := sm_lt_e h
  refine sm_putI (q := 40) dX4_become_37 rfl fk_X4_24 hc2 (by decide) (by decide) ?_
  refine sm_memI hI7 ?_
  refine sm_aload_n (q := 41) dX4_become_40 rfl rfl 0 rfl ?_
  refine sm_aload_n (q := 42) dX4_become_41 rfl rfl 1 rfl ?_
  refine sm_getI (q := 45) dX4_become_42 rfl fk_X4_27 hc1 (by decide) (by decide) ?_
  obtain ⟨I8, hI8, h⟩ := sm_lt_e h
  refine sm_putI (q := 48) dX4_become_45 rfl fk_X4_27 hc2 (by decide) (by decide) ?_
  refine sm_memI hI8 ?_
  obtain rfl := Option.some.inj h
  exact sm_vret dX4_become_48 rfl
theorem e_X4_become {l : Launch} {N : Nat} {R : Nat → Nat → Nat} {a0 : Nat} {a1 : Nat} {I : (Nat → Nat → Int32)} {y : (Unit × (Nat → Nat → Int32))} (h : f_X4_become N R a0 a1 I = some y) : sm_E l 0 mX4_become [.inr (.inl a0), .inr (.inl a1)] (I, R) (.inl none) (y.2, R) :=
  sm_meth (by decide) (Nat.le_of_ble_eq_true rfl) (w_X4_become N R a0 a1 I y h)
def f_X6_ofTwo (N : Nat) (R : Nat → Nat → Nat) : Int32 → Int32 → Int32 → (Nat → Nat → Int32) → Option (Int32 × (Nat → Nat → Int32)) := fun a0 a1 a2 I =>
  if a0 = 20000 then (
    if a1 = 0 then (
      if a2 = 0 then (
        some ((0 : Int32), I))
      else (
        some ((1 : Int32), I)))
    else (
      some ((1 : Int32), I)))
  else (
    if a0 = 20001 then (
      if a1 = 0 then (
        some ((0 : Int32), I))
      else (
        if a2 = 0 then (
          some ((0 : Int32), I))
        else (
          some ((1 : Int32), I))))
    else (
      if a0 = 20002 then (
        if a2 = 0 then (
          some ((0 : Int32), I))
        else (
          sm_gd (¬ a2 = 0) <|
          some ((a1 / a2), I)))
      else (
        if a0 = 20003 then (
          if a2 ≤ a1 then (
            some ((0 : Int32), I))
          else (
            some ((1 : Int32), I)))
        else (
          if a0 = 20004 then (
            if a1 = a2 then (
              some ((1 : Int32), I))
            else (
              some ((0 : Int32), I)))
          else (
            if a0 = 20005 then (
              some ((a1 + a2), I))
            else (
              if a0 = 20006 then (
                some ((a1 - a2), I))
              else (
                if a0 = 20007 then (
                  some ((a1 * a2), I))
                else (
                  if a2 = 0 then (
                    some ((0 : Int32), I))
                  else (
                    sm_gd (¬ a2 = 0) <|
                    some ((a1 / a2), I))))))))))
set_option maxHeartbeats 4000000 in
set_option maxRecDepth 100000 in
theorem w_X6_ofTwo {l : Launch} (N : Nat) (R : Nat → Nat → Nat) : ∀ (a0 : Int32) (a1 : Int32) (a2 : Int32) (I : (Nat → Nat → Int32)) (y : (Int32 × (Nat → Nat → Int32))), f_X6_ofTwo N R a0 a1 a2 I = some y → sm_W l 0 mX6_ofTwo 0 [(0, .inl a0), (1, .inl a1), (2, .inl a2)] [] (I, R) (.inl (some (.inl y.1))) (y.2, R) := by
  intro a0 a1 a2 I y h
  unfold f_X6_ofTwo at h
  refine sm_iload_n (q := 1) dX6_ofTwo_0 rfl rfl 0 rfl ?_
  rcases sm_if_e h with ⟨hb1, h⟩ | ⟨hb1, h⟩
  · refine sm_tableIn (q := 48) (off := 47) dX6_ofTwo_1 (by rw [hb1]; decide) (by rw [hb1]; decide) (by rw [hb1]; decide) (by decide) ?_
    refine sm_iload_n (q := 49) dX6_ofTwo_48 rfl rfl 1 rfl ?_
    rcases sm_if_e h with ⟨hb2, h⟩ | ⟨hb2, h⟩
    · refine sm_if_ne (tgt := 56) (q := 52) dX6_ofTwo_49 (by decide) rfl (fun hn => absurd hb2 hn) (fun _ => ?_)
      refine sm_iload_n (q := 53) dX6_ofTwo_52 rfl rfl 2 rfl ?_
      rcases sm_if_e h with ⟨hb3, h⟩ | ⟨hb3, h⟩
      · refine sm_if_eq (tgt := 60) (q := 56) dX6_ofTwo_53 (by decide) rfl (fun _ => ?_) (fun hn => absurd hb3 hn)
        refine sm_iconst (v := 0) (q := 61) dX6_ofTwo_60 rfl (by decide) ?_
        obtain rfl := Option.some.inj h
        exact sm_iret dX6_ofTwo_61 rfl
      · refine sm_if_eq (tgt := 60) (q := 56) dX6_ofTwo_53 (by decide) rfl (fun ht => absurd ht hb3) (fun _ => ?_)
        refine sm_iconst (v := 1) (q := 57) dX6_ofTwo_56 rfl (by decide) ?_
        refine sm_goto (q := 61) dX6_ofTwo_57 (by decide) ?_
        obtain rfl := Option.some.inj h
        exact sm_iret dX6_ofTwo_61 rfl
    · refine sm_if_ne (tgt := 56) (q := 52) dX6_ofTwo_49 (by decide) rfl (fun _ => ?_) (fun he => absurd he hb2)
      refine sm_iconst (v := 1) (q := 57) dX6_ofTwo_56 rfl (by decide) ?_
      refine sm_goto (q := 61) dX6_ofTwo_57 (by decide) ?_
      obtain rfl := Option.some.inj h
      exact sm_iret dX6_ofTwo_61 rfl
  · rcases sm_if_e h with ⟨hb4, h⟩ | ⟨hb4, h⟩
    · refine sm_tableIn (q := 62) (off := 61) dX6_ofTwo_1 (by rw [hb4]; decide) (by rw [hb4]; decide) (by rw [hb4]; decide) (by decide) ?_
      refine sm_iload_n (q := 63) dX6_ofTwo_62 rfl rfl 1 rfl ?_
      rcases sm_if_e h with ⟨hb5, h⟩ | ⟨hb5, h⟩
      · refine sm_if_eq (tgt := 74) (q := 66) dX6_ofTwo_63 (by decide) rfl (fun _ => ?_) (fun hn => absurd hb5 hn)
        refine sm_iconst (v := 0) (q := 75) dX6_ofTwo_74 rfl (by decide) ?_
        obtain rfl := Option.some.inj h
        exact sm_iret dX6_ofTwo_75 rfl
      · refine sm_if_eq (tgt := 74) (q := 66) dX6_ofTwo_63 (by decide) rfl (fun ht => absurd ht hb5) (fun _ => ?_)
        refine sm_iload_n (q := 67) dX6_ofTwo_66 rfl rfl 2 rfl ?_
        rcases sm_if_e h with ⟨hb6, h⟩ | ⟨hb6, h⟩
        · refine sm_if_eq (tgt := 74) (q := 70) dX6_ofTwo_67 (by decide) rfl (fun _ => ?_) (fun hn => absurd hb6 hn)
          refine sm_iconst (v := 0) (q := 75) dX6_ofTwo_74 rfl (by decide) ?_
          obtain rfl := Option.some.inj h
          exact sm_iret dX6_ofTwo_75 rfl
        · refine sm_if_eq (tgt := 74) (q := 70) dX6_ofTwo_67 (by decide) rfl (fun ht => absurd ht hb6) (fun _ => ?_)
          refine sm_iconst (v := 1) (q := 71) dX6_ofTwo_70 rfl (by decide) ?_
          refine sm_goto (q := 75) dX6_ofTwo_71 (by decide) ?_
          obtain rfl := Option.some.inj h
          exact sm_iret dX6_ofTwo_75 rfl
    · rcases sm_if_e h with ⟨hb7, h⟩ | ⟨hb7, h⟩
      · refine sm_tableIn (q := 110) (off := 109) dX6_ofTwo_1 (by rw [hb7]; decide) (by rw [hb7]; decide) (by rw [hb7]; decide) (by decide) ?_
        refine sm_iload_n (q := 111) dX6_ofTwo_110 rfl rfl 2 rfl ?_
        rcases sm_if_e h with ⟨hb8, h⟩ | ⟨hb8, h⟩
        · refine sm_if_ne (tgt := 118) (q := 114) dX6_ofTwo_111 (by decide) rfl (fun hn => absurd hb8 hn) (fun _ => ?_)
          refine sm_iconst (v := 0) (q := 115) dX6_ofTwo_114 rfl (by decide) ?_
          refine sm_goto (q := 121) dX6_ofTwo_115 (by decide) ?_
          obtain rfl := Option.some.inj h
          exact sm_iret dX6_ofTwo_121 rfl
        · refine sm_if_ne (tgt := 118) (q := 114) dX6_ofTwo_111 (by decide) rfl (fun _ => ?_) (fun he => absurd he hb8)
          refine sm_iload_n (q := 119) dX6_ofTwo_118 rfl rfl 1 rfl ?_
          refine sm_iload_n (q := 120) dX6_ofTwo_119 rfl rfl 2 rfl ?_
          obtain ⟨hc9, h⟩ := sm_gd_e h
          refine sm_idiv (q := 121) dX6_ofTwo_120 rfl hc9 ?_
          obtain rfl := Option.some.inj h
          exact sm_iret dX6_ofTwo_121 rfl
      · rcases sm_if_e h with ⟨hb10, h⟩ | ⟨hb10, h⟩
        · refine sm_tableIn (q := 76) (off := 75) dX6_ofTwo_1 (by rw [hb10]; decide) (by rw [hb10]; decide) (by rw [hb10]; decide) (by decide) ?_
          refine sm_iload_n (q := 77) dX6_ofTwo_76 rfl rfl 1 rfl ?_
          refine sm_iload_n (q := 78) dX6_ofTwo_77 rfl rfl 2 rfl ?_
          rcases sm_if_e h with ⟨hb11, h⟩ | ⟨hb11, h⟩
          · refine sm_icmp_ge (tgt := 85) (q := 81) dX6_ofTwo_78 (by decide) rfl (fun _ => ?_) (fun hn => absurd hb11 hn)
            refine sm_iconst (v := 0) (q := 86) dX6_ofTwo_85 rfl (by decide) ?_
            obtain rfl := Option.some.inj h
            exact sm_iret dX6_ofTwo_86 rfl
          · refine sm_icmp_ge (tgt := 85) (q := 81) dX6_ofTwo_78 (by decide) rfl (fun ht => absurd ht hb11) (fun _ => ?_)
            refine sm_iconst (v := 1) (q := 82) dX6_ofTwo_81 rfl (by decide) ?_
            refine sm_goto (q := 86) dX6_ofTwo_82 (by decide) ?_
            obtain rfl := Option.some.inj h
            exact sm_iret dX6_ofTwo_86 rfl
        · rcases sm_if_e h with ⟨hb12, h⟩ | ⟨hb12, h⟩
          · refine sm_tableIn (q := 87) (off := 86) dX6_ofTwo_1 (by rw [hb12]; decide) (by rw [hb12]; decide) (by rw [hb12]; decide) (by decide) ?_
            refine sm_iload_n (q := 88) dX6_ofTwo_87 rfl rfl 1 rfl ?_
            refine sm_iload_n (q := 89) dX6_ofTwo_88 rfl rfl 2 rfl ?_
            rcases sm_if_e h with ⟨hb13, h⟩ | ⟨hb13, h⟩
            · refine sm_icmp_ne (tgt := 96) (q := 92) dX6_ofTwo_89 (by decide) rfl (fun hn => absurd hb13 hn) (fun _ => ?_)
              refine sm_iconst (v := 1) (q := 93) dX6_ofTwo_92 rfl (by decide) ?_
              refine sm_goto (q := 97) dX6_ofTwo_93 (by decide) ?_
              obtain rfl := Option.some.inj h
              exact sm_iret dX6_ofTwo_97 rfl
            · refine sm_icmp_ne (tgt := 96) (q := 92) dX6_ofTwo_89 (by decide) rfl (fun _ => ?_) (fun he => absurd he hb13)
              refine sm_iconst (v := 0) (q := 97) dX6_ofTwo_96 rfl (by decide) ?_
              obtain rfl := Option.some.inj h
              exact sm_iret dX6_ofTwo_97 rfl
          · rcases sm_if_e h with ⟨hb14, h⟩ | ⟨hb14, h⟩
            · refine sm_tableIn (q := 98) (off := 97) dX6_ofTwo_1 (by rw [hb14]; decide) (by rw [hb14]; decide) (by rw [hb14]; decide) (by decide) ?_
              refine sm_iload_n (q := 99) dX6_ofTwo_98 rfl rfl 1 rfl ?_
              refine sm_iload_n (q := 100) dX6_ofTwo_99 rfl rfl 2 rfl ?_
              refine sm_iadd (q := 101) dX6_ofTwo_100 rfl ?_
              obtain rfl := Option.some.inj h
              exact sm_iret dX6_ofTwo_101 rfl
            · rcases sm_if_e h with ⟨hb15, h⟩ | ⟨hb15, h⟩
              · refine sm_tableIn (q := 102) (off := 101) dX6_ofTwo_1 (by rw [hb15]; decide) (by rw [hb15]; decide) (by rw [hb15]; decide) (by decide) ?_
                refine sm_iload_n (q := 103) dX6_ofTwo_102 rfl rfl 1 rfl ?_
                refine sm_iload_n (q := 104) dX6_ofTwo_103 rfl rfl 2 rfl ?_
                refine sm_isub (q := 105) dX6_ofTwo_104 rfl ?_
                obtain rfl := Option.some.inj h
                exact sm_iret dX6_ofTwo_105 rfl
              · rcases sm_if_e h with ⟨hb16, h⟩ | ⟨hb16, h⟩
                · refine sm_tableIn (q := 106) (off := 105) dX6_ofTwo_1 (by rw [hb16]; decide) (by rw [hb16]; decide) (by rw [hb16]; decide) (by decide) ?_
                  refine sm_iload_n (q := 107) dX6_ofTwo_106 rfl rfl 1 rfl ?_
                  refine sm_iload_n (q := 108) dX6_ofTwo_107 rfl rfl 2 rfl ?_
                  refine sm_imul (q := 109) dX6_ofTwo_108 rfl ?_
                  obtain rfl := Option.some.inj h
                  exact sm_iret dX6_ofTwo_109 rfl
                · refine sm_tableOut (q := 110) dX6_ofTwo_1 (sm_sw (fun v h1 h2 he => (fun e => e.elim (fun e => hb1 (he.trans ((congrArg Int32.ofInt e).trans (by decide)))) (fun e => e.elim (fun e => hb4 (he.trans ((congrArg Int32.ofInt e).trans (by decide)))) (fun e => e.elim (fun e => hb7 (he.trans ((congrArg Int32.ofInt e).trans (by decide)))) (fun e => e.elim (fun e => hb10 (he.trans ((congrArg Int32.ofInt e).trans (by decide)))) (fun e => e.elim (fun e => hb12 (he.trans ((congrArg Int32.ofInt e).trans (by decide)))) (fun e => e.elim (fun e => hb14 (he.trans ((congrArg Int32.ofInt e).trans (by decide)))) (fun e => e.elim (fun e => hb15 (he.trans ((congrArg Int32.ofInt e).trans (by decide)))) (fun e => hb16 (he.trans ((congrArg Int32.ofInt e).trans (by decide))))))))))) (show v = 20000 ∨ v = 20001 ∨ v = 20002 ∨ v = 20003 ∨ v = 20004 ∨ v = 20005 ∨ v = 20006 ∨ v = 20007 by omega))) (by decide) ?_
                  refine sm_iload_n (q := 111) dX6_ofTwo_110 rfl rfl 2 rfl ?_
                  rcases sm_if_e h with ⟨hb17, h⟩ | ⟨hb17, h⟩
                  · refine sm_if_ne (tgt := 118) (q := 114) dX6_ofTwo_111 (by decide) rfl (fun hn => absurd hb17 hn) (fun _ => ?_)
                    refine sm_iconst (v := 0) (q := 115) dX6_ofTwo_114 rfl (by decide) ?_
                    refine sm_goto (q := 121) dX6_ofTwo_115 (by decide) ?_
                    obtain rfl := Option.some.inj h
                    exact sm_iret dX6_ofTwo_121 rfl
                  · refine sm_if_ne (tgt := 118) (q := 114) dX6_ofTwo_111 (by decide) rfl (fun _ => ?_) (fun he => absurd he hb17)
                    refine sm_iload_n (q := 119) dX6_ofTwo_118 rfl rfl 1 rfl ?_
                    refine sm_iload_n (q := 120) dX6_ofTwo_119 rfl rfl 2 rfl ?_
                    obtain ⟨hc18, h⟩ := sm_gd_e h
                    refine sm_idiv (q := 121) dX6_ofTwo_120 rfl hc18 ?_
                    obtain rfl := Option.some.inj h
                    exact sm_iret dX6_ofTwo_121 rfl
theorem e_X6_ofTwo {l : Launch} {N : Nat} {R : Nat → Nat → Nat} {a0 : Int32} {a1 : Int32} {a2 : Int32} {I : (Nat → Nat → Int32)} {y : (Int32 × (Nat → Nat → Int32))} (h : f_X6_ofTwo N R a0 a1 a2 I = some y) : sm_E l 0 mX6_ofTwo [.inl a0, .inl a1, .inl a2] (I, R) (.inl (some (.inl y.1))) (y.2, R) :=
  sm_meth (by decide) (Nat.le_of_ble_eq_true rfl) (w_X6_ofTwo N R a0 a1 a2 I y h)
def f_X6_value_4 (N : Nat) (R : Nat → Nat → Nat) : Nat → Nat → Nat → Int32 → Int32 → (Nat → Nat → Int32) → Option (Int32 × (Nat → Nat → Int32))
  | 0, _, _, _, _, _ => none
  | n + 1, a0, a1, a2, a3, I =>
    sm_gd (sm_kd a0 = (6, 4)) <|
    if (I a0 1) ≤ a3 then (
      if (1 : Int32) ≤ a2 then (
        sm_gd ((sm_kd (R a0 3)).1 = 13 ∧ ¬ ((0 : Int32) < 0 ∨ (sm_kd (R a0 3)).2 ≤ ((0 : Int32)).toNatClampNeg)) <|
        some ((I (R a0 3) ((0 : Int32)).toNatClampNeg), I))
      else (
        some ((0 : Int32), I)))
    else (
      sm_gd ((sm_kd (R a0 0)).1 = 13 ∧ ¬ (a3 < 0 ∨ (sm_kd (R a0 0)).2 ≤ (a3).toNatClampNeg)) <|
      if (20000 : Int32) ≤ (I (R a0 0) (a3).toNatClampNeg) then (
        if (I (R a0 0) (a3).toNatClampNeg) = (20002 : Int32) then (
          if (1 : Int32) ≤ a2 then (
            sm_gd ((sm_kd (R a0 3)).1 = 13 ∧ ¬ ((a2 - (1 : Int32)) < 0 ∨ (sm_kd (R a0 3)).2 ≤ ((a2 - (1 : Int32))).toNatClampNeg)) <|
            if (I (R a0 3) ((a2 - (1 : Int32))).toNatClampNeg) = 0 then (
              sm_lt (sm_up I (R a0 3) (sm_up (I (R a0 3)) ((a2 - (1 : Int32))).toNatClampNeg (1 : Int32))) fun I11 =>
              f_X6_value_4 N R n a0 a1 a2 (a3 + 1) I11)
            else (
              sm_lt (sm_up I (R a0 3) (sm_up (I (R a0 3)) ((a2 - (1 : Int32))).toNatClampNeg (0 : Int32))) fun I12 =>
              f_X6_value_4 N R n a0 a1 a2 (a3 + 1) I12))
          else (
            some ((0 : Int32), I)))
        else (
          if (2 : Int32) ≤ a2 then (
            sm_gd ((sm_kd (R a0 3)).1 = 13 ∧ ¬ (((a2 + (-1)) - (1 : Int32)) < 0 ∨ (sm_kd (R a0 3)).2 ≤ (((a2 + (-1)) - (1 : Int32))).toNatClampNeg)) <|
            sm_gd ((sm_kd (R a0 3)).1 = 13 ∧ ¬ ((a2 + (-1)) < 0 ∨ (sm_kd (R a0 3)).2 ≤ ((a2 + (-1))).toNatClampNeg)) <|
            (f_X6_ofTwo N R (I (R a0 0) (a3).toNatClampNeg) (I (R a0 3) (((a2 + (-1)) - (1 : Int32))).toNatClampNeg) (I (R a0 3) ((a2 + (-1))).toNatClampNeg) I).bind fun p16 =>
            sm_lt (sm_up p16.2 (R a0 3) (sm_up (p16.2 (R a0 3)) (((a2 + (-1)) - (1 : Int32))).toNatClampNeg p16.1)) fun I17 =>
            f_X6_value_4 N R n a0 a1 (a2 + (-1)) (a3 + 1) I17)
          else (
            some ((0 : Int32), I))))
      else (
        sm_gd ((sm_kd (R a0 3)).1 = 13) <|
        if a2 < (Int32.ofNat (sm_kd (R a0 3)).2) then (
          if (10000 : Int32) ≤ (I (R a0 0) (a3).toNatClampNeg) then (
            sm_gd ((sm_kd a1).1 = 13 ∧ ¬ (((I (R a0 0) (a3).toNatClampNeg) - (10000 : Int32)) < 0 ∨ (sm_kd a1).2 ≤ (((I (R a0 0) (a3).toNatClampNeg) - (10000 : Int32))).toNatClampNeg)) <|
            sm_gd ((sm_kd (R a0 3)).1 = 13 ∧ ¬ (a2 < 0 ∨ (sm_kd (R a0 3)).2 ≤ (a2).toNatClampNeg)) <|
            sm_lt (sm_up I (R a0 3) (sm_up (I (R a0 3)) (a2).toNatClampNeg (I a1 (((I (R a0 0) (a3).toNatClampNeg) - (10000 : Int32))).toNatClampNeg))) fun I23 =>
            f_X6_value_4 N R n a0 a1 (a2 + 1) (a3 + 1) I23)
          else (
            sm_gd ((sm_kd (R a0 3)).1 = 13 ∧ ¬ (a2 < 0 ∨ (sm_kd (R a0 3)).2 ≤ (a2).toNatClampNeg)) <|
            sm_lt (sm_up I (R a0 3) (sm_up (I (R a0 3)) (a2).toNatClampNeg (I (R a0 0) (a3).toNatClampNeg))) fun I25 =>
            f_X6_value_4 N R n a0 a1 (a2 + 1) (a3 + 1) I25))
        else (
          some ((0 : Int32), I))))
def f_X6_value (N : Nat) (R : Nat → Nat → Nat) : Nat → Nat → (Nat → Nat → Int32) → Option (Int32 × (Nat → Nat → Int32)) := fun a0 a1 I =>
  f_X6_value_4 N R N a0 a1 (0 : Int32) (0 : Int32) I
set_option maxHeartbeats 4000000 in
set_option maxRecDepth 100000 in
theorem w_X6_value_4 {l : Launch} (N : Nat) (R : Nat → Nat → Nat) : ∀ (n : Nat) (a0 : Nat) (a1 : Nat) (a2 : Int32) (a3 : Int32) (I : (Nat → Nat → Int32)) (y : (Int32 × (Nat → Nat → Int32))), f_X6_value_4 N R n a0 a1 a2 a3 I = some y → sm_W l 1 mX6_value 4 [(0, .inr (.inl a0)), (1, .inr (.inl a1)), (2, .inl a2), (3, .inl a3)] [] (I, R) (.inl (some (.inl y.1))) (y.2, R) := by
  intro n
  induction n with
  | zero => intro a0 a1 a2 a3 I y h; cases h
  | succ n ih =>
    intro a0 a1 a2 a3 I y h
    rw [f_X6_value_4] at h
    refine sm_iload_n (q := 5) dX6_value_4 rfl rfl 3 rfl ?_
    refine sm_aload_n (q := 6) dX6_value_5 rfl rfl 0 rfl ?_
    obtain ⟨hc1, h⟩ := sm_gd_e h
    refine sm_getI (q := 9) dX6_value_6 rfl fk_X6_18 hc1 (by decide) (by decide) ?_
    rcases sm_if_e h with ⟨hb2, h⟩ | ⟨hb2, h⟩
    · refine sm_icmp_ge (tgt := 157) (q := 12) dX6_value_9 (by decide) rfl (fun _ => ?_) (fun hn => absurd hb2 hn)
      refine sm_iload_n (q := 158) dX6_value_157 rfl rfl 2 rfl ?_
      refine sm_iconst (v := 1) (q := 159) dX6_value_158 rfl (by decide) ?_
      rcases sm_if_e h with ⟨hb3, h⟩ | ⟨hb3, h⟩
      · refine sm_icmp_ge (tgt := 166) (q := 162) dX6_value_159 (by decide) rfl (fun _ => ?_) (fun hn => absurd hb3 hn)
        refine sm_aload_n (q := 167) dX6_value_166 rfl rfl 0 rfl ?_
        refine sm_getR (r := R a0 3) (q := 170) dX6_value_167 rfl fk_X6_15 hc1 (by decide) (by decide) rfl ?_
        refine sm_iconst (v := 0) (q := 171) dX6_value_170 rfl (by decide) ?_
        obtain ⟨hc4, h⟩ := sm_gd_e h
        refine sm_iald (n := (sm_kd (R a0 3)).2) (q := 172) dX6_value_171 rfl (Prod.ext hc4.1 rfl) hc4.2 ?_
        obtain rfl := Option.some.inj h
        exact sm_iret dX6_value_172 rfl
      · refine sm_icmp_ge (tgt := 166) (q := 162) dX6_value_159 (by decide) rfl (fun ht => absurd ht hb3) (fun _ => ?_)
        refine sm_iconst (v := 0) (q := 163) dX6_value_162 rfl (by decide) ?_
        refine sm_goto (q := 172) dX6_value_163 (by decide) ?_
        obtain rfl := Option.some.inj h
        exact sm_iret dX6_value_172 rfl
    · refine sm_icmp_ge (tgt := 157) (q := 12) dX6_value_9 (by decide) rfl (fun ht => absurd ht hb2) (fun _ => ?_)
      refine sm_aload_n (q := 13) dX6_value_12 rfl rfl 0 rfl ?_
      refine sm_getR (r := R a0 0) (q := 16) dX6_value_13 rfl fk_X6_9 hc1 (by decide) (by decide) rfl ?_
      refine sm_iload_n (q := 17) dX6_value_16 rfl rfl 3 rfl ?_
      obtain ⟨hc5, h⟩ := sm_gd_e h
      refine sm_iald (n := (sm_kd (R a0 0)).2) (q := 18) dX6_value_17 rfl (Prod.ext hc5.1 rfl) hc5.2 ?_
      refine sm_istore (L' := [(4, .inl (I (R a0 0) (a3).toNatClampNeg)), (0, .inr (.inl a0)), (1, .inr (.inl a1)), (2, .inl a2), (3, .inl a3)]) (q := 20) dX6_value_18 rfl (by decide) rfl ?_
      refine sm_iload (q := 22) dX6_value_20 rfl 0 rfl ?_
      refine sm_sipush (v := 20000) (q := 25) dX6_value_22 rfl (by decide) ?_
      rcases sm_if_e h with ⟨hb6, h⟩ | ⟨hb6, h⟩
      · refine sm_icmp_ge (tgt := 72) (q := 28) dX6_value_25 (by decide) rfl (fun _ => ?_) (fun hn => absurd hb6 hn)
        refine sm_iload (q := 74) dX6_value_72 rfl 0 rfl ?_
        refine sm_sipush (v := 20002) (q := 77) dX6_value_74 rfl (by decide) ?_
        rcases sm_if_e h with ⟨hb7, h⟩ | ⟨hb7, h⟩
        · refine sm_icmp_ne (tgt := 114) (q := 80) dX6_value_77 (by decide) rfl (fun hn => absurd hb7 hn) (fun _ => ?_)
          refine sm_iload_n (q := 81) dX6_value_80 rfl rfl 3 rfl ?_
          refine sm_iconst (v := 1) (q := 82) dX6_value_81 rfl (by decide) ?_
          rcases sm_if_e h with ⟨hb8, h⟩ | ⟨hb8, h⟩
          · refine sm_icmp_ge (tgt := 87) (q := 85) dX6_value_82 (by decide) rfl (fun _ => ?_) (fun hn => absurd hb8 hn)
            refine sm_aload_n (q := 88) dX6_value_87 rfl rfl 1 rfl ?_
            refine sm_getR (r := R a0 3) (q := 91) dX6_value_88 rfl fk_X6_15 hc1 (by decide) (by decide) rfl ?_
            refine sm_iload_n (q := 92) dX6_value_91 rfl rfl 3 rfl ?_
            refine sm_iconst (v := 1) (q := 93) dX6_value_92 rfl (by decide) ?_
            refine sm_isub (q := 94) dX6_value_93 rfl ?_
            refine sm_aload_n (q := 95) dX6_value_94 rfl rfl 1 rfl ?_
            refine sm_getR (r := R a0 3) (q := 98) dX6_value_95 rfl fk_X6_15 hc1 (by decide) (by decide) rfl ?_
            refine sm_iload_n (q := 99) dX6_value_98 rfl rfl 3 rfl ?_
            refine sm_iconst (v := 1) (q := 100) dX6_value_99 rfl (by decide) ?_
            refine sm_isub (q := 101) dX6_value_100 rfl ?_
            obtain ⟨hc9, h⟩ := sm_gd_e h
            refine sm_iald (n := (sm_kd (R a0 3)).2) (q := 102) dX6_value_101 rfl (Prod.ext hc9.1 rfl) hc9.2 ?_
            rcases sm_if_e h with ⟨hb10, h⟩ | ⟨hb10, h⟩
            · refine sm_if_ne (tgt := 109) (q := 105) dX6_value_102 (by decide) rfl (fun hn => absurd hb10 hn) (fun _ => ?_)
              refine sm_iconst (v := 1) (q := 106) dX6_value_105 rfl (by decide) ?_
              refine sm_goto (q := 110) dX6_value_106 (by decide) ?_
              obtain ⟨I11, hI11, h⟩ := sm_lt_e h
              refine sm_iast (n := (sm_kd (R a0 3)).2) (q := 111) dX6_value_110 rfl (Prod.ext hc9.1 rfl) hc9.2 ?_
              refine sm_memI hI11 ?_
              refine sm_goto (q := 151) dX6_value_111 (by decide) ?_
              refine sm_iinc (v := (a3 + 1)) (L' := [(3, .inl (a3 + 1)), (4, .inl (I (R a0 0) (a3).toNatClampNeg)), (0, .inr (.inl a0)), (1, .inr (.inl a1)), (2, .inl a2)]) (q := 154) dX6_value_151 rfl 4 rfl rfl (by decide) rfl ?_
              refine sm_goto (q := 4) dX6_value_154 (by decide) ?_
              refine sm_pick [2, 3, 4, 0] rfl ?_
              exact ih _ _ _ _ _ _ h
            · refine sm_if_ne (tgt := 109) (q := 105) dX6_value_102 (by decide) rfl (fun _ => ?_) (fun he => absurd he hb10)
              refine sm_iconst (v := 0) (q := 110) dX6_value_109 rfl (by decide) ?_
              obtain ⟨I12, hI12, h⟩ := sm_lt_e h
              refine sm_iast (n := (sm_kd (R a0 3)).2) (q := 111) dX6_value_110 rfl (Prod.ext hc9.1 rfl) hc9.2 ?_
              refine sm_memI hI12 ?_
              refine sm_goto (q := 151) dX6_value_111 (by decide) ?_
              refine sm_iinc (v := (a3 + 1)) (L' := [(3, .inl (a3 + 1)), (4, .inl (I (R a0 0) (a3).toNatClampNeg)), (0, .inr (.inl a0)), (1, .inr (.inl a1)), (2, .inl a2)]) (q := 154) dX6_value_151 rfl 4 rfl rfl (by decide) rfl ?_
              refine sm_goto (q := 4) dX6_value_154 (by decide) ?_
              refine sm_pick [2, 3, 4, 0] rfl ?_
              exact ih _ _ _ _ _ _ h
          · refine sm_icmp_ge (tgt := 87) (q := 85) dX6_value_82 (by decide) rfl (fun ht => absurd ht hb8) (fun _ => ?_)
            refine sm_iconst (v := 0) (q := 86) dX6_value_85 rfl (by decide) ?_
            obtain rfl := Option.some.inj h
            exact sm_iret dX6_value_86 rfl
        · refine sm_icmp_ne (tgt := 114) (q := 80) dX6_value_77 (by decide) rfl (fun _ => ?_) (fun he => absurd he hb7)
          refine sm_iload_n (q := 115) dX6_value_114 rfl rfl 3 rfl ?_
          refine sm_iconst (v := 2) (q := 116) dX6_value_115 rfl (by decide) ?_
          rcases sm_if_e h with ⟨hb13, h⟩ | ⟨hb13, h⟩
          · refine sm_icmp_ge (tgt := 121) (q := 119) dX6_value_116 (by decide) rfl (fun _ => ?_) (fun hn => absurd hb13 hn)
            refine sm_iinc (v := (a2 + (-1))) (L' := [(2, .inl (a2 + (-1))), (4, .inl (I (R a0 0) (a3).toNatClampNeg)), (0, .inr (.inl a0)), (1, .inr (.inl a1)), (3, .inl a3)]) (q := 124) dX6_value_121 rfl 3 rfl rfl (by decide) rfl ?_
            refine sm_aload_n (q := 125) dX6_value_124 rfl rfl 2 rfl ?_
            refine sm_getR (r := R a0 3) (q := 128) dX6_value_125 rfl fk_X6_15 hc1 (by decide) (by decide) rfl ?_
            refine sm_iload_n (q := 129) dX6_value_128 rfl rfl 0 rfl ?_
            refine sm_iconst (v := 1) (q := 130) dX6_value_129 rfl (by decide) ?_
            refine sm_isub (q := 131) dX6_value_130 rfl ?_
            refine sm_iload (q := 133) dX6_value_131 rfl 1 rfl ?_
            refine sm_aload_n (q := 134) dX6_value_133 rfl rfl 2 rfl ?_
            refine sm_getR (r := R a0 3) (q := 137) dX6_value_134 rfl fk_X6_15 hc1 (by decide) (by decide) rfl ?_
            refine sm_iload_n (q := 138) dX6_value_137 rfl rfl 0 rfl ?_
            refine sm_iconst (v := 1) (q := 139) dX6_value_138 rfl (by decide) ?_
            refine sm_isub (q := 140) dX6_value_139 rfl ?_
            obtain ⟨hc14, h⟩ := sm_gd_e h
            refine sm_iald (n := (sm_kd (R a0 3)).2) (q := 141) dX6_value_140 rfl (Prod.ext hc14.1 rfl) hc14.2 ?_
            refine sm_aload_n (q := 142) dX6_value_141 rfl rfl 2 rfl ?_
            refine sm_getR (r := R a0 3) (q := 145) dX6_value_142 rfl fk_X6_15 hc1 (by decide) (by decide) rfl ?_
            refine sm_iload_n (q := 146) dX6_value_145 rfl rfl 0 rfl ?_
            obtain ⟨hc15, h⟩ := sm_gd_e h
            refine sm_iald (n := (sm_kd (R a0 3)).2) (q := 147) dX6_value_146 rfl (Prod.ext hc15.1 rfl) hc15.2 ?_
            obtain ⟨p16, hc_p16, h⟩ := sm_bd_e h
            refine sm_callSi (q := 150) (As := [.inl (I (R a0 0) (a3).toNatClampNeg), .inl (I (R a0 3) (((a2 + (-1)) - (1 : Int32))).toNatClampNeg), .inl (I (R a0 3) ((a2 + (-1))).toNatClampNeg)]) (S := [.inl ((a2 + (-1)) - (1 : Int32)), .inr (.inl (R a0 3))]) (e_X6_ofTwo hc_p16) ms_X6_26 rfl (by decide) (Nat.le_of_ble_eq_true rfl) dX6_value_147 rfl ?_
            obtain ⟨I17, hI17, h⟩ := sm_lt_e h
            refine sm_iast (n := (sm_kd (R a0 3)).2) (q := 151) dX6_value_150 rfl (Prod.ext hc14.1 rfl) hc14.2 ?_
            refine sm_memI hI17 ?_
            refine sm_iinc (v := (a3 + 1)) (L' := [(3, .inl (a3 + 1)), (2, .inl (a2 + (-1))), (4, .inl (I (R a0 0) (a3).toNatClampNeg)), (0, .inr (.inl a0)), (1, .inr (.inl a1))]) (q := 154) dX6_value_151 rfl 4 rfl rfl (by decide) rfl ?_
            refine sm_goto (q := 4) dX6_value_154 (by decide) ?_
            refine sm_pick [3, 4, 1, 0] rfl ?_
            exact ih _ _ _ _ _ _ h
          · refine sm_icmp_ge (tgt := 121) (q := 119) dX6_value_116 (by decide) rfl (fun ht => absurd ht hb13) (fun _ => ?_)
            refine sm_iconst (v := 0) (q := 120) dX6_value_119 rfl (by decide) ?_
            obtain rfl := Option.some.inj h
            exact sm_iret dX6_value_120 rfl
      · refine sm_icmp_ge (tgt := 72) (q := 28) dX6_value_25 (by decide) rfl (fun ht => absurd ht hb6) (fun _ => ?_)
        refine sm_iload_n (q := 29) dX6_value_28 rfl rfl 3 rfl ?_
        refine sm_aload_n (q := 30) dX6_value_29 rfl rfl 1 rfl ?_
        refine sm_getR (r := R a0 3) (q := 33) dX6_value_30 rfl fk_X6_15 hc1 (by decide) (by decide) rfl ?_
        obtain ⟨hc18, h⟩ := sm_gd_e h
        refine sm_alenI (t := 0) (v := (Int32.ofNat (sm_kd (R a0 3)).2)) (q := 34) dX6_value_33 rfl (Prod.ext hc18 rfl) (by decide) rfl ?_
        rcases sm_if_e h with ⟨hb19, h⟩ | ⟨hb19, h⟩
        · refine sm_icmp_lt (tgt := 39) (q := 37) dX6_value_34 (by decide) rfl (fun _ => ?_) (fun hn => absurd hb19 hn)
          refine sm_aload_n (q := 40) dX6_value_39 rfl rfl 1 rfl ?_
          refine sm_getR (r := R a0 3) (q := 43) dX6_value_40 rfl fk_X6_15 hc1 (by decide) (by decide) rfl ?_
          refine sm_iload_n (q := 44) dX6_value_43 rfl rfl 3 rfl ?_
          refine sm_iload (q := 46) dX6_value_44 rfl 0 rfl ?_
          refine sm_sipush (v := 10000) (q := 49) dX6_value_46 rfl (by decide) ?_
          rcases sm_if_e h with ⟨hb20, h⟩ | ⟨hb20, h⟩
          · refine sm_icmp_ge (tgt := 57) (q := 52) dX6_value_49 (by decide) rfl (fun _ => ?_) (fun hn => absurd hb20 hn)
            refine sm_aload_n (q := 58) dX6_value_57 rfl rfl 2 rfl ?_
            refine sm_iload (q := 60) dX6_value_58 rfl 0 rfl ?_
            refine sm_sipush (v := 10000) (q := 63) dX6_value_60 rfl (by decide) ?_
            refine sm_isub (q := 64) dX6_value_63 rfl ?_
            obtain ⟨hc21, h⟩ := sm_gd_e h
            refine sm_iald (n := (sm_kd a1).2) (q := 65) dX6_value_64 rfl (Prod.ext hc21.1 rfl) hc21.2 ?_
            obtain ⟨hc22, h⟩ := sm_gd_e h
            obtain ⟨I23, hI23, h⟩ := sm_lt_e h
            refine sm_iast (n := (sm_kd (R a0 3)).2) (q := 66) dX6_value_65 rfl (Prod.ext hc22.1 rfl) hc22.2 ?_
            refine sm_memI hI23 ?_
            refine sm_iinc (v := (a2 + 1)) (L' := [(2, .inl (a2 + 1)), (4, .inl (I (R a0 0) (a3).toNatClampNeg)), (0, .inr (.inl a0)), (1, .inr (.inl a1)), (3, .inl a3)]) (q := 69) dX6_value_66 rfl 3 rfl rfl (by decide) rfl ?_
            refine sm_goto (q := 151) dX6_value_69 (by decide) ?_
            refine sm_iinc (v := (a3 + 1)) (L' := [(3, .inl (a3 + 1)), (2, .inl (a2 + 1)), (4, .inl (I (R a0 0) (a3).toNatClampNeg)), (0, .inr (.inl a0)), (1, .inr (.inl a1))]) (q := 154) dX6_value_151 rfl 4 rfl rfl (by decide) rfl ?_
            refine sm_goto (q := 4) dX6_value_154 (by decide) ?_
            refine sm_pick [3, 4, 1, 0] rfl ?_
            exact ih _ _ _ _ _ _ h
          · refine sm_icmp_ge (tgt := 57) (q := 52) dX6_value_49 (by decide) rfl (fun ht => absurd ht hb20) (fun _ => ?_)
            refine sm_iload (q := 54) dX6_value_52 rfl 0 rfl ?_
            refine sm_goto (q := 65) dX6_value_54 (by decide) ?_
            obtain ⟨hc24, h⟩ := sm_gd_e h
            obtain ⟨I25, hI25, h⟩ := sm_lt_e h
            refine sm_iast (n := (sm_kd (R a0 3)).2) (q := 66) dX6_value_65 rfl (Prod.ext hc24.1 rfl) hc24.2 ?_
            refine sm_memI hI25 ?_
            refine sm_iinc (v := (a2 + 1)) (L' := [(2, .inl (a2 + 1)), (4, .inl (I (R a0 0) (a3).toNatClampNeg)), (0, .inr (.inl a0)), (1, .inr (.inl a1)), (3, .inl a3)]) (q := 69) dX6_value_66 rfl 3 rfl rfl (by decide) rfl ?_
            refine sm_goto (q := 151) dX6_value_69 (by decide) ?_
            refine sm_iinc (v := (a3 + 1)) (L' := [(3, .inl (a3 + 1)), (2, .inl (a2 + 1)), (4, .inl (I (R a0 0) (a3).toNatClampNeg)), (0, .inr (.inl a0)), (1, .inr (.inl a1))]) (q := 154) dX6_value_151 rfl 4 rfl rfl (by decide) rfl ?_
            refine sm_goto (q := 4) dX6_value_154 (by decide) ?_
            refine sm_pick [3, 4, 1, 0] rfl ?_
            exact ih _ _ _ _ _ _ h
        · refine sm_icmp_lt (tgt := 39) (q := 37) dX6_value_34 (by decide) rfl (fun ht => absurd ht hb19) (fun _ => ?_)
          refine sm_iconst (v := 0) (q := 38) dX6_value_37 rfl (by decide) ?_
          obtain rfl := Option.some.inj h
          exact sm_iret dX6_value_38 rfl
set_option maxHeartbeats 4000000 in
set_option maxRecDepth 100000 in
theorem w_X6_value {l : Launch} (N : Nat) (R : Nat → Nat → Nat) : ∀ (a0 : Nat) (a1 : Nat) (I : (Nat → Nat → Int32)) (y : (Int32 × (Nat → Nat → Int32))), f_X6_value N R a0 a1 I = some y → sm_W l 1 mX6_value 0 [(0, .inr (.inl a0)), (1, .inr (.inl a1))] [] (I, R) (.inl (some (.inl y.1))) (y.2, R) := by
  intro a0 a1 I y h
  unfold f_X6_value at h
  refine sm_iconst (v := 0) (q := 1) dX6_value_0 rfl (by decide) ?_
  refine sm_istore_n (L' := [(2, .inl (0 : Int32)), (0, .inr (.inl a0)), (1, .inr (.inl a1))]) (q := 2) dX6_value_1 rfl rfl (by decide) rfl ?_
  refine sm_iconst (v := 0) (q := 3) dX6_value_2 rfl (by decide) ?_
  refine sm_istore_n (L' := [(3, .inl (0 : Int32)), (2, .inl (0 : Int32)), (0, .inr (.inl a0)), (1, .inr (.inl a1))]) (q := 4) dX6_value_3 rfl rfl (by decide) rfl ?_
  refine sm_pick [2, 3, 1, 0] rfl ?_
  exact w_X6_value_4 N R N _ _ _ _ _ _ h
theorem e_X6_value {l : Launch} {N : Nat} {R : Nat → Nat → Nat} {a0 : Nat} {a1 : Nat} {I : (Nat → Nat → Int32)} {y : (Int32 × (Nat → Nat → Int32))} (h : f_X6_value N R a0 a1 I = some y) : sm_E l 1 mX6_value [.inr (.inl a0), .inr (.inl a1)] (I, R) (.inl (some (.inl y.1))) (y.2, R) :=
  sm_meth (by decide) (Nat.le_of_ble_eq_true rfl) (w_X6_value N R a0 a1 I y h)
def f_X4_addSore (N : Nat) (R : Nat → Nat → Nat) : Nat → Int32 → (Nat → Nat → Int32) → Option (Unit × (Nat → Nat → Int32)) := fun a0 a1 I =>
  sm_gd (sm_kd a0 = (4, 6)) <|
  sm_lt (sm_up I a0 (sm_up (I a0) 1 (sm_mx (0 : Int32) (sm_mn (9 : Int32) ((I a0 1) + a1))))) fun I2 =>
  some ((), I2)
set_option maxHeartbeats 4000000 in
set_option maxRecDepth 100000 in
theorem w_X4_addSore {l : Launch} (N : Nat) (R : Nat → Nat → Nat) : ∀ (a0 : Nat) (a1 : Int32) (I : (Nat → Nat → Int32)) (y : (Unit × (Nat → Nat → Int32))), f_X4_addSore N R a0 a1 I = some y → sm_W l 0 mX4_addSore 0 [(0, .inr (.inl a0)), (1, .inl a1)] [] (I, R) (.inl none) (y.2, R) := by
  intro a0 a1 I y h
  unfold f_X4_addSore at h
  refine sm_aload_n (q := 1) dX4_addSore_0 rfl rfl 0 rfl ?_
  refine sm_iconst (v := 0) (q := 2) dX4_addSore_1 rfl (by decide) ?_
  refine sm_bipush (v := 9) (q := 4) dX4_addSore_2 rfl (by decide) ?_
  refine sm_aload_n (q := 5) dX4_addSore_4 rfl rfl 0 rfl ?_
  obtain ⟨hc1, h⟩ := sm_gd_e h
  refine sm_getI (q := 8) dX4_addSore_5 rfl fk_X4_15 hc1 (by decide) (by decide) ?_
  refine sm_iload_n (q := 9) dX4_addSore_8 rfl rfl 1 rfl ?_
  refine sm_iadd (q := 10) dX4_addSore_9 rfl ?_
  refine sm_mmn (q := 13) dX4_addSore_10 rfl mm_X4_30 (Nat.le_of_ble_eq_true rfl) ?_
  refine sm_mmx (q := 16) dX4_addSore_13 rfl mm_X4_36 (Nat.le_of_ble_eq_true rfl) ?_
  obtain ⟨I2, hI2, h⟩ := sm_lt_e h
  refine sm_putI (q := 19) dX4_addSore_16 rfl fk_X4_15 hc1 (by decide) (by decide) ?_
  refine sm_memI hI2 ?_
  obtain rfl := Option.some.inj h
  exact sm_vret dX4_addSore_19 rfl
theorem e_X4_addSore {l : Launch} {N : Nat} {R : Nat → Nat → Nat} {a0 : Nat} {a1 : Int32} {I : (Nat → Nat → Int32)} {y : (Unit × (Nat → Nat → Int32))} (h : f_X4_addSore N R a0 a1 I = some y) : sm_E l 0 mX4_addSore [.inr (.inl a0), .inl a1] (I, R) (.inl none) (y.2, R) :=
  sm_meth (by decide) (Nat.le_of_ble_eq_true rfl) (w_X4_addSore N R a0 a1 I y h)
def f_X6_clear (N : Nat) (R : Nat → Nat → Nat) : Nat → (Nat → Nat → Int32) → Option (Unit × (Nat → Nat → Int32)) := fun a0 I =>
  sm_gd (sm_kd a0 = (6, 4)) <|
  sm_lt (sm_up I a0 (sm_up (I a0) 1 (0 : Int32))) fun I2 =>
  sm_lt (sm_up I2 a0 (sm_up (I2 a0) 2 (0 : Int32))) fun I3 =>
  some ((), I3)
set_option maxHeartbeats 4000000 in
set_option maxRecDepth 100000 in
theorem w_X6_clear {l : Launch} (N : Nat) (R : Nat → Nat → Nat) : ∀ (a0 : Nat) (I : (Nat → Nat → Int32)) (y : (Unit × (Nat → Nat → Int32))), f_X6_clear N R a0 I = some y → sm_W l 0 mX6_clear 0 [(0, .inr (.inl a0))] [] (I, R) (.inl none) (y.2, R) := by
  intro a0 I y h
  unfold f_X6_clear at h
  refine sm_aload_n (q := 1) dX6_clear_0 rfl rfl 0 rfl ?_
  refine sm_iconst (v := 0) (q := 2) dX6_clear_1 rfl (by decide) ?_
  obtain ⟨hc1, h⟩ := sm_gd_e h
  obtain ⟨I2, hI2, h⟩ := sm_lt_e h
  refine sm_putI (q := 5) dX6_clear_2 rfl fk_X6_18 hc1 (by decide) (by decide) ?_
  refine sm_memI hI2 ?_
  refine sm_aload_n (q := 6) dX6_clear_5 rfl rfl 0 rfl ?_
  refine sm_iconst (v := 0) (q := 7) dX6_clear_6 rfl (by decide) ?_
  obtain ⟨I3, hI3, h⟩ := sm_lt_e h
  refine sm_putZ (q := 10) dX6_clear_7 rfl fk_X6_22 hc1 (by decide) (by decide) (by decide) ?_
  refine sm_memI hI3 ?_
  obtain rfl := Option.some.inj h
  exact sm_vret dX6_clear_10 rfl
theorem e_X6_clear {l : Launch} {N : Nat} {R : Nat → Nat → Nat} {a0 : Nat} {I : (Nat → Nat → Int32)} {y : (Unit × (Nat → Nat → Int32))} (h : f_X6_clear N R a0 I = some y) : sm_E l 0 mX6_clear [.inr (.inl a0)] (I, R) (.inl none) (y.2, R) :=
  sm_meth (by decide) (Nat.le_of_ble_eq_true rfl) (w_X6_clear N R a0 I y h)
def f_X10_clear (N : Nat) (R : Nat → Nat → Nat) : Nat → (Nat → Nat → Int32) → Option (Unit × (Nat → Nat → Int32)) := fun a0 I =>
  sm_gd (sm_kd a0 = (10, 4)) <|
  sm_lt (sm_up I a0 (sm_up (I a0) 1 (0 : Int32))) fun I2 =>
  sm_lt (sm_up I2 a0 (sm_up (I2 a0) 2 (0 : Int32))) fun I3 =>
  sm_lt (sm_up I3 a0 (sm_up (I3 a0) 3 (2 : Int32))) fun I4 =>
  some ((), I4)
set_option maxHeartbeats 4000000 in
set_option maxRecDepth 100000 in
theorem w_X10_clear {l : Launch} (N : Nat) (R : Nat → Nat → Nat) : ∀ (a0 : Nat) (I : (Nat → Nat → Int32)) (y : (Unit × (Nat → Nat → Int32))), f_X10_clear N R a0 I = some y → sm_W l 0 mX10_clear 0 [(0, .inr (.inl a0))] [] (I, R) (.inl none) (y.2, R) := by
  intro a0 I y h
  unfold f_X10_clear at h
  refine sm_aload_n (q := 1) dX10_clear_0 rfl rfl 0 rfl ?_
  refine sm_iconst (v := 0) (q := 2) dX10_clear_1 rfl (by decide) ?_
  obtain ⟨hc1, h⟩ := sm_gd_e h
  obtain ⟨I2, hI2, h⟩ := sm_lt_e h
  refine sm_putI (q := 5) dX10_clear_2 rfl fk_X10_22 hc1 (by decide) (by decide) ?_
  refine sm_memI hI2 ?_
  refine sm_aload_n (q := 6) dX10_clear_5 rfl rfl 0 rfl ?_
  refine sm_iconst (v := 0) (q := 7) dX10_clear_6 rfl (by decide) ?_
  obtain ⟨I3, hI3, h⟩ := sm_lt_e h
  refine sm_putI (q := 10) dX10_clear_7 rfl fk_X10_25 hc1 (by decide) (by decide) ?_
  refine sm_memI hI3 ?_
  refine sm_aload_n (q := 11) dX10_clear_10 rfl rfl 0 rfl ?_
  refine sm_iconst (v := 2) (q := 12) dX10_clear_11 rfl (by decide) ?_
  obtain ⟨I4, hI4, h⟩ := sm_lt_e h
  refine sm_putI (q := 15) dX10_clear_12 rfl fk_X10_17 hc1 (by decide) (by decide) ?_
  refine sm_memI hI4 ?_
  obtain rfl := Option.some.inj h
  exact sm_vret dX10_clear_15 rfl
theorem e_X10_clear {l : Launch} {N : Nat} {R : Nat → Nat → Nat} {a0 : Nat} {I : (Nat → Nat → Int32)} {y : (Unit × (Nat → Nat → Int32))} (h : f_X10_clear N R a0 I = some y) : sm_E l 0 mX10_clear [.inr (.inl a0)] (I, R) (.inl none) (y.2, R) :=
  sm_meth (by decide) (Nat.le_of_ble_eq_true rfl) (w_X10_clear N R a0 I y h)
def f_X6_add (N : Nat) (R : Nat → Nat → Nat) : Nat → Int32 → (Nat → Nat → Int32) → Option (Unit × (Nat → Nat → Int32)) := fun a0 a1 I =>
  sm_gd (sm_kd a0 = (6, 4)) <|
  sm_gd ((sm_kd (R a0 0)).1 = 13) <|
  if (Int32.ofNat (sm_kd (R a0 0)).2) ≤ (I a0 1) then (
    some ((), I))
  else (
    sm_gd ((sm_kd (R a0 0)).1 = 13 ∧ ¬ ((I a0 1) < 0 ∨ (sm_kd (R a0 0)).2 ≤ ((I a0 1)).toNatClampNeg)) <|
    sm_lt (sm_up I (R a0 0) (sm_up (I (R a0 0)) ((I a0 1)).toNatClampNeg a1)) fun I5 =>
    sm_lt (sm_up I5 a0 (sm_up (I5 a0) 1 ((I5 a0 1) + (1 : Int32)))) fun I6 =>
    some ((), I6))
set_option maxHeartbeats 4000000 in
set_option maxRecDepth 100000 in
theorem w_X6_add {l : Launch} (N : Nat) (R : Nat → Nat → Nat) : ∀ (a0 : Nat) (a1 : Int32) (I : (Nat → Nat → Int32)) (y : (Unit × (Nat → Nat → Int32))), f_X6_add N R a0 a1 I = some y → sm_W l 0 mX6_add 0 [(0, .inr (.inl a0)), (1, .inl a1)] [] (I, R) (.inl none) (y.2, R) := by
  intro a0 a1 I y h
  unfold f_X6_add at h
  refine sm_aload_n (q := 1) dX6_add_0 rfl rfl 0 rfl ?_
  obtain ⟨hc1, h⟩ := sm_gd_e h
  refine sm_getI (q := 4) dX6_add_1 rfl fk_X6_18 hc1 (by decide) (by decide) ?_
  refine sm_aload_n (q := 5) dX6_add_4 rfl rfl 0 rfl ?_
  refine sm_getR (r := R a0 0) (q := 8) dX6_add_5 rfl fk_X6_9 hc1 (by decide) (by decide) rfl ?_
  obtain ⟨hc2, h⟩ := sm_gd_e h
  refine sm_alenI (t := 0) (v := (Int32.ofNat (sm_kd (R a0 0)).2)) (q := 9) dX6_add_8 rfl (Prod.ext hc2 rfl) (by decide) rfl ?_
  rcases sm_if_e h with ⟨hb3, h⟩ | ⟨hb3, h⟩
  · refine sm_icmp_ge (tgt := 32) (q := 12) dX6_add_9 (by decide) rfl (fun _ => ?_) (fun hn => absurd hb3 hn)
    obtain rfl := Option.some.inj h
    exact sm_vret dX6_add_32 rfl
  · refine sm_icmp_ge (tgt := 32) (q := 12) dX6_add_9 (by decide) rfl (fun ht => absurd ht hb3) (fun _ => ?_)
    refine sm_aload_n (q := 13) dX6_add_12 rfl rfl 0 rfl ?_
    refine sm_getR (r := R a0 0) (q := 16) dX6_add_13 rfl fk_X6_9 hc1 (by decide) (by decide) rfl ?_
    refine sm_aload_n (q := 17) dX6_add_16 rfl rfl 0 rfl ?_
    refine sm_getI (q := 20) dX6_add_17 rfl fk_X6_18 hc1 (by decide) (by decide) ?_
    refine sm_iload_n (q := 21) dX6_add_20 rfl rfl 1 rfl ?_
    obtain ⟨hc4, h⟩ := sm_gd_e h
    obtain ⟨I5, hI5, h⟩ := sm_lt_e h
    refine sm_iast (n := (sm_kd (R a0 0)).2) (q := 22) dX6_add_21 rfl (Prod.ext hc4.1 rfl) hc4.2 ?_
    refine sm_memI hI5 ?_
    refine sm_aload_n (q := 23) dX6_add_22 rfl rfl 0 rfl ?_
    refine sm_dup (q := 24) dX6_add_23 rfl rfl ?_
    refine sm_getI (q := 27) dX6_add_24 rfl fk_X6_18 hc1 (by decide) (by decide) ?_
    refine sm_iconst (v := 1) (q := 28) dX6_add_27 rfl (by decide) ?_
    refine sm_iadd (q := 29) dX6_add_28 rfl ?_
    obtain ⟨I6, hI6, h⟩ := sm_lt_e h
    refine sm_putI (q := 32) dX6_add_29 rfl fk_X6_18 hc1 (by decide) (by decide) ?_
    refine sm_memI hI6 ?_
    obtain rfl := Option.some.inj h
    exact sm_vret dX6_add_32 rfl
theorem e_X6_add {l : Launch} {N : Nat} {R : Nat → Nat → Nat} {a0 : Nat} {a1 : Int32} {I : (Nat → Nat → Int32)} {y : (Unit × (Nat → Nat → Int32))} (h : f_X6_add N R a0 a1 I = some y) : sm_E l 0 mX6_add [.inr (.inl a0), .inl a1] (I, R) (.inl none) (y.2, R) :=
  sm_meth (by decide) (Nat.le_of_ble_eq_true rfl) (w_X6_add N R a0 a1 I y h)
def f_X9_lastWeekOf_4 (N : Nat) (R : Nat → Nat → Nat) : Nat → Nat → Int32 → Int32 → Int32 → (Nat → Nat → Int32) → Option (Int32 × (Nat → Nat → Int32))
  | 0, _, _, _, _, _ => none
  | n + 1, a0, a1, a2, a3, I =>
    sm_gd (sm_kd a0 = (9, 4)) <|
    if (I a0 3) ≤ a3 then (
      some (a2, I))
    else (
      sm_gd ((sm_kd (R a0 0)).1 = 13 ∧ ¬ (a3 < 0 ∨ (sm_kd (R a0 0)).2 ≤ (a3).toNatClampNeg)) <|
      if (I (R a0 0) (a3).toNatClampNeg) = a1 then (
        sm_gd ((sm_kd (R a0 1)).1 = 13 ∧ ¬ (a3 < 0 ∨ (sm_kd (R a0 1)).2 ≤ (a3).toNatClampNeg)) <|
        f_X9_lastWeekOf_4 N R n a0 a1 (sm_mx a2 (I (R a0 1) (a3).toNatClampNeg)) (a3 + 1) I)
      else (
        f_X9_lastWeekOf_4 N R n a0 a1 a2 (a3 + 1) I))
def f_X9_lastWeekOf (N : Nat) (R : Nat → Nat → Nat) : Nat → Int32 → (Nat → Nat → Int32) → Option (Int32 × (Nat → Nat → Int32)) := fun a0 a1 I =>
  f_X9_lastWeekOf_4 N R N a0 a1 (0 : Int32) (0 : Int32) I
set_option maxHeartbeats 4000000 in
set_option maxRecDepth 100000 in
theorem w_X9_lastWeekOf_4 {l : Launch} (N : Nat) (R : Nat → Nat → Nat) : ∀ (n : Nat) (a0 : Nat) (a1 : Int32) (a2 : Int32) (a3 : Int32) (I : (Nat → Nat → Int32)) (y : (Int32 × (Nat → Nat → Int32))), f_X9_lastWeekOf_4 N R n a0 a1 a2 a3 I = some y → sm_W l 0 mX9_lastWeekOf 4 [(0, .inr (.inl a0)), (1, .inl a1), (2, .inl a2), (3, .inl a3)] [] (I, R) (.inl (some (.inl y.1))) (y.2, R) := by
  intro n
  induction n with
  | zero => intro a0 a1 a2 a3 I y h; cases h
  | succ n ih =>
    intro a0 a1 a2 a3 I y h
    rw [f_X9_lastWeekOf_4] at h
    refine sm_iload_n (q := 5) dX9_lastWeekOf_4 rfl rfl 3 rfl ?_
    refine sm_aload_n (q := 6) dX9_lastWeekOf_5 rfl rfl 0 rfl ?_
    obtain ⟨hc1, h⟩ := sm_gd_e h
    refine sm_getI (q := 9) dX9_lastWeekOf_6 rfl fk_X9_21 hc1 (by decide) (by decide) ?_
    rcases sm_if_e h with ⟨hb2, h⟩ | ⟨hb2, h⟩
    · refine sm_icmp_ge (tgt := 39) (q := 12) dX9_lastWeekOf_9 (by decide) rfl (fun _ => ?_) (fun hn => absurd hb2 hn)
      refine sm_iload_n (q := 40) dX9_lastWeekOf_39 rfl rfl 2 rfl ?_
      obtain rfl := Option.some.inj h
      exact sm_iret dX9_lastWeekOf_40 rfl
    · refine sm_icmp_ge (tgt := 39) (q := 12) dX9_lastWeekOf_9 (by decide) rfl (fun ht => absurd ht hb2) (fun _ => ?_)
      refine sm_aload_n (q := 13) dX9_lastWeekOf_12 rfl rfl 0 rfl ?_
      refine sm_getR (r := R a0 0) (q := 16) dX9_lastWeekOf_13 rfl fk_X9_9 hc1 (by decide) (by decide) rfl ?_
      refine sm_iload_n (q := 17) dX9_lastWeekOf_16 rfl rfl 3 rfl ?_
      obtain ⟨hc3, h⟩ := sm_gd_e h
      refine sm_iald (n := (sm_kd (R a0 0)).2) (q := 18) dX9_lastWeekOf_17 rfl (Prod.ext hc3.1 rfl) hc3.2 ?_
      refine sm_iload_n (q := 19) dX9_lastWeekOf_18 rfl rfl 1 rfl ?_
      rcases sm_if_e h with ⟨hb4, h⟩ | ⟨hb4, h⟩
      · refine sm_icmp_ne (tgt := 33) (q := 22) dX9_lastWeekOf_19 (by decide) rfl (fun hn => absurd hb4 hn) (fun _ => ?_)
        refine sm_iload_n (q := 23) dX9_lastWeekOf_22 rfl rfl 2 rfl ?_
        refine sm_aload_n (q := 24) dX9_lastWeekOf_23 rfl rfl 0 rfl ?_
        refine sm_getR (r := R a0 1) (q := 27) dX9_lastWeekOf_24 rfl fk_X9_15 hc1 (by decide) (by decide) rfl ?_
        refine sm_iload_n (q := 28) dX9_lastWeekOf_27 rfl rfl 3 rfl ?_
        obtain ⟨hc5, h⟩ := sm_gd_e h
        refine sm_iald (n := (sm_kd (R a0 1)).2) (q := 29) dX9_lastWeekOf_28 rfl (Prod.ext hc5.1 rfl) hc5.2 ?_
        refine sm_mmx (q := 32) dX9_lastWeekOf_29 rfl mm_X9_25 (Nat.le_of_ble_eq_true rfl) ?_
        refine sm_istore_n (L' := [(2, .inl (sm_mx a2 (I (R a0 1) (a3).toNatClampNeg))), (0, .inr (.inl a0)), (1, .inl a1), (3, .inl a3)]) (q := 33) dX9_lastWeekOf_32 rfl rfl (by decide) rfl ?_
        refine sm_iinc (v := (a3 + 1)) (L' := [(3, .inl (a3 + 1)), (2, .inl (sm_mx a2 (I (R a0 1) (a3).toNatClampNeg))), (0, .inr (.inl a0)), (1, .inl a1)]) (q := 36) dX9_lastWeekOf_33 rfl 3 rfl rfl (by decide) rfl ?_
        refine sm_goto (q := 4) dX9_lastWeekOf_36 (by decide) ?_
        refine sm_pick [2, 3, 1, 0] rfl ?_
        exact ih _ _ _ _ _ _ h
      · refine sm_icmp_ne (tgt := 33) (q := 22) dX9_lastWeekOf_19 (by decide) rfl (fun _ => ?_) (fun he => absurd he hb4)
        refine sm_iinc (v := (a3 + 1)) (L' := [(3, .inl (a3 + 1)), (0, .inr (.inl a0)), (1, .inl a1), (2, .inl a2)]) (q := 36) dX9_lastWeekOf_33 rfl 3 rfl rfl (by decide) rfl ?_
        refine sm_goto (q := 4) dX9_lastWeekOf_36 (by decide) ?_
        refine sm_pick [1, 2, 3, 0] rfl ?_
        exact ih _ _ _ _ _ _ h
set_option maxHeartbeats 4000000 in
set_option maxRecDepth 100000 in
theorem w_X9_lastWeekOf {l : Launch} (N : Nat) (R : Nat → Nat → Nat) : ∀ (a0 : Nat) (a1 : Int32) (I : (Nat → Nat → Int32)) (y : (Int32 × (Nat → Nat → Int32))), f_X9_lastWeekOf N R a0 a1 I = some y → sm_W l 0 mX9_lastWeekOf 0 [(0, .inr (.inl a0)), (1, .inl a1)] [] (I, R) (.inl (some (.inl y.1))) (y.2, R) := by
  intro a0 a1 I y h
  unfold f_X9_lastWeekOf at h
  refine sm_iconst (v := 0) (q := 1) dX9_lastWeekOf_0 rfl (by decide) ?_
  refine sm_istore_n (L' := [(2, .inl (0 : Int32)), (0, .inr (.inl a0)), (1, .inl a1)]) (q := 2) dX9_lastWeekOf_1 rfl rfl (by decide) rfl ?_
  refine sm_iconst (v := 0) (q := 3) dX9_lastWeekOf_2 rfl (by decide) ?_
  refine sm_istore_n (L' := [(3, .inl (0 : Int32)), (2, .inl (0 : Int32)), (0, .inr (.inl a0)), (1, .inl a1)]) (q := 4) dX9_lastWeekOf_3 rfl rfl (by decide) rfl ?_
  refine sm_pick [2, 3, 1, 0] rfl ?_
  exact w_X9_lastWeekOf_4 N R N _ _ _ _ _ _ h
theorem e_X9_lastWeekOf {l : Launch} {N : Nat} {R : Nat → Nat → Nat} {a0 : Nat} {a1 : Int32} {I : (Nat → Nat → Int32)} {y : (Int32 × (Nat → Nat → Int32))} (h : f_X9_lastWeekOf N R a0 a1 I = some y) : sm_E l 0 mX9_lastWeekOf [.inr (.inl a0), .inl a1] (I, R) (.inl (some (.inl y.1))) (y.2, R) :=
  sm_meth (by decide) (Nat.le_of_ble_eq_true rfl) (w_X9_lastWeekOf N R a0 a1 I y h)
def f_X9_speaksAgainst_3 (N : Nat) (R : Nat → Nat → Nat) : Nat → Nat → Int32 → Int32 → Int32 → Int32 → (Nat → Nat → Int32) → Option (Int32 × (Nat → Nat → Int32))
  | 0, _, _, _, _, _, _ => none
  | n + 1, a0, a1, a2, a3, a4, I =>
    sm_gd (sm_kd a0 = (9, 4)) <|
    if (I a0 3) ≤ a4 then (
      some ((0 : Int32), I))
    else (
      sm_gd ((sm_kd (R a0 0)).1 = 13 ∧ ¬ (a4 < 0 ∨ (sm_kd (R a0 0)).2 ≤ (a4).toNatClampNeg)) <|
      if (I (R a0 0) (a4).toNatClampNeg) = a1 then (
        sm_gd ((sm_kd (R a0 1)).1 = 13 ∧ ¬ (a4 < 0 ∨ (sm_kd (R a0 1)).2 ≤ (a4).toNatClampNeg)) <|
        if (I (R a0 1) (a4).toNatClampNeg) = a2 then (
          sm_gd ((sm_kd (R a0 2)).1 = 13 ∧ ¬ (a4 < 0 ∨ (sm_kd (R a0 2)).2 ≤ (a4).toNatClampNeg)) <|
          if (I (R a0 2) (a4).toNatClampNeg) = a3 then (
            f_X9_speaksAgainst_3 N R n a0 a1 a2 a3 (a4 + 1) I)
          else (
            some ((1 : Int32), I)))
        else (
          f_X9_speaksAgainst_3 N R n a0 a1 a2 a3 (a4 + 1) I))
      else (
        f_X9_speaksAgainst_3 N R n a0 a1 a2 a3 (a4 + 1) I))
def f_X9_speaksAgainst (N : Nat) (R : Nat → Nat → Nat) : Nat → Int32 → Int32 → Int32 → (Nat → Nat → Int32) → Option (Int32 × (Nat → Nat → Int32)) := fun a0 a1 a2 a3 I =>
  f_X9_speaksAgainst_3 N R N a0 a1 a2 a3 (0 : Int32) I
set_option maxHeartbeats 4000000 in
set_option maxRecDepth 100000 in
theorem w_X9_speaksAgainst_3 {l : Launch} (N : Nat) (R : Nat → Nat → Nat) : ∀ (n : Nat) (a0 : Nat) (a1 : Int32) (a2 : Int32) (a3 : Int32) (a4 : Int32) (I : (Nat → Nat → Int32)) (y : (Int32 × (Nat → Nat → Int32))), f_X9_speaksAgainst_3 N R n a0 a1 a2 a3 a4 I = some y → sm_W l 0 mX9_speaksAgainst 3 [(0, .inr (.inl a0)), (1, .inl a1), (2, .inl a2), (3, .inl a3), (4, .inl a4)] [] (I, R) (.inl (some (.inl y.1))) (y.2, R) := by
  intro n
  induction n with
  | zero => intro a0 a1 a2 a3 a4 I y h; cases h
  | succ n ih =>
    intro a0 a1 a2 a3 a4 I y h
    rw [f_X9_speaksAgainst_3] at h
    refine sm_iload (q := 5) dX9_speaksAgainst_3 rfl 4 rfl ?_
    refine sm_aload_n (q := 6) dX9_speaksAgainst_5 rfl rfl 0 rfl ?_
    obtain ⟨hc1, h⟩ := sm_gd_e h
    refine sm_getI (q := 9) dX9_speaksAgainst_6 rfl fk_X9_21 hc1 (by decide) (by decide) ?_
    rcases sm_if_e h with ⟨hb2, h⟩ | ⟨hb2, h⟩
    · refine sm_icmp_ge (tgt := 53) (q := 12) dX9_speaksAgainst_9 (by decide) rfl (fun _ => ?_) (fun hn => absurd hb2 hn)
      refine sm_iconst (v := 0) (q := 54) dX9_speaksAgainst_53 rfl (by decide) ?_
      obtain rfl := Option.some.inj h
      exact sm_zret dX9_speaksAgainst_54 rfl (by decide)
    · refine sm_icmp_ge (tgt := 53) (q := 12) dX9_speaksAgainst_9 (by decide) rfl (fun ht => absurd ht hb2) (fun _ => ?_)
      refine sm_aload_n (q := 13) dX9_speaksAgainst_12 rfl rfl 0 rfl ?_
      refine sm_getR (r := R a0 0) (q := 16) dX9_speaksAgainst_13 rfl fk_X9_9 hc1 (by decide) (by decide) rfl ?_
      refine sm_iload (q := 18) dX9_speaksAgainst_16 rfl 4 rfl ?_
      obtain ⟨hc3, h⟩ := sm_gd_e h
      refine sm_iald (n := (sm_kd (R a0 0)).2) (q := 19) dX9_speaksAgainst_18 rfl (Prod.ext hc3.1 rfl) hc3.2 ?_
      refine sm_iload_n (q := 20) dX9_speaksAgainst_19 rfl rfl 1 rfl ?_
      rcases sm_if_e h with ⟨hb4, h⟩ | ⟨hb4, h⟩
      · refine sm_icmp_ne (tgt := 47) (q := 23) dX9_speaksAgainst_20 (by decide) rfl (fun hn => absurd hb4 hn) (fun _ => ?_)
        refine sm_aload_n (q := 24) dX9_speaksAgainst_23 rfl rfl 0 rfl ?_
        refine sm_getR (r := R a0 1) (q := 27) dX9_speaksAgainst_24 rfl fk_X9_15 hc1 (by decide) (by decide) rfl ?_
        refine sm_iload (q := 29) dX9_speaksAgainst_27 rfl 4 rfl ?_
        obtain ⟨hc5, h⟩ := sm_gd_e h
        refine sm_iald (n := (sm_kd (R a0 1)).2) (q := 30) dX9_speaksAgainst_29 rfl (Prod.ext hc5.1 rfl) hc5.2 ?_
        refine sm_iload_n (q := 31) dX9_speaksAgainst_30 rfl rfl 2 rfl ?_
        rcases sm_if_e h with ⟨hb6, h⟩ | ⟨hb6, h⟩
        · refine sm_icmp_ne (tgt := 47) (q := 34) dX9_speaksAgainst_31 (by decide) rfl (fun hn => absurd hb6 hn) (fun _ => ?_)
          refine sm_aload_n (q := 35) dX9_speaksAgainst_34 rfl rfl 0 rfl ?_
          refine sm_getR (r := R a0 2) (q := 38) dX9_speaksAgainst_35 rfl fk_X9_18 hc1 (by decide) (by decide) rfl ?_
          refine sm_iload (q := 40) dX9_speaksAgainst_38 rfl 4 rfl ?_
          obtain ⟨hc7, h⟩ := sm_gd_e h
          refine sm_iald (n := (sm_kd (R a0 2)).2) (q := 41) dX9_speaksAgainst_40 rfl (Prod.ext hc7.1 rfl) hc7.2 ?_
          refine sm_iload_n (q := 42) dX9_speaksAgainst_41 rfl rfl 3 rfl ?_
          rcases sm_if_e h with ⟨hb8, h⟩ | ⟨hb8, h⟩
          · refine sm_icmp_eq (tgt := 47) (q := 45) dX9_speaksAgainst_42 (by decide) rfl (fun _ => ?_) (fun hn => absurd hb8 hn)
            refine sm_iinc (v := (a4 + 1)) (L' := [(4, .inl (a4 + 1)), (0, .inr (.inl a0)), (1, .inl a1), (2, .inl a2), (3, .inl a3)]) (q := 50) dX9_speaksAgainst_47 rfl 4 rfl rfl (by decide) rfl ?_
            refine sm_goto (q := 3) dX9_speaksAgainst_50 (by decide) ?_
            refine sm_pick [1, 2, 3, 4, 0] rfl ?_
            exact ih _ _ _ _ _ _ _ h
          · refine sm_icmp_eq (tgt := 47) (q := 45) dX9_speaksAgainst_42 (by decide) rfl (fun ht => absurd ht hb8) (fun _ => ?_)
            refine sm_iconst (v := 1) (q := 46) dX9_speaksAgainst_45 rfl (by decide) ?_
            obtain rfl := Option.some.inj h
            exact sm_zret dX9_speaksAgainst_46 rfl (by decide)
        · refine sm_icmp_ne (tgt := 47) (q := 34) dX9_speaksAgainst_31 (by decide) rfl (fun _ => ?_) (fun he => absurd he hb6)
          refine sm_iinc (v := (a4 + 1)) (L' := [(4, .inl (a4 + 1)), (0, .inr (.inl a0)), (1, .inl a1), (2, .inl a2), (3, .inl a3)]) (q := 50) dX9_speaksAgainst_47 rfl 4 rfl rfl (by decide) rfl ?_
          refine sm_goto (q := 3) dX9_speaksAgainst_50 (by decide) ?_
          refine sm_pick [1, 2, 3, 4, 0] rfl ?_
          exact ih _ _ _ _ _ _ _ h
      · refine sm_icmp_ne (tgt := 47) (q := 23) dX9_speaksAgainst_20 (by decide) rfl (fun _ => ?_) (fun he => absurd he hb4)
        refine sm_iinc (v := (a4 + 1)) (L' := [(4, .inl (a4 + 1)), (0, .inr (.inl a0)), (1, .inl a1), (2, .inl a2), (3, .inl a3)]) (q := 50) dX9_speaksAgainst_47 rfl 4 rfl rfl (by decide) rfl ?_
        refine sm_goto (q := 3) dX9_speaksAgainst_50 (by decide) ?_
        refine sm_pick [1, 2, 3, 4, 0] rfl ?_
        exact ih _ _ _ _ _ _ _ h
set_option maxHeartbeats 4000000 in
set_option maxRecDepth 100000 in
theorem w_X9_speaksAgainst {l : Launch} (N : Nat) (R : Nat → Nat → Nat) : ∀ (a0 : Nat) (a1 : Int32) (a2 : Int32) (a3 : Int32) (I : (Nat → Nat → Int32)) (y : (Int32 × (Nat → Nat → Int32))), f_X9_speaksAgainst N R a0 a1 a2 a3 I = some y → sm_W l 0 mX9_speaksAgainst 0 [(0, .inr (.inl a0)), (1, .inl a1), (2, .inl a2), (3, .inl a3)] [] (I, R) (.inl (some (.inl y.1))) (y.2, R) := by
  intro a0 a1 a2 a3 I y h
  unfold f_X9_speaksAgainst at h
  refine sm_iconst (v := 0) (q := 1) dX9_speaksAgainst_0 rfl (by decide) ?_
  refine sm_istore (L' := [(4, .inl (0 : Int32)), (0, .inr (.inl a0)), (1, .inl a1), (2, .inl a2), (3, .inl a3)]) (q := 3) dX9_speaksAgainst_1 rfl (by decide) rfl ?_
  refine sm_pick [1, 2, 3, 4, 0] rfl ?_
  exact w_X9_speaksAgainst_3 N R N _ _ _ _ _ _ _ h
theorem e_X9_speaksAgainst {l : Launch} {N : Nat} {R : Nat → Nat → Nat} {a0 : Nat} {a1 : Int32} {a2 : Int32} {a3 : Int32} {I : (Nat → Nat → Int32)} {y : (Int32 × (Nat → Nat → Int32))} (h : f_X9_speaksAgainst N R a0 a1 a2 a3 I = some y) : sm_E l 0 mX9_speaksAgainst [.inr (.inl a0), .inl a1, .inl a2, .inl a3] (I, R) (.inl (some (.inl y.1))) (y.2, R) :=
  sm_meth (by decide) (Nat.le_of_ble_eq_true rfl) (w_X9_speaksAgainst N R a0 a1 a2 a3 I y h)
def f_J6_numberOfTrailingZeros_0f7a4_62 (N : Nat) (R : Nat → Nat → Nat) : Int32 → Int32 → (Nat → Nat → Int32) → Option (Int32 × (Nat → Nat → Int32)) := fun a0 a1 I =>
  if a0 ≤ (4 : Int32) then (
    some ((a1 + (sm_us a0 (1 : Int32))), I))
  else (
    some (((a1 + 2) + (sm_us (sm_us a0 (2 : Int32)) (1 : Int32))), I))
def f_J6_numberOfTrailingZeros_0f7a4_49 (N : Nat) (R : Nat → Nat → Nat) : Int32 → Int32 → (Nat → Nat → Int32) → Option (Int32 × (Nat → Nat → Int32)) := fun a0 a1 I =>
  if a0 ≤ (16 : Int32) then (
    f_J6_numberOfTrailingZeros_0f7a4_62 N R a0 a1 I)
  else (
    f_J6_numberOfTrailingZeros_0f7a4_62 N R (sm_us a0 (4 : Int32)) (a1 + 4) I)
def f_J6_numberOfTrailingZeros_0f7a4_34 (N : Nat) (R : Nat → Nat → Nat) : Int32 → Int32 → (Nat → Nat → Int32) → Option (Int32 × (Nat → Nat → Int32)) := fun a0 a1 I =>
  if a0 ≤ (256 : Int32) then (
    f_J6_numberOfTrailingZeros_0f7a4_49 N R a0 a1 I)
  else (
    f_J6_numberOfTrailingZeros_0f7a4_49 N R (sm_us a0 (8 : Int32)) (a1 + 8) I)
def f_J6_numberOfTrailingZeros_0f7a4 (N : Nat) (R : Nat → Nat → Nat) : Int32 → (Nat → Nat → Int32) → Option (Int32 × (Nat → Nat → Int32)) := fun a0 I =>
  if 0 < ((a0 ^^^ (-1 : Int32)) &&& (a0 - (1 : Int32))) then (
    if ((a0 ^^^ (-1 : Int32)) &&& (a0 - (1 : Int32))) ≤ (65536 : Int32) then (
      f_J6_numberOfTrailingZeros_0f7a4_34 N R ((a0 ^^^ (-1 : Int32)) &&& (a0 - (1 : Int32))) (1 : Int32) I)
    else (
      f_J6_numberOfTrailingZeros_0f7a4_34 N R (sm_us ((a0 ^^^ (-1 : Int32)) &&& (a0 - (1 : Int32))) (16 : Int32)) ((1 : Int32) + 16) I))
  else (
    some ((((a0 ^^^ (-1 : Int32)) &&& (a0 - (1 : Int32))) &&& (32 : Int32)), I))
set_option maxHeartbeats 4000000 in
set_option maxRecDepth 100000 in
theorem w_J6_numberOfTrailingZeros_0f7a4_62 {l : Launch} (N : Nat) (R : Nat → Nat → Nat) : ∀ (a0 : Int32) (a1 : Int32) (I : (Nat → Nat → Int32)) (y : (Int32 × (Nat → Nat → Int32))), f_J6_numberOfTrailingZeros_0f7a4_62 N R a0 a1 I = some y → sm_W l 0 mJ6_numberOfTrailingZeros_0f7a4 62 [(0, .inl a0), (1, .inl a1)] [] (I, R) (.inl (some (.inl y.1))) (y.2, R) := by
  intro a0 a1 I y h
  unfold f_J6_numberOfTrailingZeros_0f7a4_62 at h
  refine sm_iload_n (q := 63) dJ6_numberOfTrailingZeros_0f7a4_62 rfl rfl 0 rfl ?_
  refine sm_iconst (v := 4) (q := 64) dJ6_numberOfTrailingZeros_0f7a4_63 rfl (by decide) ?_
  rcases sm_if_e h with ⟨hb1, h⟩ | ⟨hb1, h⟩
  · refine sm_icmp_le (tgt := 74) (q := 67) dJ6_numberOfTrailingZeros_0f7a4_64 (by decide) rfl (fun _ => ?_) (fun hn => absurd hb1 hn)
    refine sm_iload_n (q := 75) dJ6_numberOfTrailingZeros_0f7a4_74 rfl rfl 1 rfl ?_
    refine sm_iload_n (q := 76) dJ6_numberOfTrailingZeros_0f7a4_75 rfl rfl 0 rfl ?_
    refine sm_iconst (v := 1) (q := 77) dJ6_numberOfTrailingZeros_0f7a4_76 rfl (by decide) ?_
    refine sm_iushr (v := (sm_us a0 (1 : Int32))) (q := 78) dJ6_numberOfTrailingZeros_0f7a4_77 rfl rfl ?_
    refine sm_iadd (q := 79) dJ6_numberOfTrailingZeros_0f7a4_78 rfl ?_
    obtain rfl := Option.some.inj h
    exact sm_iret dJ6_numberOfTrailingZeros_0f7a4_79 rfl
  · refine sm_icmp_le (tgt := 74) (q := 67) dJ6_numberOfTrailingZeros_0f7a4_64 (by decide) rfl (fun ht => absurd ht hb1) (fun _ => ?_)
    refine sm_iinc (v := (a1 + 2)) (L' := [(1, .inl (a1 + 2)), (0, .inl a0)]) (q := 70) dJ6_numberOfTrailingZeros_0f7a4_67 rfl 1 rfl rfl (by decide) rfl ?_
    refine sm_iload_n (q := 71) dJ6_numberOfTrailingZeros_0f7a4_70 rfl rfl 1 rfl ?_
    refine sm_iconst (v := 2) (q := 72) dJ6_numberOfTrailingZeros_0f7a4_71 rfl (by decide) ?_
    refine sm_iushr (v := (sm_us a0 (2 : Int32))) (q := 73) dJ6_numberOfTrailingZeros_0f7a4_72 rfl rfl ?_
    refine sm_istore_n (L' := [(0, .inl (sm_us a0 (2 : Int32))), (1, .inl (a1 + 2))]) (q := 74) dJ6_numberOfTrailingZeros_0f7a4_73 rfl rfl (by decide) rfl ?_
    refine sm_iload_n (q := 75) dJ6_numberOfTrailingZeros_0f7a4_74 rfl rfl 1 rfl ?_
    refine sm_iload_n (q := 76) dJ6_numberOfTrailingZeros_0f7a4_75 rfl rfl 0 rfl ?_
    refine sm_iconst (v := 1) (q := 77) dJ6_numberOfTrailingZeros_0f7a4_76 rfl (by decide) ?_
    refine sm_iushr (v := (sm_us (sm_us a0 (2 : Int32)) (1 : Int32))) (q := 78) dJ6_numberOfTrailingZeros_0f7a4_77 rfl rfl ?_
    refine sm_iadd (q := 79) dJ6_numberOfTrailingZeros_0f7a4_78 rfl ?_
    obtain rfl := Option.some.inj h
    exact sm_iret dJ6_numberOfTrailingZeros_0f7a4_79 rfl
set_option maxHeartbeats 4000000 in
set_option maxRecDepth 100000 in
theorem w_J6_numberOfTrailingZeros_0f7a4_49 {l : Launch} (N : Nat) (R : Nat → Nat → Nat) : ∀ (a0 : Int32) (a1 : Int32) (I : (Nat → Nat → Int32)) (y : (Int32 × (Nat → Nat → Int32))), f_J6_numberOfTrailingZeros_0f7a4_49 N R a0 a1 I = some y → sm_W l 0 mJ6_numberOfTrailingZeros_0f7a4 49 [(0, .inl a0), (1, .inl a1)] [] (I, R) (.inl (some (.inl y.1))) (y.2, R) := by
  intro a0 a1 I y h
  unfold f_J6_numberOfTrailingZeros_0f7a4_49 at h
  refine sm_iload_n (q := 50) dJ6_numberOfTrailingZeros_0f7a4_49 rfl rfl 0 rfl ?_
  refine sm_bipush (v := 16) (q := 52) dJ6_numberOfTrailingZeros_0f7a4_50 rfl (by decide) ?_
  rcases sm_if_e h with ⟨hb1, h⟩ | ⟨hb1, h⟩
  · refine sm_icmp_le (tgt := 62) (q := 55) dJ6_numberOfTrailingZeros_0f7a4_52 (by decide) rfl (fun _ => ?_) (fun hn => absurd hb1 hn)
    refine sm_pick [0, 1] rfl ?_
    exact w_J6_numberOfTrailingZeros_0f7a4_62 N R _ _ _ _ h
  · refine sm_icmp_le (tgt := 62) (q := 55) dJ6_numberOfTrailingZeros_0f7a4_52 (by decide) rfl (fun ht => absurd ht hb1) (fun _ => ?_)
    refine sm_iinc (v := (a1 + 4)) (L' := [(1, .inl (a1 + 4)), (0, .inl a0)]) (q := 58) dJ6_numberOfTrailingZeros_0f7a4_55 rfl 1 rfl rfl (by decide) rfl ?_
    refine sm_iload_n (q := 59) dJ6_numberOfTrailingZeros_0f7a4_58 rfl rfl 1 rfl ?_
    refine sm_iconst (v := 4) (q := 60) dJ6_numberOfTrailingZeros_0f7a4_59 rfl (by decide) ?_
    refine sm_iushr (v := (sm_us a0 (4 : Int32))) (q := 61) dJ6_numberOfTrailingZeros_0f7a4_60 rfl rfl ?_
    refine sm_istore_n (L' := [(0, .inl (sm_us a0 (4 : Int32))), (1, .inl (a1 + 4))]) (q := 62) dJ6_numberOfTrailingZeros_0f7a4_61 rfl rfl (by decide) rfl ?_
    refine sm_pick [0, 1] rfl ?_
    exact w_J6_numberOfTrailingZeros_0f7a4_62 N R _ _ _ _ h
set_option maxHeartbeats 4000000 in
set_option maxRecDepth 100000 in
theorem w_J6_numberOfTrailingZeros_0f7a4_34 {l : Launch} (N : Nat) (R : Nat → Nat → Nat) : ∀ (a0 : Int32) (a1 : Int32) (I : (Nat → Nat → Int32)) (y : (Int32 × (Nat → Nat → Int32))), f_J6_numberOfTrailingZeros_0f7a4_34 N R a0 a1 I = some y → sm_W l 0 mJ6_numberOfTrailingZeros_0f7a4 34 [(0, .inl a0), (1, .inl a1)] [] (I, R) (.inl (some (.inl y.1))) (y.2, R) := by
  intro a0 a1 I y h
  unfold f_J6_numberOfTrailingZeros_0f7a4_34 at h
  refine sm_iload_n (q := 35) dJ6_numberOfTrailingZeros_0f7a4_34 rfl rfl 0 rfl ?_
  refine sm_sipush (v := 256) (q := 38) dJ6_numberOfTrailingZeros_0f7a4_35 rfl (by decide) ?_
  rcases sm_if_e h with ⟨hb1, h⟩ | ⟨hb1, h⟩
  · refine sm_icmp_le (tgt := 49) (q := 41) dJ6_numberOfTrailingZeros_0f7a4_38 (by decide) rfl (fun _ => ?_) (fun hn => absurd hb1 hn)
    refine sm_pick [0, 1] rfl ?_
    exact w_J6_numberOfTrailingZeros_0f7a4_49 N R _ _ _ _ h
  · refine sm_icmp_le (tgt := 49) (q := 41) dJ6_numberOfTrailingZeros_0f7a4_38 (by decide) rfl (fun ht => absurd ht hb1) (fun _ => ?_)
    refine sm_iinc (v := (a1 + 8)) (L' := [(1, .inl (a1 + 8)), (0, .inl a0)]) (q := 44) dJ6_numberOfTrailingZeros_0f7a4_41 rfl 1 rfl rfl (by decide) rfl ?_
    refine sm_iload_n (q := 45) dJ6_numberOfTrailingZeros_0f7a4_44 rfl rfl 1 rfl ?_
    refine sm_bipush (v := 8) (q := 47) dJ6_numberOfTrailingZeros_0f7a4_45 rfl (by decide) ?_
    refine sm_iushr (v := (sm_us a0 (8 : Int32))) (q := 48) dJ6_numberOfTrailingZeros_0f7a4_47 rfl rfl ?_
    refine sm_istore_n (L' := [(0, .inl (sm_us a0 (8 : Int32))), (1, .inl (a1 + 8))]) (q := 49) dJ6_numberOfTrailingZeros_0f7a4_48 rfl rfl (by decide) rfl ?_
    refine sm_pick [0, 1] rfl ?_
    exact w_J6_numberOfTrailingZeros_0f7a4_49 N R _ _ _ _ h
set_option maxHeartbeats 4000000 in
set_option maxRecDepth 100000 in
theorem w_J6_numberOfTrailingZeros_0f7a4 {l : Launch} (N : Nat) (R : Nat → Nat → Nat) : ∀ (a0 : Int32) (I : (Nat → Nat → Int32)) (y : (Int32 × (Nat → Nat → Int32))), f_J6_numberOfTrailingZeros_0f7a4 N R a0 I = some y → sm_W l 0 mJ6_numberOfTrailingZeros_0f7a4 0 [(0, .inl a0)] [] (I, R) (.inl (some (.inl y.1))) (y.2, R) := by
  intro a0 I y h
  unfold f_J6_numberOfTrailingZeros_0f7a4 at h
  refine sm_iload_n (q := 1) dJ6_numberOfTrailingZeros_0f7a4_0 rfl rfl 0 rfl ?_
  refine sm_iconst (v := -1) (q := 2) dJ6_numberOfTrailingZeros_0f7a4_1 rfl (by decide) ?_
  refine sm_ixor (q := 3) dJ6_numberOfTrailingZeros_0f7a4_2 rfl ?_
  refine sm_iload_n (q := 4) dJ6_numberOfTrailingZeros_0f7a4_3 rfl rfl 0 rfl ?_
  refine sm_iconst (v := 1) (q := 5) dJ6_numberOfTrailingZeros_0f7a4_4 rfl (by decide) ?_
  refine sm_isub (q := 6) dJ6_numberOfTrailingZeros_0f7a4_5 rfl ?_
  refine sm_iand (q := 7) dJ6_numberOfTrailingZeros_0f7a4_6 rfl ?_
  refine sm_istore_n (L' := [(0, .inl ((a0 ^^^ (-1 : Int32)) &&& (a0 - (1 : Int32))))]) (q := 8) dJ6_numberOfTrailingZeros_0f7a4_7 rfl rfl (by decide) rfl ?_
  refine sm_iload_n (q := 9) dJ6_numberOfTrailingZeros_0f7a4_8 rfl rfl 0 rfl ?_
  rcases sm_if_e h with ⟨hb1, h⟩ | ⟨hb1, h⟩
  · refine sm_if_gt (tgt := 17) (q := 12) dJ6_numberOfTrailingZeros_0f7a4_9 (by decide) rfl (fun _ => ?_) (fun hn => absurd hb1 hn)
    refine sm_iconst (v := 1) (q := 18) dJ6_numberOfTrailingZeros_0f7a4_17 rfl (by decide) ?_
    refine sm_istore_n (L' := [(1, .inl (1 : Int32)), (0, .inl ((a0 ^^^ (-1 : Int32)) &&& (a0 - (1 : Int32))))]) (q := 19) dJ6_numberOfTrailingZeros_0f7a4_18 rfl rfl (by decide) rfl ?_
    refine sm_iload_n (q := 20) dJ6_numberOfTrailingZeros_0f7a4_19 rfl rfl 1 rfl ?_
    refine sm_ldcw (q := 23) dJ6_numberOfTrailingZeros_0f7a4_20 rfl co_J6_264 ?_
    rcases sm_if_e h with ⟨hb2, h⟩ | ⟨hb2, h⟩
    · refine sm_icmp_le (tgt := 34) (q := 26) dJ6_numberOfTrailingZeros_0f7a4_23 (by decide) rfl (fun _ => ?_) (fun hn => absurd hb2 hn)
      refine sm_pick [1, 0] rfl ?_
      exact w_J6_numberOfTrailingZeros_0f7a4_34 N R _ _ _ _ h
    · refine sm_icmp_le (tgt := 34) (q := 26) dJ6_numberOfTrailingZeros_0f7a4_23 (by decide) rfl (fun ht => absurd ht hb2) (fun _ => ?_)
      refine sm_iinc (v := ((1 : Int32) + 16)) (L' := [(1, .inl ((1 : Int32) + 16)), (0, .inl ((a0 ^^^ (-1 : Int32)) &&& (a0 - (1 : Int32))))]) (q := 29) dJ6_numberOfTrailingZeros_0f7a4_26 rfl 0 rfl rfl (by decide) rfl ?_
      refine sm_iload_n (q := 30) dJ6_numberOfTrailingZeros_0f7a4_29 rfl rfl 1 rfl ?_
      refine sm_bipush (v := 16) (q := 32) dJ6_numberOfTrailingZeros_0f7a4_30 rfl (by decide) ?_
      refine sm_iushr (v := (sm_us ((a0 ^^^ (-1 : Int32)) &&& (a0 - (1 : Int32))) (16 : Int32))) (q := 33) dJ6_numberOfTrailingZeros_0f7a4_32 rfl rfl ?_
      refine sm_istore_n (L' := [(0, .inl (sm_us ((a0 ^^^ (-1 : Int32)) &&& (a0 - (1 : Int32))) (16 : Int32))), (1, .inl ((1 : Int32) + 16))]) (q := 34) dJ6_numberOfTrailingZeros_0f7a4_33 rfl rfl (by decide) rfl ?_
      refine sm_pick [0, 1] rfl ?_
      exact w_J6_numberOfTrailingZeros_0f7a4_34 N R _ _ _ _ h
  · refine sm_if_gt (tgt := 17) (q := 12) dJ6_numberOfTrailingZeros_0f7a4_9 (by decide) rfl (fun ht => absurd ht hb1) (fun _ => ?_)
    refine sm_iload_n (q := 13) dJ6_numberOfTrailingZeros_0f7a4_12 rfl rfl 0 rfl ?_
    refine sm_bipush (v := 32) (q := 15) dJ6_numberOfTrailingZeros_0f7a4_13 rfl (by decide) ?_
    refine sm_iand (q := 16) dJ6_numberOfTrailingZeros_0f7a4_15 rfl ?_
    obtain rfl := Option.some.inj h
    exact sm_iret dJ6_numberOfTrailingZeros_0f7a4_16 rfl
theorem e_J6_numberOfTrailingZeros_0f7a4 {l : Launch} {N : Nat} {R : Nat → Nat → Nat} {a0 : Int32} {I : (Nat → Nat → Int32)} {y : (Int32 × (Nat → Nat → Int32))} (h : f_J6_numberOfTrailingZeros_0f7a4 N R a0 I = some y) : sm_E l 0 mJ6_numberOfTrailingZeros_0f7a4 [.inl a0] (I, R) (.inl (some (.inl y.1))) (y.2, R) :=
  sm_meth (by decide) (Nat.le_of_ble_eq_true rfl) (w_J6_numberOfTrailingZeros_0f7a4 N R a0 I y h)
def f_X9_clear (N : Nat) (R : Nat → Nat → Nat) : Nat → (Nat → Nat → Int32) → Option (Unit × (Nat → Nat → Int32)) := fun a0 I =>
  sm_gd (sm_kd a0 = (9, 4)) <|
  sm_lt (sm_up I a0 (sm_up (I a0) 3 (0 : Int32))) fun I2 =>
  some ((), I2)
set_option maxHeartbeats 4000000 in
set_option maxRecDepth 100000 in
theorem w_X9_clear {l : Launch} (N : Nat) (R : Nat → Nat → Nat) : ∀ (a0 : Nat) (I : (Nat → Nat → Int32)) (y : (Unit × (Nat → Nat → Int32))), f_X9_clear N R a0 I = some y → sm_W l 0 mX9_clear 0 [(0, .inr (.inl a0))] [] (I, R) (.inl none) (y.2, R) := by
  intro a0 I y h
  unfold f_X9_clear at h
  refine sm_aload_n (q := 1) dX9_clear_0 rfl rfl 0 rfl ?_
  refine sm_iconst (v := 0) (q := 2) dX9_clear_1 rfl (by decide) ?_
  obtain ⟨hc1, h⟩ := sm_gd_e h
  obtain ⟨I2, hI2, h⟩ := sm_lt_e h
  refine sm_putI (q := 5) dX9_clear_2 rfl fk_X9_21 hc1 (by decide) (by decide) ?_
  refine sm_memI hI2 ?_
  obtain rfl := Option.some.inj h
  exact sm_vret dX9_clear_5 rfl
theorem e_X9_clear {l : Launch} {N : Nat} {R : Nat → Nat → Nat} {a0 : Nat} {I : (Nat → Nat → Int32)} {y : (Unit × (Nat → Nat → Int32))} (h : f_X9_clear N R a0 I = some y) : sm_E l 0 mX9_clear [.inr (.inl a0)] (I, R) (.inl none) (y.2, R) :=
  sm_meth (by decide) (Nat.le_of_ble_eq_true rfl) (w_X9_clear N R a0 I y h)
def f_X9_become_10 (N : Nat) (R : Nat → Nat → Nat) : Nat → Nat → Nat → Int32 → (Nat → Nat → Int32) → Option (Unit × (Nat → Nat → Int32))
  | 0, _, _, _, _ => none
  | n + 1, a0, a1, a2, I =>
    sm_gd (sm_kd a0 = (9, 4)) <|
    if (I a0 3) ≤ a2 then (
      some ((), I))
    else (
      sm_gd (sm_kd a1 = (9, 4)) <|
      sm_gd ((sm_kd (R a1 0)).1 = 13 ∧ ¬ (a2 < 0 ∨ (sm_kd (R a1 0)).2 ≤ (a2).toNatClampNeg)) <|
      sm_gd ((sm_kd (R a0 0)).1 = 13 ∧ ¬ (a2 < 0 ∨ (sm_kd (R a0 0)).2 ≤ (a2).toNatClampNeg)) <|
      sm_lt (sm_up I (R a0 0) (sm_up (I (R a0 0)) (a2).toNatClampNeg (I (R a1 0) (a2).toNatClampNeg))) fun I6 =>
      sm_gd ((sm_kd (R a1 1)).1 = 13 ∧ ¬ (a2 < 0 ∨ (sm_kd (R a1 1)).2 ≤ (a2).toNatClampNeg)) <|
      sm_gd ((sm_kd (R a0 1)).1 = 13 ∧ ¬ (a2 < 0 ∨ (sm_kd (R a0 1)).2 ≤ (a2).toNatClampNeg)) <|
      sm_lt (sm_up I6 (R a0 1) (sm_up (I6 (R a0 1)) (a2).toNatClampNeg (I6 (R a1 1) (a2).toNatClampNeg))) fun I9 =>
      sm_gd ((sm_kd (R a1 2)).1 = 13 ∧ ¬ (a2 < 0 ∨ (sm_kd (R a1 2)).2 ≤ (a2).toNatClampNeg)) <|
      sm_gd ((sm_kd (R a0 2)).1 = 13 ∧ ¬ (a2 < 0 ∨ (sm_kd (R a0 2)).2 ≤ (a2).toNatClampNeg)) <|
      sm_lt (sm_up I9 (R a0 2) (sm_up (I9 (R a0 2)) (a2).toNatClampNeg (I9 (R a1 2) (a2).toNatClampNeg))) fun I12 =>
      f_X9_become_10 N R n a0 a1 (a2 + 1) I12)
def f_X9_become (N : Nat) (R : Nat → Nat → Nat) : Nat → Nat → (Nat → Nat → Int32) → Option (Unit × (Nat → Nat → Int32)) := fun a0 a1 I =>
  sm_gd (sm_kd a1 = (9, 4)) <|
  sm_gd (sm_kd a0 = (9, 4)) <|
  sm_lt (sm_up I a0 (sm_up (I a0) 3 (I a1 3))) fun I3 =>
  f_X9_become_10 N R N a0 a1 (0 : Int32) I3
set_option maxHeartbeats 4000000 in
set_option maxRecDepth 100000 in
theorem w_X9_become_10 {l : Launch} (N : Nat) (R : Nat → Nat → Nat) : ∀ (n : Nat) (a0 : Nat) (a1 : Nat) (a2 : Int32) (I : (Nat → Nat → Int32)) (y : (Unit × (Nat → Nat → Int32))), f_X9_become_10 N R n a0 a1 a2 I = some y → sm_W l 0 mX9_become 10 [(0, .inr (.inl a0)), (1, .inr (.inl a1)), (2, .inl a2)] [] (I, R) (.inl none) (y.2, R) := by
  intro n
  induction n with
  | zero => intro a0 a1 a2 I y h; cases h
  | succ n ih =>
    intro a0 a1 a2 I y h
    rw [f_X9_become_10] at h
    refine sm_iload_n (q := 11) dX9_become_10 rfl rfl 2 rfl ?_
    refine sm_aload_n (q := 12) dX9_become_11 rfl rfl 0 rfl ?_
    obtain ⟨hc1, h⟩ := sm_gd_e h
    refine sm_getI (q := 15) dX9_become_12 rfl fk_X9_21 hc1 (by decide) (by decide) ?_
    rcases sm_if_e h with ⟨hb2, h⟩ | ⟨hb2, h⟩
    · refine sm_icmp_ge (tgt := 60) (q := 18) dX9_become_15 (by decide) rfl (fun _ => ?_) (fun hn => absurd hb2 hn)
      obtain rfl := Option.some.inj h
      exact sm_vret dX9_become_60 rfl
    · refine sm_icmp_ge (tgt := 60) (q := 18) dX9_become_15 (by decide) rfl (fun ht => absurd ht hb2) (fun _ => ?_)
      refine sm_aload_n (q := 19) dX9_become_18 rfl rfl 0 rfl ?_
      refine sm_getR (r := R a0 0) (q := 22) dX9_become_19 rfl fk_X9_9 hc1 (by decide) (by decide) rfl ?_
      refine sm_iload_n (q := 23) dX9_become_22 rfl rfl 2 rfl ?_
      refine sm_aload_n (q := 24) dX9_become_23 rfl rfl 1 rfl ?_
      obtain ⟨hc3, h⟩ := sm_gd_e h
      refine sm_getR (r := R a1 0) (q := 27) dX9_become_24 rfl fk_X9_9 hc3 (by decide) (by decide) rfl ?_
      refine sm_iload_n (q := 28) dX9_become_27 rfl rfl 2 rfl ?_
      obtain ⟨hc4, h⟩ := sm_gd_e h
      refine sm_iald (n := (sm_kd (R a1 0)).2) (q := 29) dX9_become_28 rfl (Prod.ext hc4.1 rfl) hc4.2 ?_
      obtain ⟨hc5, h⟩ := sm_gd_e h
      obtain ⟨I6, hI6, h⟩ := sm_lt_e h
      refine sm_iast (n := (sm_kd (R a0 0)).2) (q := 30) dX9_become_29 rfl (Prod.ext hc5.1 rfl) hc5.2 ?_
      refine sm_memI hI6 ?_
      refine sm_aload_n (q := 31) dX9_become_30 rfl rfl 0 rfl ?_
      refine sm_getR (r := R a0 1) (q := 34) dX9_become_31 rfl fk_X9_15 hc1 (by decide) (by decide) rfl ?_
      refine sm_iload_n (q := 35) dX9_become_34 rfl rfl 2 rfl ?_
      refine sm_aload_n (q := 36) dX9_become_35 rfl rfl 1 rfl ?_
      refine sm_getR (r := R a1 1) (q := 39) dX9_become_36 rfl fk_X9_15 hc3 (by decide) (by decide) rfl ?_
      refine sm_iload_n (q := 40) dX9_become_39 rfl rfl 2 rfl ?_
      obtain ⟨hc7, h⟩ := sm_gd_e h
      refine sm_iald (n := (sm_kd (R a1 1)).2) (q := 41) dX9_become_40 rfl (Prod.ext hc7.1 rfl) hc7.2 ?_
      obtain ⟨hc8, h⟩ := sm_gd_e h
      obtain ⟨I9, hI9, h⟩ := sm_lt_e h
      refine sm_iast (n := (sm_kd (R a0 1)).2) (q := 42) dX9_become_41 rfl (Prod.ext hc8.1 rfl) hc8.2 ?_
      refine sm_memI hI9 ?_
      refine sm_aload_n (q := 43) dX9_become_42 rfl rfl 0 rfl ?_
      refine sm_getR (r := R a0 2) (q := 46) dX9_become_43 rfl fk_X9_18 hc1 (by decide) (by decide) rfl ?_
      refine sm_iload_n (q := 47) dX9_become_46 rfl rfl 2 rfl ?_
      refine sm_aload_n (q := 48) dX9_become_47 rfl rfl 1 rfl ?_
      refine sm_getR (r := R a1 2) (q := 51) dX9_become_48 rfl fk_X9_18 hc3 (by decide) (by decide) rfl ?_
      refine sm_iload_n (q := 52) dX9_become_51 rfl rfl 2 rfl ?_
      obtain ⟨hc10, h⟩ := sm_gd_e h
      refine sm_iald (n := (sm_kd (R a1 2)).2) (q := 53) dX9_become_52 rfl (Prod.ext hc10.1 rfl) hc10.2 ?_
      obtain ⟨hc11, h⟩ := sm_gd_e h
      obtain ⟨I12, hI12, h⟩ := sm_lt_e h
      refine sm_iast (n := (sm_kd (R a0 2)).2) (q := 54) dX9_become_53 rfl (Prod.ext hc11.1 rfl) hc11.2 ?_
      refine sm_memI hI12 ?_
      refine sm_iinc (v := (a2 + 1)) (L' := [(2, .inl (a2 + 1)), (0, .inr (.inl a0)), (1, .inr (.inl a1))]) (q := 57) dX9_become_54 rfl 2 rfl rfl (by decide) rfl ?_
      refine sm_goto (q := 10) dX9_become_57 (by decide) ?_
      refine sm_pick [1, 2, 0] rfl ?_
      exact ih _ _ _ _ _ h
set_option maxHeartbeats 4000000 in
set_option maxRecDepth 100000 in
theorem w_X9_become {l : Launch} (N : Nat) (R : Nat → Nat → Nat) : ∀ (a0 : Nat) (a1 : Nat) (I : (Nat → Nat → Int32)) (y : (Unit × (Nat → Nat → Int32))), f_X9_become N R a0 a1 I = some y → sm_W l 0 mX9_become 0 [(0, .inr (.inl a0)), (1, .inr (.inl a1))] [] (I, R) (.inl none) (y.2, R) := by
  intro a0 a1 I y h
  unfold f_X9_become at h
  refine sm_aload_n (q := 1) dX9_become_0 rfl rfl 0 rfl ?_
  refine sm_aload_n (q := 2) dX9_become_1 rfl rfl 1 rfl ?_
  obtain ⟨hc1, h⟩ := sm_gd_e h
  refine sm_getI (q := 5) dX9_become_2 rfl fk_X9_21 hc1 (by decide) (by decide) ?_
  obtain ⟨hc2, h⟩ := sm_gd_e h
  obtain ⟨I3, hI3, h⟩ := sm_lt_e h
  refine sm_putI (q := 8) dX9_become_5 rfl fk_X9_21 hc2 (by decide) (by decide) ?_
  refine sm_memI hI3 ?_
  refine sm_iconst (v := 0) (q := 9) dX9_become_8 rfl (by decide) ?_
  refine sm_istore_n (L' := [(2, .inl (0 : Int32)), (0, .inr (.inl a0)), (1, .inr (.inl a1))]) (q := 10) dX9_become_9 rfl rfl (by decide) rfl ?_
  refine sm_pick [1, 2, 0] rfl ?_
  exact w_X9_become_10 N R N _ _ _ _ _ h
theorem e_X9_become {l : Launch} {N : Nat} {R : Nat → Nat → Nat} {a0 : Nat} {a1 : Nat} {I : (Nat → Nat → Int32)} {y : (Unit × (Nat → Nat → Int32))} (h : f_X9_become N R a0 a1 I = some y) : sm_E l 0 mX9_become [.inr (.inl a0), .inr (.inl a1)] (I, R) (.inl none) (y.2, R) :=
  sm_meth (by decide) (Nat.le_of_ble_eq_true rfl) (w_X9_become N R a0 a1 I y h)
def f_X9_add (N : Nat) (R : Nat → Nat → Nat) : Nat → Int32 → Int32 → Int32 → (Nat → Nat → Int32) → Option (Unit × (Nat → Nat → Int32)) := fun a0 a1 a2 a3 I =>
  sm_gd (sm_kd a0 = (9, 4)) <|
  if (8 : Int32) ≤ (I a0 3) then (
    some ((), I))
  else (
    sm_gd ((sm_kd (R a0 0)).1 = 13 ∧ ¬ ((I a0 3) < 0 ∨ (sm_kd (R a0 0)).2 ≤ ((I a0 3)).toNatClampNeg)) <|
    sm_lt (sm_up I (R a0 0) (sm_up (I (R a0 0)) ((I a0 3)).toNatClampNeg a1)) fun I4 =>
    sm_gd ((sm_kd (R a0 1)).1 = 13 ∧ ¬ ((I4 a0 3) < 0 ∨ (sm_kd (R a0 1)).2 ≤ ((I4 a0 3)).toNatClampNeg)) <|
    sm_lt (sm_up I4 (R a0 1) (sm_up (I4 (R a0 1)) ((I4 a0 3)).toNatClampNeg a2)) fun I6 =>
    sm_gd ((sm_kd (R a0 2)).1 = 13 ∧ ¬ ((I6 a0 3) < 0 ∨ (sm_kd (R a0 2)).2 ≤ ((I6 a0 3)).toNatClampNeg)) <|
    sm_lt (sm_up I6 (R a0 2) (sm_up (I6 (R a0 2)) ((I6 a0 3)).toNatClampNeg a3)) fun I8 =>
    sm_lt (sm_up I8 a0 (sm_up (I8 a0) 3 ((I8 a0 3) + (1 : Int32)))) fun I9 =>
    some ((), I9))
set_option maxHeartbeats 4000000 in
set_option maxRecDepth 100000 in
theorem w_X9_add {l : Launch} (N : Nat) (R : Nat → Nat → Nat) : ∀ (a0 : Nat) (a1 : Int32) (a2 : Int32) (a3 : Int32) (I : (Nat → Nat → Int32)) (y : (Unit × (Nat → Nat → Int32))), f_X9_add N R a0 a1 a2 a3 I = some y → sm_W l 0 mX9_add 0 [(0, .inr (.inl a0)), (1, .inl a1), (2, .inl a2), (3, .inl a3)] [] (I, R) (.inl none) (y.2, R) := by
  intro a0 a1 a2 a3 I y h
  unfold f_X9_add at h
  refine sm_aload_n (q := 1) dX9_add_0 rfl rfl 0 rfl ?_
  obtain ⟨hc1, h⟩ := sm_gd_e h
  refine sm_getI (q := 4) dX9_add_1 rfl fk_X9_21 hc1 (by decide) (by decide) ?_
  refine sm_bipush (v := 8) (q := 6) dX9_add_4 rfl (by decide) ?_
  rcases sm_if_e h with ⟨hb2, h⟩ | ⟨hb2, h⟩
  · refine sm_icmp_ge (tgt := 49) (q := 9) dX9_add_6 (by decide) rfl (fun _ => ?_) (fun hn => absurd hb2 hn)
    obtain rfl := Option.some.inj h
    exact sm_vret dX9_add_49 rfl
  · refine sm_icmp_ge (tgt := 49) (q := 9) dX9_add_6 (by decide) rfl (fun ht => absurd ht hb2) (fun _ => ?_)
    refine sm_aload_n (q := 10) dX9_add_9 rfl rfl 0 rfl ?_
    refine sm_getR (r := R a0 0) (q := 13) dX9_add_10 rfl fk_X9_9 hc1 (by decide) (by decide) rfl ?_
    refine sm_aload_n (q := 14) dX9_add_13 rfl rfl 0 rfl ?_
    refine sm_getI (q := 17) dX9_add_14 rfl fk_X9_21 hc1 (by decide) (by decide) ?_
    refine sm_iload_n (q := 18) dX9_add_17 rfl rfl 1 rfl ?_
    obtain ⟨hc3, h⟩ := sm_gd_e h
    obtain ⟨I4, hI4, h⟩ := sm_lt_e h
    refine sm_iast (n := (sm_kd (R a0 0)).2) (q := 19) dX9_add_18 rfl (Prod.ext hc3.1 rfl) hc3.2 ?_
    refine sm_memI hI4 ?_
    refine sm_aload_n (q := 20) dX9_add_19 rfl rfl 0 rfl ?_
    refine sm_getR (r := R a0 1) (q := 23) dX9_add_20 rfl fk_X9_15 hc1 (by decide) (by decide) rfl ?_
    refine sm_aload_n (q := 24) dX9_add_23 rfl rfl 0 rfl ?_
    refine sm_getI (q := 27) dX9_add_24 rfl fk_X9_21 hc1 (by decide) (by decide) ?_
    refine sm_iload_n (q := 28) dX9_add_27 rfl rfl 2 rfl ?_
    obtain ⟨hc5, h⟩ := sm_gd_e h
    obtain ⟨I6, hI6, h⟩ := sm_lt_e h
    refine sm_iast (n := (sm_kd (R a0 1)).2) (q := 29) dX9_add_28 rfl (Prod.ext hc5.1 rfl) hc5.2 ?_
    refine sm_memI hI6 ?_
    refine sm_aload_n (q := 30) dX9_add_29 rfl rfl 0 rfl ?_
    refine sm_getR (r := R a0 2) (q := 33) dX9_add_30 rfl fk_X9_18 hc1 (by decide) (by decide) rfl ?_
    refine sm_aload_n (q := 34) dX9_add_33 rfl rfl 0 rfl ?_
    refine sm_getI (q := 37) dX9_add_34 rfl fk_X9_21 hc1 (by decide) (by decide) ?_
    refine sm_iload_n (q := 38) dX9_add_37 rfl rfl 3 rfl ?_
    obtain ⟨hc7, h⟩ := sm_gd_e h
    obtain ⟨I8, hI8, h⟩ := sm_lt_e h
    refine sm_iast (n := (sm_kd (R a0 2)).2) (q := 39) dX9_add_38 rfl (Prod.ext hc7.1 rfl) hc7.2 ?_
    refine sm_memI hI8 ?_
    refine sm_aload_n (q := 40) dX9_add_39 rfl rfl 0 rfl ?_
    refine sm_dup (q := 41) dX9_add_40 rfl rfl ?_
    refine sm_getI (q := 44) dX9_add_41 rfl fk_X9_21 hc1 (by decide) (by decide) ?_
    refine sm_iconst (v := 1) (q := 45) dX9_add_44 rfl (by decide) ?_
    refine sm_iadd (q := 46) dX9_add_45 rfl ?_
    obtain ⟨I9, hI9, h⟩ := sm_lt_e h
    refine sm_putI (q := 49) dX9_add_46 rfl fk_X9_21 hc1 (by decide) (by decide) ?_
    refine sm_memI hI9 ?_
    obtain rfl := Option.some.inj h
    exact sm_vret dX9_add_49 rfl
theorem e_X9_add {l : Launch} {N : Nat} {R : Nat → Nat → Nat} {a0 : Nat} {a1 : Int32} {a2 : Int32} {a3 : Int32} {I : (Nat → Nat → Int32)} {y : (Unit × (Nat → Nat → Int32))} (h : f_X9_add N R a0 a1 a2 a3 I = some y) : sm_E l 0 mX9_add [.inr (.inl a0), .inl a1, .inl a2, .inl a3] (I, R) (.inl none) (y.2, R) :=
  sm_meth (by decide) (Nat.le_of_ble_eq_true rfl) (w_X9_add N R a0 a1 a2 a3 I y h)
def f_X10_become_26 (N : Nat) (R : Nat → Nat → Nat) : Nat → Nat → Nat → Int32 → (Nat → Nat → Int32) → Option (Unit × (Nat → Nat → Int32))
  | 0, _, _, _, _ => none
  | n + 1, a0, a1, a2, I =>
    sm_gd (sm_kd a0 = (10, 4)) <|
    if (I a0 1) ≤ a2 then (
      some ((), I))
    else (
      sm_gd ((sm_kd (R a0 0)).1 = 16 ∧ ¬ (a2 < 0 ∨ (sm_kd (R a0 0)).2 ≤ (a2).toNatClampNeg)) <|
      sm_gd (sm_kd a1 = (10, 4)) <|
      sm_gd ((sm_kd (R a1 0)).1 = 16 ∧ ¬ (a2 < 0 ∨ (sm_kd (R a1 0)).2 ≤ (a2).toNatClampNeg)) <|
      sm_gd (sm_kd (R (R a0 0) (a2).toNatClampNeg) = (4, 6)) <|
      (f_X4_become N R (R (R a0 0) (a2).toNatClampNeg) (R (R a1 0) (a2).toNatClampNeg) I).bind fun p7 =>
      f_X10_become_26 N R n a0 a1 (a2 + 1) p7.2)
def f_X10_become (N : Nat) (R : Nat → Nat → Nat) : Nat → Nat → (Nat → Nat → Int32) → Option (Unit × (Nat → Nat → Int32)) := fun a0 a1 I =>
  sm_gd (sm_kd a1 = (10, 4)) <|
  sm_gd (sm_kd a0 = (10, 4)) <|
  sm_lt (sm_up I a0 (sm_up (I a0) 1 (I a1 1))) fun I3 =>
  sm_lt (sm_up I3 a0 (sm_up (I3 a0) 2 (I3 a1 2))) fun I4 =>
  sm_lt (sm_up I4 a0 (sm_up (I4 a0) 3 (I4 a1 3))) fun I5 =>
  f_X10_become_26 N R N a0 a1 (0 : Int32) I5
set_option maxHeartbeats 4000000 in
set_option maxRecDepth 100000 in
theorem w_X10_become_26 {l : Launch} (N : Nat) (R : Nat → Nat → Nat) : ∀ (n : Nat) (a0 : Nat) (a1 : Nat) (a2 : Int32) (I : (Nat → Nat → Int32)) (y : (Unit × (Nat → Nat → Int32))), f_X10_become_26 N R n a0 a1 a2 I = some y → sm_W l 1 mX10_become 26 [(0, .inr (.inl a0)), (1, .inr (.inl a1)), (2, .inl a2)] [] (I, R) (.inl none) (y.2, R) := by
  intro n
  induction n with
  | zero => intro a0 a1 a2 I y h; cases h
  | succ n ih =>
    intro a0 a1 a2 I y h
    rw [f_X10_become_26] at h
    refine sm_iload_n (q := 27) dX10_become_26 rfl rfl 2 rfl ?_
    refine sm_aload_n (q := 28) dX10_become_27 rfl rfl 0 rfl ?_
    obtain ⟨hc1, h⟩ := sm_gd_e h
    refine sm_getI (q := 31) dX10_become_28 rfl fk_X10_22 hc1 (by decide) (by decide) ?_
    rcases sm_if_e h with ⟨hb2, h⟩ | ⟨hb2, h⟩
    · refine sm_icmp_ge (tgt := 55) (q := 34) dX10_become_31 (by decide) rfl (fun _ => ?_) (fun hn => absurd hb2 hn)
      obtain rfl := Option.some.inj h
      exact sm_vret dX10_become_55 rfl
    · refine sm_icmp_ge (tgt := 55) (q := 34) dX10_become_31 (by decide) rfl (fun ht => absurd ht hb2) (fun _ => ?_)
      refine sm_aload_n (q := 35) dX10_become_34 rfl rfl 0 rfl ?_
      refine sm_getR (r := R a0 0) (q := 38) dX10_become_35 rfl fk_X10_11 hc1 (by decide) (by decide) rfl ?_
      refine sm_iload_n (q := 39) dX10_become_38 rfl rfl 2 rfl ?_
      obtain ⟨hc3, h⟩ := sm_gd_e h
      refine sm_aald (t := 3) (n := (sm_kd (R a0 0)).2) (q := 40) dX10_become_39 rfl (Prod.ext hc3.1 rfl) (Or.inl ⟨rfl, rfl⟩) hc3.2 rfl ?_
      refine sm_aload_n (q := 41) dX10_become_40 rfl rfl 1 rfl ?_
      obtain ⟨hc4, h⟩ := sm_gd_e h
      refine sm_getR (r := R a1 0) (q := 44) dX10_become_41 rfl fk_X10_11 hc4 (by decide) (by decide) rfl ?_
      refine sm_iload_n (q := 45) dX10_become_44 rfl rfl 2 rfl ?_
      obtain ⟨hc5, h⟩ := sm_gd_e h
      refine sm_aald (t := 3) (n := (sm_kd (R a1 0)).2) (q := 46) dX10_become_45 rfl (Prod.ext hc5.1 rfl) (Or.inl ⟨rfl, rfl⟩) hc5.2 rfl ?_
      obtain ⟨hc6, h⟩ := sm_gd_e h
      obtain ⟨p7, hc_p7, h⟩ := sm_bd_e h
      refine sm_callVv (q := 49) (As := [.inr (.inl (R (R a1 0) (a2).toNatClampNeg))]) (S := []) (e_X4_become hc_p7) mv_X10_28 hc6 rfl (by decide) (Nat.le_of_ble_eq_true rfl) dX10_become_46 rfl ?_
      refine sm_iinc (v := (a2 + 1)) (L' := [(2, .inl (a2 + 1)), (0, .inr (.inl a0)), (1, .inr (.inl a1))]) (q := 52) dX10_become_49 rfl 2 rfl rfl (by decide) rfl ?_
      refine sm_goto (q := 26) dX10_become_52 (by decide) ?_
      refine sm_pick [1, 2, 0] rfl ?_
      exact ih _ _ _ _ _ h
set_option maxHeartbeats 4000000 in
set_option maxRecDepth 100000 in
theorem w_X10_become {l : Launch} (N : Nat) (R : Nat → Nat → Nat) : ∀ (a0 : Nat) (a1 : Nat) (I : (Nat → Nat → Int32)) (y : (Unit × (Nat → Nat → Int32))), f_X10_become N R a0 a1 I = some y → sm_W l 1 mX10_become 0 [(0, .inr (.inl a0)), (1, .inr (.inl a1))] [] (I, R) (.inl none) (y.2, R) := by
  intro a0 a1 I y h
  unfold f_X10_become at h
  refine sm_aload_n (q := 1) dX10_become_0 rfl rfl 0 rfl ?_
  refine sm_aload_n (q := 2) dX10_become_1 rfl rfl 1 rfl ?_
  obtain ⟨hc1, h⟩ := sm_gd_e h
  refine sm_getI (q := 5) dX10_become_2 rfl fk_X10_22 hc1 (by decide) (by decide) ?_
  obtain ⟨hc2, h⟩ := sm_gd_e h
  obtain ⟨I3, hI3, h⟩ := sm_lt_e h
  refine sm_putI (q := 8) dX10_become_5 rfl fk_X10_22 hc2 (by decide) (by decide) ?_
  refine sm_memI hI3 ?_
  refine sm_aload_n (q := 9) dX10_become_8 rfl rfl 0 rfl ?_
  refine sm_aload_n (q := 10) dX10_become_9 rfl rfl 1 rfl ?_
  refine sm_getI (q := 13) dX10_become_10 rfl fk_X10_25 hc1 (by decide) (by decide) ?_
  obtain ⟨I4, hI4, h⟩ := sm_lt_e h
  refine sm_putI (q := 16) dX10_become_13 rfl fk_X10_25 hc2 (by decide) (by decide) ?_
  refine sm_memI hI4 ?_
  refine sm_aload_n (q := 17) dX10_become_16 rfl rfl 0 rfl ?_
  refine sm_aload_n (q := 18) dX10_become_17 rfl rfl 1 rfl ?_
  refine sm_getI (q := 21) dX10_become_18 rfl fk_X10_17 hc1 (by decide) (by decide) ?_
  obtain ⟨I5, hI5, h⟩ := sm_lt_e h
  refine sm_putI (q := 24) dX10_become_21 rfl fk_X10_17 hc2 (by decide) (by decide) ?_
  refine sm_memI hI5 ?_
  refine sm_iconst (v := 0) (q := 25) dX10_become_24 rfl (by decide) ?_
  refine sm_istore_n (L' := [(2, .inl (0 : Int32)), (0, .inr (.inl a0)), (1, .inr (.inl a1))]) (q := 26) dX10_become_25 rfl rfl (by decide) rfl ?_
  refine sm_pick [1, 2, 0] rfl ?_
  exact w_X10_become_26 N R N _ _ _ _ _ h
theorem e_X10_become {l : Launch} {N : Nat} {R : Nat → Nat → Nat} {a0 : Nat} {a1 : Nat} {I : (Nat → Nat → Int32)} {y : (Unit × (Nat → Nat → Int32))} (h : f_X10_become N R a0 a1 I = some y) : sm_E l 1 mX10_become [.inr (.inl a0), .inr (.inl a1)] (I, R) (.inl none) (y.2, R) :=
  sm_meth (by decide) (Nat.le_of_ble_eq_true rfl) (w_X10_become N R a0 a1 I y h)
def f_X10_openTo_4 (N : Nat) (R : Nat → Nat → Nat) : Nat → Nat → Nat → Int32 → Int32 → (Nat → Nat → Int32) → Option (Int32 × (Nat → Nat → Int32))
  | 0, _, _, _, _, _ => none
  | n + 1, a0, a1, a2, a3, I =>
    if (30 : Int32) < a3 then (
      some (a2, I))
    else (
      sm_gd (sm_kd a0 = (10, 4)) <|
      (f_X10_couldGo N R a0 a1 a3 I).bind fun p3 =>
      if p3.1 = 0 then (
        f_X10_openTo_4 N R n a0 a1 a2 (a3 + 1) p3.2)
      else (
        f_X10_openTo_4 N R n a0 a1 (a2 ||| ((1 : Int32) <<< ((a3 - (1 : Int32)) &&& 31))) (a3 + 1) p3.2))
def f_X10_openTo (N : Nat) (R : Nat → Nat → Nat) : Nat → Nat → (Nat → Nat → Int32) → Option (Int32 × (Nat → Nat → Int32)) := fun a0 a1 I =>
  f_X10_openTo_4 N R N a0 a1 (0 : Int32) (1 : Int32) I
set_option maxHeartbeats 4000000 in
set_option maxRecDepth 100000 in
theorem w_X10_openTo_4 {l : Launch} (N : Nat) (R : Nat → Nat → Nat) : ∀ (n : Nat) (a0 : Nat) (a1 : Nat) (a2 : Int32) (a3 : Int32) (I : (Nat → Nat → Int32)) (y : (Int32 × (Nat → Nat → Int32))), f_X10_openTo_4 N R n a0 a1 a2 a3 I = some y → sm_W l 4 mX10_openTo 4 [(0, .inr (.inl a0)), (1, .inr (.inl a1)), (2, .inl a2), (3, .inl a3)] [] (I, R) (.inl (some (.inl y.1))) (y.2, R) := by
  intro n
  induction n with
  | zero => intro a0 a1 a2 a3 I y h; cases h
  | succ n ih =>
    intro a0 a1 a2 a3 I y h
    rw [f_X10_openTo_4] at h
    refine sm_iload_n (q := 5) dX10_openTo_4 rfl rfl 3 rfl ?_
    refine sm_bipush (v := 30) (q := 7) dX10_openTo_5 rfl (by decide) ?_
    rcases sm_if_e h with ⟨hb1, h⟩ | ⟨hb1, h⟩
    · refine sm_icmp_gt (tgt := 33) (q := 10) dX10_openTo_7 (by decide) rfl (fun _ => ?_) (fun hn => absurd hb1 hn)
      refine sm_iload_n (q := 34) dX10_openTo_33 rfl rfl 2 rfl ?_
      obtain rfl := Option.some.inj h
      exact sm_iret dX10_openTo_34 rfl
    · refine sm_icmp_gt (tgt := 33) (q := 10) dX10_openTo_7 (by decide) rfl (fun ht => absurd ht hb1) (fun _ => ?_)
      refine sm_aload_n (q := 11) dX10_openTo_10 rfl rfl 0 rfl ?_
      refine sm_aload_n (q := 12) dX10_openTo_11 rfl rfl 1 rfl ?_
      refine sm_iload_n (q := 13) dX10_openTo_12 rfl rfl 3 rfl ?_
      obtain ⟨hc2, h⟩ := sm_gd_e h
      obtain ⟨p3, hc_p3, h⟩ := sm_bd_e h
      refine sm_callVi (q := 16) (As := [.inr (.inl a1), .inl a3]) (S := []) (e_X10_couldGo hc_p3) mv_X10_55 hc2 rfl (by decide) (Nat.le_of_ble_eq_true rfl) dX10_openTo_13 rfl ?_
      rcases sm_if_e h with ⟨hb4, h⟩ | ⟨hb4, h⟩
      · refine sm_if_eq (tgt := 27) (q := 19) dX10_openTo_16 (by decide) rfl (fun _ => ?_) (fun hn => absurd hb4 hn)
        refine sm_iinc (v := (a3 + 1)) (L' := [(3, .inl (a3 + 1)), (0, .inr (.inl a0)), (1, .inr (.inl a1)), (2, .inl a2)]) (q := 30) dX10_openTo_27 rfl 3 rfl rfl (by decide) rfl ?_
        refine sm_goto (q := 4) dX10_openTo_30 (by decide) ?_
        refine sm_pick [1, 2, 3, 0] rfl ?_
        exact ih _ _ _ _ _ _ h
      · refine sm_if_eq (tgt := 27) (q := 19) dX10_openTo_16 (by decide) rfl (fun ht => absurd ht hb4) (fun _ => ?_)
        refine sm_iload_n (q := 20) dX10_openTo_19 rfl rfl 2 rfl ?_
        refine sm_iconst (v := 1) (q := 21) dX10_openTo_20 rfl (by decide) ?_
        refine sm_iload_n (q := 22) dX10_openTo_21 rfl rfl 3 rfl ?_
        refine sm_iconst (v := 1) (q := 23) dX10_openTo_22 rfl (by decide) ?_
        refine sm_isub (q := 24) dX10_openTo_23 rfl ?_
        refine sm_ishl (q := 25) dX10_openTo_24 rfl ?_
        refine sm_ior (q := 26) dX10_openTo_25 rfl ?_
        refine sm_istore_n (L' := [(2, .inl (a2 ||| ((1 : Int32) <<< ((a3 - (1 : Int32)) &&& 31)))), (0, .inr (.inl a0)), (1, .inr (.inl a1)), (3, .inl a3)]) (q := 27) dX10_openTo_26 rfl rfl (by decide) rfl ?_
        refine sm_iinc (v := (a3 + 1)) (L' := [(3, .inl (a3 + 1)), (2, .inl (a2 ||| ((1 : Int32) <<< ((a3 - (1 : Int32)) &&& 31)))), (0, .inr (.inl a0)), (1, .inr (.inl a1))]) (q := 30) dX10_openTo_27 rfl 3 rfl rfl (by decide) rfl ?_
        refine sm_goto (q := 4) dX10_openTo_30 (by decide) ?_
        refine sm_pick [2, 3, 1, 0] rfl ?_
        exact ih _ _ _ _ _ _ h
set_option maxHeartbeats 4000000 in
set_option maxRecDepth 100000 in
theorem w_X10_openTo {l : Launch} (N : Nat) (R : Nat → Nat → Nat) : ∀ (a0 : Nat) (a1 : Nat) (I : (Nat → Nat → Int32)) (y : (Int32 × (Nat → Nat → Int32))), f_X10_openTo N R a0 a1 I = some y → sm_W l 4 mX10_openTo 0 [(0, .inr (.inl a0)), (1, .inr (.inl a1))] [] (I, R) (.inl (some (.inl y.1))) (y.2, R) := by
  intro a0 a1 I y h
  unfold f_X10_openTo at h
  refine sm_iconst (v := 0) (q := 1) dX10_openTo_0 rfl (by decide) ?_
  refine sm_istore_n (L' := [(2, .inl (0 : Int32)), (0, .inr (.inl a0)), (1, .inr (.inl a1))]) (q := 2) dX10_openTo_1 rfl rfl (by decide) rfl ?_
  refine sm_iconst (v := 1) (q := 3) dX10_openTo_2 rfl (by decide) ?_
  refine sm_istore_n (L' := [(3, .inl (1 : Int32)), (2, .inl (0 : Int32)), (0, .inr (.inl a0)), (1, .inr (.inl a1))]) (q := 4) dX10_openTo_3 rfl rfl (by decide) rfl ?_
  refine sm_pick [2, 3, 1, 0] rfl ?_
  exact w_X10_openTo_4 N R N _ _ _ _ _ _ h
theorem e_X10_openTo {l : Launch} {N : Nat} {R : Nat → Nat → Nat} {a0 : Nat} {a1 : Nat} {I : (Nat → Nat → Int32)} {y : (Int32 × (Nat → Nat → Int32))} (h : f_X10_openTo N R a0 a1 I = some y) : sm_E l 4 mX10_openTo [.inr (.inl a0), .inr (.inl a1)] (I, R) (.inl (some (.inl y.1))) (y.2, R) :=
  sm_meth (by decide) (Nat.le_of_ble_eq_true rfl) (w_X10_openTo N R a0 a1 I y h)
def f_X10_skillOfAll_4 (N : Nat) (R : Nat → Nat → Nat) : Nat → Nat → Int32 → Int32 → (Nat → Nat → Int32) → Option (Int32 × (Nat → Nat → Int32))
  | 0, _, _, _, _ => none
  | n + 1, a0, a1, a2, I =>
    sm_gd (sm_kd a0 = (10, 4)) <|
    if (I a0 1) ≤ a2 then (
      some (a1, I))
    else (
      sm_gd ((sm_kd (R a0 0)).1 = 16 ∧ ¬ (a2 < 0 ∨ (sm_kd (R a0 0)).2 ≤ (a2).toNatClampNeg)) <|
      sm_gd (sm_kd (R (R a0 0) (a2).toNatClampNeg) = (4, 6)) <|
      f_X10_skillOfAll_4 N R n a0 (a1 + (I (R (R a0 0) (a2).toNatClampNeg) 0)) (a2 + 1) I)
def f_X10_skillOfAll (N : Nat) (R : Nat → Nat → Nat) : Nat → (Nat → Nat → Int32) → Option (Int32 × (Nat → Nat → Int32)) := fun a0 I =>
  f_X10_skillOfAll_4 N R N a0 (0 : Int32) (0 : Int32) I
set_option maxHeartbeats 4000000 in
set_option maxRecDepth 100000 in
theorem w_X10_skillOfAll_4 {l : Launch} (N : Nat) (R : Nat → Nat → Nat) : ∀ (n : Nat) (a0 : Nat) (a1 : Int32) (a2 : Int32) (I : (Nat → Nat → Int32)) (y : (Int32 × (Nat → Nat → Int32))), f_X10_skillOfAll_4 N R n a0 a1 a2 I = some y → sm_W l 0 mX10_skillOfAll 4 [(0, .inr (.inl a0)), (1, .inl a1), (2, .inl a2)] [] (I, R) (.inl (some (.inl y.1))) (y.2, R) := by
  intro n
  induction n with
  | zero => intro a0 a1 a2 I y h; cases h
  | succ n ih =>
    intro a0 a1 a2 I y h
    rw [f_X10_skillOfAll_4] at h
    refine sm_iload_n (q := 5) dX10_skillOfAll_4 rfl rfl 2 rfl ?_
    refine sm_aload_n (q := 6) dX10_skillOfAll_5 rfl rfl 0 rfl ?_
    obtain ⟨hc1, h⟩ := sm_gd_e h
    refine sm_getI (q := 9) dX10_skillOfAll_6 rfl fk_X10_22 hc1 (by decide) (by decide) ?_
    rcases sm_if_e h with ⟨hb2, h⟩ | ⟨hb2, h⟩
    · refine sm_icmp_ge (tgt := 30) (q := 12) dX10_skillOfAll_9 (by decide) rfl (fun _ => ?_) (fun hn => absurd hb2 hn)
      refine sm_iload_n (q := 31) dX10_skillOfAll_30 rfl rfl 1 rfl ?_
      obtain rfl := Option.some.inj h
      exact sm_iret dX10_skillOfAll_31 rfl
    · refine sm_icmp_ge (tgt := 30) (q := 12) dX10_skillOfAll_9 (by decide) rfl (fun ht => absurd ht hb2) (fun _ => ?_)
      refine sm_iload_n (q := 13) dX10_skillOfAll_12 rfl rfl 1 rfl ?_
      refine sm_aload_n (q := 14) dX10_skillOfAll_13 rfl rfl 0 rfl ?_
      refine sm_getR (r := R a0 0) (q := 17) dX10_skillOfAll_14 rfl fk_X10_11 hc1 (by decide) (by decide) rfl ?_
      refine sm_iload_n (q := 18) dX10_skillOfAll_17 rfl rfl 2 rfl ?_
      obtain ⟨hc3, h⟩ := sm_gd_e h
      refine sm_aald (t := 3) (n := (sm_kd (R a0 0)).2) (q := 19) dX10_skillOfAll_18 rfl (Prod.ext hc3.1 rfl) (Or.inl ⟨rfl, rfl⟩) hc3.2 rfl ?_
      obtain ⟨hc4, h⟩ := sm_gd_e h
      refine sm_getI (q := 22) dX10_skillOfAll_19 rfl fk_X10_59 hc4 (by decide) (by decide) ?_
      refine sm_iadd (q := 23) dX10_skillOfAll_22 rfl ?_
      refine sm_istore_n (L' := [(1, .inl (a1 + (I (R (R a0 0) (a2).toNatClampNeg) 0))), (0, .inr (.inl a0)), (2, .inl a2)]) (q := 24) dX10_skillOfAll_23 rfl rfl (by decide) rfl ?_
      refine sm_iinc (v := (a2 + 1)) (L' := [(2, .inl (a2 + 1)), (1, .inl (a1 + (I (R (R a0 0) (a2).toNatClampNeg) 0))), (0, .inr (.inl a0))]) (q := 27) dX10_skillOfAll_24 rfl 2 rfl rfl (by decide) rfl ?_
      refine sm_goto (q := 4) dX10_skillOfAll_27 (by decide) ?_
      refine sm_pick [2, 1, 0] rfl ?_
      exact ih _ _ _ _ _ h
set_option maxHeartbeats 4000000 in
set_option maxRecDepth 100000 in
theorem w_X10_skillOfAll {l : Launch} (N : Nat) (R : Nat → Nat → Nat) : ∀ (a0 : Nat) (I : (Nat → Nat → Int32)) (y : (Int32 × (Nat → Nat → Int32))), f_X10_skillOfAll N R a0 I = some y → sm_W l 0 mX10_skillOfAll 0 [(0, .inr (.inl a0))] [] (I, R) (.inl (some (.inl y.1))) (y.2, R) := by
  intro a0 I y h
  unfold f_X10_skillOfAll at h
  refine sm_iconst (v := 0) (q := 1) dX10_skillOfAll_0 rfl (by decide) ?_
  refine sm_istore_n (L' := [(1, .inl (0 : Int32)), (0, .inr (.inl a0))]) (q := 2) dX10_skillOfAll_1 rfl rfl (by decide) rfl ?_
  refine sm_iconst (v := 0) (q := 3) dX10_skillOfAll_2 rfl (by decide) ?_
  refine sm_istore_n (L' := [(2, .inl (0 : Int32)), (1, .inl (0 : Int32)), (0, .inr (.inl a0))]) (q := 4) dX10_skillOfAll_3 rfl rfl (by decide) rfl ?_
  refine sm_pick [2, 1, 0] rfl ?_
  exact w_X10_skillOfAll_4 N R N _ _ _ _ _ h
theorem e_X10_skillOfAll {l : Launch} {N : Nat} {R : Nat → Nat → Nat} {a0 : Nat} {I : (Nat → Nat → Int32)} {y : (Int32 × (Nat → Nat → Int32))} (h : f_X10_skillOfAll N R a0 I = some y) : sm_E l 0 mX10_skillOfAll [.inr (.inl a0)] (I, R) (.inl (some (.inl y.1))) (y.2, R) :=
  sm_meth (by decide) (Nat.le_of_ble_eq_true rfl) (w_X10_skillOfAll N R a0 I y h)
def f_X10_barsOfAll_4 (N : Nat) (R : Nat → Nat → Nat) : Nat → Nat → Int32 → Int32 → (Nat → Nat → Int32) → Option (Int32 × (Nat → Nat → Int32))
  | 0, _, _, _, _ => none
  | n + 1, a0, a1, a2, I =>
    sm_gd (sm_kd a0 = (10, 4)) <|
    if (I a0 1) ≤ a2 then (
      some (a1, I))
    else (
      sm_gd ((sm_kd (R a0 0)).1 = 16 ∧ ¬ (a2 < 0 ∨ (sm_kd (R a0 0)).2 ≤ (a2).toNatClampNeg)) <|
      sm_gd (sm_kd (R (R a0 0) (a2).toNatClampNeg) = (4, 6)) <|
      f_X10_barsOfAll_4 N R n a0 (a1 + (I (R (R a0 0) (a2).toNatClampNeg) 3)) (a2 + 1) I)
def f_X10_barsOfAll (N : Nat) (R : Nat → Nat → Nat) : Nat → (Nat → Nat → Int32) → Option (Int32 × (Nat → Nat → Int32)) := fun a0 I =>
  f_X10_barsOfAll_4 N R N a0 (0 : Int32) (0 : Int32) I
set_option maxHeartbeats 4000000 in
set_option maxRecDepth 100000 in
theorem w_X10_barsOfAll_4 {l : Launch} (N : Nat) (R : Nat → Nat → Nat) : ∀ (n : Nat) (a0 : Nat) (a1 : Int32) (a2 : Int32) (I : (Nat → Nat → Int32)) (y : (Int32 × (Nat → Nat → Int32))), f_X10_barsOfAll_4 N R n a0 a1 a2 I = some y → sm_W l 0 mX10_barsOfAll 4 [(0, .inr (.inl a0)), (1, .inl a1), (2, .inl a2)] [] (I, R) (.inl (some (.inl y.1))) (y.2, R) := by
  intro n
  induction n with
  | zero => intro a0 a1 a2 I y h; cases h
  | succ n ih =>
    intro a0 a1 a2 I y h
    rw [f_X10_barsOfAll_4] at h
    refine sm_iload_n (q := 5) dX10_barsOfAll_4 rfl rfl 2 rfl ?_
    refine sm_aload_n (q := 6) dX10_barsOfAll_5 rfl rfl 0 rfl ?_
    obtain ⟨hc1, h⟩ := sm_gd_e h
    refine sm_getI (q := 9) dX10_barsOfAll_6 rfl fk_X10_22 hc1 (by decide) (by decide) ?_
    rcases sm_if_e h with ⟨hb2, h⟩ | ⟨hb2, h⟩
    · refine sm_icmp_ge (tgt := 30) (q := 12) dX10_barsOfAll_9 (by decide) rfl (fun _ => ?_) (fun hn => absurd hb2 hn)
      refine sm_iload_n (q := 31) dX10_barsOfAll_30 rfl rfl 1 rfl ?_
      obtain rfl := Option.some.inj h
      exact sm_iret dX10_barsOfAll_31 rfl
    · refine sm_icmp_ge (tgt := 30) (q := 12) dX10_barsOfAll_9 (by decide) rfl (fun ht => absurd ht hb2) (fun _ => ?_)
      refine sm_iload_n (q := 13) dX10_barsOfAll_12 rfl rfl 1 rfl ?_
      refine sm_aload_n (q := 14) dX10_barsOfAll_13 rfl rfl 0 rfl ?_
      refine sm_getR (r := R a0 0) (q := 17) dX10_barsOfAll_14 rfl fk_X10_11 hc1 (by decide) (by decide) rfl ?_
      refine sm_iload_n (q := 18) dX10_barsOfAll_17 rfl rfl 2 rfl ?_
      obtain ⟨hc3, h⟩ := sm_gd_e h
      refine sm_aald (t := 3) (n := (sm_kd (R a0 0)).2) (q := 19) dX10_barsOfAll_18 rfl (Prod.ext hc3.1 rfl) (Or.inl ⟨rfl, rfl⟩) hc3.2 rfl ?_
      obtain ⟨hc4, h⟩ := sm_gd_e h
      refine sm_getI (q := 22) dX10_barsOfAll_19 rfl fk_X10_62 hc4 (by decide) (by decide) ?_
      refine sm_iadd (q := 23) dX10_barsOfAll_22 rfl ?_
      refine sm_istore_n (L' := [(1, .inl (a1 + (I (R (R a0 0) (a2).toNatClampNeg) 3))), (0, .inr (.inl a0)), (2, .inl a2)]) (q := 24) dX10_barsOfAll_23 rfl rfl (by decide) rfl ?_
      refine sm_iinc (v := (a2 + 1)) (L' := [(2, .inl (a2 + 1)), (1, .inl (a1 + (I (R (R a0 0) (a2).toNatClampNeg) 3))), (0, .inr (.inl a0))]) (q := 27) dX10_barsOfAll_24 rfl 2 rfl rfl (by decide) rfl ?_
      refine sm_goto (q := 4) dX10_barsOfAll_27 (by decide) ?_
      refine sm_pick [2, 1, 0] rfl ?_
      exact ih _ _ _ _ _ h
set_option maxHeartbeats 4000000 in
set_option maxRecDepth 100000 in
theorem w_X10_barsOfAll {l : Launch} (N : Nat) (R : Nat → Nat → Nat) : ∀ (a0 : Nat) (I : (Nat → Nat → Int32)) (y : (Int32 × (Nat → Nat → Int32))), f_X10_barsOfAll N R a0 I = some y → sm_W l 0 mX10_barsOfAll 0 [(0, .inr (.inl a0))] [] (I, R) (.inl (some (.inl y.1))) (y.2, R) := by
  intro a0 I y h
  unfold f_X10_barsOfAll at h
  refine sm_iconst (v := 0) (q := 1) dX10_barsOfAll_0 rfl (by decide) ?_
  refine sm_istore_n (L' := [(1, .inl (0 : Int32)), (0, .inr (.inl a0))]) (q := 2) dX10_barsOfAll_1 rfl rfl (by decide) rfl ?_
  refine sm_iconst (v := 0) (q := 3) dX10_barsOfAll_2 rfl (by decide) ?_
  refine sm_istore_n (L' := [(2, .inl (0 : Int32)), (1, .inl (0 : Int32)), (0, .inr (.inl a0))]) (q := 4) dX10_barsOfAll_3 rfl rfl (by decide) rfl ?_
  refine sm_pick [2, 1, 0] rfl ?_
  exact w_X10_barsOfAll_4 N R N _ _ _ _ _ h
theorem e_X10_barsOfAll {l : Launch} {N : Nat} {R : Nat → Nat → Nat} {a0 : Nat} {I : (Nat → Nat → Int32)} {y : (Int32 × (Nat → Nat → Int32))} (h : f_X10_barsOfAll N R a0 I = some y) : sm_E l 0 mX10_barsOfAll [.inr (.inl a0)] (I, R) (.inl (some (.inl y.1))) (y.2, R) :=
  sm_meth (by decide) (Nat.le_of_ble_eq_true rfl) (w_X10_barsOfAll N R a0 I y h)
def f_J6_numberOfLeadingZeros_0f7a4_61 (N : Nat) (R : Nat → Nat → Nat) : Int32 → Int32 → (Nat → Nat → Int32) → Option (Int32 × (Nat → Nat → Int32)) := fun a0 a1 I =>
  if a0 < (4 : Int32) then (
    some ((a1 - (sm_us a0 (1 : Int32))), I))
  else (
    some (((a1 + (-2)) - (sm_us (sm_us a0 (2 : Int32)) (1 : Int32))), I))
def f_J6_numberOfLeadingZeros_0f7a4_48 (N : Nat) (R : Nat → Nat → Nat) : Int32 → Int32 → (Nat → Nat → Int32) → Option (Int32 × (Nat → Nat → Int32)) := fun a0 a1 I =>
  if a0 < (16 : Int32) then (
    f_J6_numberOfLeadingZeros_0f7a4_61 N R a0 a1 I)
  else (
    f_J6_numberOfLeadingZeros_0f7a4_61 N R (sm_us a0 (4 : Int32)) (a1 + (-4)) I)
def f_J6_numberOfLeadingZeros_0f7a4_33 (N : Nat) (R : Nat → Nat → Nat) : Int32 → Int32 → (Nat → Nat → Int32) → Option (Int32 × (Nat → Nat → Int32)) := fun a0 a1 I =>
  if a0 < (256 : Int32) then (
    f_J6_numberOfLeadingZeros_0f7a4_48 N R a0 a1 I)
  else (
    f_J6_numberOfLeadingZeros_0f7a4_48 N R (sm_us a0 (8 : Int32)) (a1 + (-8)) I)
def f_J6_numberOfLeadingZeros_0f7a4 (N : Nat) (R : Nat → Nat → Nat) : Int32 → (Nat → Nat → Int32) → Option (Int32 × (Nat → Nat → Int32)) := fun a0 I =>
  if 0 < a0 then (
    if a0 < (65536 : Int32) then (
      f_J6_numberOfLeadingZeros_0f7a4_33 N R a0 (31 : Int32) I)
    else (
      f_J6_numberOfLeadingZeros_0f7a4_33 N R (sm_us a0 (16 : Int32)) ((31 : Int32) + (-16)) I))
  else (
    if a0 = 0 then (
      some ((32 : Int32), I))
    else (
      some ((0 : Int32), I)))
set_option maxHeartbeats 4000000 in
set_option maxRecDepth 100000 in
theorem w_J6_numberOfLeadingZeros_0f7a4_61 {l : Launch} (N : Nat) (R : Nat → Nat → Nat) : ∀ (a0 : Int32) (a1 : Int32) (I : (Nat → Nat → Int32)) (y : (Int32 × (Nat → Nat → Int32))), f_J6_numberOfLeadingZeros_0f7a4_61 N R a0 a1 I = some y → sm_W l 0 mJ6_numberOfLeadingZeros_0f7a4 61 [(0, .inl a0), (1, .inl a1)] [] (I, R) (.inl (some (.inl y.1))) (y.2, R) := by
  intro a0 a1 I y h
  unfold f_J6_numberOfLeadingZeros_0f7a4_61 at h
  refine sm_iload_n (q := 62) dJ6_numberOfLeadingZeros_0f7a4_61 rfl rfl 0 rfl ?_
  refine sm_iconst (v := 4) (q := 63) dJ6_numberOfLeadingZeros_0f7a4_62 rfl (by decide) ?_
  rcases sm_if_e h with ⟨hb1, h⟩ | ⟨hb1, h⟩
  · refine sm_icmp_lt (tgt := 73) (q := 66) dJ6_numberOfLeadingZeros_0f7a4_63 (by decide) rfl (fun _ => ?_) (fun hn => absurd hb1 hn)
    refine sm_iload_n (q := 74) dJ6_numberOfLeadingZeros_0f7a4_73 rfl rfl 1 rfl ?_
    refine sm_iload_n (q := 75) dJ6_numberOfLeadingZeros_0f7a4_74 rfl rfl 0 rfl ?_
    refine sm_iconst (v := 1) (q := 76) dJ6_numberOfLeadingZeros_0f7a4_75 rfl (by decide) ?_
    refine sm_iushr (v := (sm_us a0 (1 : Int32))) (q := 77) dJ6_numberOfLeadingZeros_0f7a4_76 rfl rfl ?_
    refine sm_isub (q := 78) dJ6_numberOfLeadingZeros_0f7a4_77 rfl ?_
    obtain rfl := Option.some.inj h
    exact sm_iret dJ6_numberOfLeadingZeros_0f7a4_78 rfl
  · refine sm_icmp_lt (tgt := 73) (q := 66) dJ6_numberOfLeadingZeros_0f7a4_63 (by decide) rfl (fun ht => absurd ht hb1) (fun _ => ?_)
    refine sm_iinc (v := (a1 + (-2))) (L' := [(1, .inl (a1 + (-2))), (0, .inl a0)]) (q := 69) dJ6_numberOfLeadingZeros_0f7a4_66 rfl 1 rfl rfl (by decide) rfl ?_
    refine sm_iload_n (q := 70) dJ6_numberOfLeadingZeros_0f7a4_69 rfl rfl 1 rfl ?_
    refine sm_iconst (v := 2) (q := 71) dJ6_numberOfLeadingZeros_0f7a4_70 rfl (by decide) ?_
    refine sm_iushr (v := (sm_us a0 (2 : Int32))) (q := 72) dJ6_numberOfLeadingZeros_0f7a4_71 rfl rfl ?_
    refine sm_istore_n (L' := [(0, .inl (sm_us a0 (2 : Int32))), (1, .inl (a1 + (-2)))]) (q := 73) dJ6_numberOfLeadingZeros_0f7a4_72 rfl rfl (by decide) rfl ?_
    refine sm_iload_n (q := 74) dJ6_numberOfLeadingZeros_0f7a4_73 rfl rfl 1 rfl ?_
    refine sm_iload_n (q := 75) dJ6_numberOfLeadingZeros_0f7a4_74 rfl rfl 0 rfl ?_
    refine sm_iconst (v := 1) (q := 76) dJ6_numberOfLeadingZeros_0f7a4_75 rfl (by decide) ?_
    refine sm_iushr (v := (sm_us (sm_us a0 (2 : Int32)) (1 : Int32))) (q := 77) dJ6_numberOfLeadingZeros_0f7a4_76 rfl rfl ?_
    refine sm_isub (q := 78) dJ6_numberOfLeadingZeros_0f7a4_77 rfl ?_
    obtain rfl := Option.some.inj h
    exact sm_iret dJ6_numberOfLeadingZeros_0f7a4_78 rfl
set_option maxHeartbeats 4000000 in
set_option maxRecDepth 100000 in
theorem w_J6_numberOfLeadingZeros_0f7a4_48 {l : Launch} (N : Nat) (R : Nat → Nat → Nat) : ∀ (a0 : Int32) (a1 : Int32) (I : (Nat → Nat → Int32)) (y : (Int32 × (Nat → Nat → Int32))), f_J6_numberOfLeadingZeros_0f7a4_48 N R a0 a1 I = some y → sm_W l 0 mJ6_numberOfLeadingZeros_0f7a4 48 [(0, .inl a0), (1, .inl a1)] [] (I, R) (.inl (some (.inl y.1))) (y.2, R) := by
  intro a0 a1 I y h
  unfold f_J6_numberOfLeadingZeros_0f7a4_48 at h
  refine sm_iload_n (q := 49) dJ6_numberOfLeadingZeros_0f7a4_48 rfl rfl 0 rfl ?_
  refine sm_bipush (v := 16) (q := 51) dJ6_numberOfLeadingZeros_0f7a4_49 rfl (by decide) ?_
  rcases sm_if_e h with ⟨hb1, h⟩ | ⟨hb1, h⟩
  · refine sm_icmp_lt (tgt := 61) (q := 54) dJ6_numberOfLeadingZeros_0f7a4_51 (by decide) rfl (fun _ => ?_) (fun hn => absurd hb1 hn)
    refine sm_pick [0, 1] rfl ?_
    exact w_J6_numberOfLeadingZeros_0f7a4_61 N R _ _ _ _ h
  · refine sm_icmp_lt (tgt := 61) (q := 54) dJ6_numberOfLeadingZeros_0f7a4_51 (by decide) rfl (fun ht => absurd ht hb1) (fun _ => ?_)
    refine sm_iinc (v := (a1 + (-4))) (L' := [(1, .inl (a1 + (-4))), (0, .inl a0)]) (q := 57) dJ6_numberOfLeadingZeros_0f7a4_54 rfl 1 rfl rfl (by decide) rfl ?_
    refine sm_iload_n (q := 58) dJ6_numberOfLeadingZeros_0f7a4_57 rfl rfl 1 rfl ?_
    refine sm_iconst (v := 4) (q := 59) dJ6_numberOfLeadingZeros_0f7a4_58 rfl (by decide) ?_
    refine sm_iushr (v := (sm_us a0 (4 : Int32))) (q := 60) dJ6_numberOfLeadingZeros_0f7a4_59 rfl rfl ?_
    refine sm_istore_n (L' := [(0, .inl (sm_us a0 (4 : Int32))), (1, .inl (a1 + (-4)))]) (q := 61) dJ6_numberOfLeadingZeros_0f7a4_60 rfl rfl (by decide) rfl ?_
    refine sm_pick [0, 1] rfl ?_
    exact w_J6_numberOfLeadingZeros_0f7a4_61 N R _ _ _ _ h
set_option maxHeartbeats 4000000 in
set_option maxRecDepth 100000 in
theorem w_J6_numberOfLeadingZeros_0f7a4_33 {l : Launch} (N : Nat) (R : Nat → Nat → Nat) : ∀ (a0 : Int32) (a1 : Int32) (I : (Nat → Nat → Int32)) (y : (Int32 × (Nat → Nat → Int32))), f_J6_numberOfLeadingZeros_0f7a4_33 N R a0 a1 I = some y → sm_W l 0 mJ6_numberOfLeadingZeros_0f7a4 33 [(0, .inl a0), (1, .inl a1)] [] (I, R) (.inl (some (.inl y.1))) (y.2, R) := by
  intro a0 a1 I y h
  unfold f_J6_numberOfLeadingZeros_0f7a4_33 at h
  refine sm_iload_n (q := 34) dJ6_numberOfLeadingZeros_0f7a4_33 rfl rfl 0 rfl ?_
  refine sm_sipush (v := 256) (q := 37) dJ6_numberOfLeadingZeros_0f7a4_34 rfl (by decide) ?_
  rcases sm_if_e h with ⟨hb1, h⟩ | ⟨hb1, h⟩
  · refine sm_icmp_lt (tgt := 48) (q := 40) dJ6_numberOfLeadingZeros_0f7a4_37 (by decide) rfl (fun _ => ?_) (fun hn => absurd hb1 hn)
    refine sm_pick [0, 1] rfl ?_
    exact w_J6_numberOfLeadingZeros_0f7a4_48 N R _ _ _ _ h
  · refine sm_icmp_lt (tgt := 48) (q := 40) dJ6_numberOfLeadingZeros_0f7a4_37 (by decide) rfl (fun ht => absurd ht hb1) (fun _ => ?_)
    refine sm_iinc (v := (a1 + (-8))) (L' := [(1, .inl (a1 + (-8))), (0, .inl a0)]) (q := 43) dJ6_numberOfLeadingZeros_0f7a4_40 rfl 1 rfl rfl (by decide) rfl ?_
    refine sm_iload_n (q := 44) dJ6_numberOfLeadingZeros_0f7a4_43 rfl rfl 1 rfl ?_
    refine sm_bipush (v := 8) (q := 46) dJ6_numberOfLeadingZeros_0f7a4_44 rfl (by decide) ?_
    refine sm_iushr (v := (sm_us a0 (8 : Int32))) (q := 47) dJ6_numberOfLeadingZeros_0f7a4_46 rfl rfl ?_
    refine sm_istore_n (L' := [(0, .inl (sm_us a0 (8 : Int32))), (1, .inl (a1 + (-8)))]) (q := 48) dJ6_numberOfLeadingZeros_0f7a4_47 rfl rfl (by decide) rfl ?_
    refine sm_pick [0, 1] rfl ?_
    exact w_J6_numberOfLeadingZeros_0f7a4_48 N R _ _ _ _ h
set_option maxHeartbeats 4000000 in
set_option maxRecDepth 100000 in
theorem w_J6_numberOfLeadingZeros_0f7a4 {l : Launch} (N : Nat) (R : Nat → Nat → Nat) : ∀ (a0 : Int32) (I : (Nat → Nat → Int32)) (y : (Int32 × (Nat → Nat → Int32))), f_J6_numberOfLeadingZeros_0f7a4 N R a0 I = some y → sm_W l 0 mJ6_numberOfLeadingZeros_0f7a4 0 [(0, .inl a0)] [] (I, R) (.inl (some (.inl y.1))) (y.2, R) := by
  intro a0 I y h
  unfold f_J6_numberOfLeadingZeros_0f7a4 at h
  refine sm_iload_n (q := 1) dJ6_numberOfLeadingZeros_0f7a4_0 rfl rfl 0 rfl ?_
  rcases sm_if_e h with ⟨hb1, h⟩ | ⟨hb1, h⟩
  · refine sm_if_gt (tgt := 15) (q := 4) dJ6_numberOfLeadingZeros_0f7a4_1 (by decide) rfl (fun _ => ?_) (fun hn => absurd hb1 hn)
    refine sm_bipush (v := 31) (q := 17) dJ6_numberOfLeadingZeros_0f7a4_15 rfl (by decide) ?_
    refine sm_istore_n (L' := [(1, .inl (31 : Int32)), (0, .inl a0)]) (q := 18) dJ6_numberOfLeadingZeros_0f7a4_17 rfl rfl (by decide) rfl ?_
    refine sm_iload_n (q := 19) dJ6_numberOfLeadingZeros_0f7a4_18 rfl rfl 1 rfl ?_
    refine sm_ldcw (q := 22) dJ6_numberOfLeadingZeros_0f7a4_19 rfl co_J6_264 ?_
    rcases sm_if_e h with ⟨hb2, h⟩ | ⟨hb2, h⟩
    · refine sm_icmp_lt (tgt := 33) (q := 25) dJ6_numberOfLeadingZeros_0f7a4_22 (by decide) rfl (fun _ => ?_) (fun hn => absurd hb2 hn)
      refine sm_pick [1, 0] rfl ?_
      exact w_J6_numberOfLeadingZeros_0f7a4_33 N R _ _ _ _ h
    · refine sm_icmp_lt (tgt := 33) (q := 25) dJ6_numberOfLeadingZeros_0f7a4_22 (by decide) rfl (fun ht => absurd ht hb2) (fun _ => ?_)
      refine sm_iinc (v := ((31 : Int32) + (-16))) (L' := [(1, .inl ((31 : Int32) + (-16))), (0, .inl a0)]) (q := 28) dJ6_numberOfLeadingZeros_0f7a4_25 rfl 0 rfl rfl (by decide) rfl ?_
      refine sm_iload_n (q := 29) dJ6_numberOfLeadingZeros_0f7a4_28 rfl rfl 1 rfl ?_
      refine sm_bipush (v := 16) (q := 31) dJ6_numberOfLeadingZeros_0f7a4_29 rfl (by decide) ?_
      refine sm_iushr (v := (sm_us a0 (16 : Int32))) (q := 32) dJ6_numberOfLeadingZeros_0f7a4_31 rfl rfl ?_
      refine sm_istore_n (L' := [(0, .inl (sm_us a0 (16 : Int32))), (1, .inl ((31 : Int32) + (-16)))]) (q := 33) dJ6_numberOfLeadingZeros_0f7a4_32 rfl rfl (by decide) rfl ?_
      refine sm_pick [0, 1] rfl ?_
      exact w_J6_numberOfLeadingZeros_0f7a4_33 N R _ _ _ _ h
  · refine sm_if_gt (tgt := 15) (q := 4) dJ6_numberOfLeadingZeros_0f7a4_1 (by decide) rfl (fun ht => absurd ht hb1) (fun _ => ?_)
    refine sm_iload_n (q := 5) dJ6_numberOfLeadingZeros_0f7a4_4 rfl rfl 0 rfl ?_
    rcases sm_if_e h with ⟨hb3, h⟩ | ⟨hb3, h⟩
    · refine sm_if_ne (tgt := 13) (q := 8) dJ6_numberOfLeadingZeros_0f7a4_5 (by decide) rfl (fun hn => absurd hb3 hn) (fun _ => ?_)
      refine sm_bipush (v := 32) (q := 10) dJ6_numberOfLeadingZeros_0f7a4_8 rfl (by decide) ?_
      refine sm_goto (q := 14) dJ6_numberOfLeadingZeros_0f7a4_10 (by decide) ?_
      obtain rfl := Option.some.inj h
      exact sm_iret dJ6_numberOfLeadingZeros_0f7a4_14 rfl
    · refine sm_if_ne (tgt := 13) (q := 8) dJ6_numberOfLeadingZeros_0f7a4_5 (by decide) rfl (fun _ => ?_) (fun he => absurd he hb3)
      refine sm_iconst (v := 0) (q := 14) dJ6_numberOfLeadingZeros_0f7a4_13 rfl (by decide) ?_
      obtain rfl := Option.some.inj h
      exact sm_iret dJ6_numberOfLeadingZeros_0f7a4_14 rfl
theorem e_J6_numberOfLeadingZeros_0f7a4 {l : Launch} {N : Nat} {R : Nat → Nat → Nat} {a0 : Int32} {I : (Nat → Nat → Int32)} {y : (Int32 × (Nat → Nat → Int32))} (h : f_J6_numberOfLeadingZeros_0f7a4 N R a0 I = some y) : sm_E l 0 mJ6_numberOfLeadingZeros_0f7a4 [.inl a0] (I, R) (.inl (some (.inl y.1))) (y.2, R) :=
  sm_meth (by decide) (Nat.le_of_ble_eq_true rfl) (w_J6_numberOfLeadingZeros_0f7a4 N R a0 I y h)
def f_J6_highestOneBit_0f7a4 (N : Nat) (R : Nat → Nat → Nat) : Int32 → (Nat → Nat → Int32) → Option (Int32 × (Nat → Nat → Int32)) := fun a0 I =>
  (f_J6_numberOfLeadingZeros_0f7a4 N R a0 I).bind fun p1 =>
  some ((a0 &&& (sm_us (-2147483648 : Int32) p1.1)), p1.2)
set_option maxHeartbeats 4000000 in
set_option maxRecDepth 100000 in
theorem w_J6_highestOneBit_0f7a4 {l : Launch} (N : Nat) (R : Nat → Nat → Nat) : ∀ (a0 : Int32) (I : (Nat → Nat → Int32)) (y : (Int32 × (Nat → Nat → Int32))), f_J6_highestOneBit_0f7a4 N R a0 I = some y → sm_W l 1 mJ6_highestOneBit_0f7a4 0 [(0, .inl a0)] [] (I, R) (.inl (some (.inl y.1))) (y.2, R) := by
  intro a0 I y h
  unfold f_J6_highestOneBit_0f7a4 at h
  refine sm_iload_n (q := 1) dJ6_highestOneBit_0f7a4_0 rfl rfl 0 rfl ?_
  refine sm_ldc (q := 3) dJ6_highestOneBit_0f7a4_1 rfl co_J6_127 ?_
  refine sm_iload_n (q := 4) dJ6_highestOneBit_0f7a4_3 rfl rfl 0 rfl ?_
  obtain ⟨p1, hc_p1, h⟩ := sm_bd_e h
  refine sm_callSi (q := 7) (As := [.inl a0]) (S := [.inl (-2147483648 : Int32), .inl a0]) (e_J6_numberOfLeadingZeros_0f7a4 hc_p1) ms_J6_51 rfl (by decide) (Nat.le_of_ble_eq_true rfl) dJ6_highestOneBit_0f7a4_4 rfl ?_
  refine sm_iushr (v := (sm_us (-2147483648 : Int32) p1.1)) (q := 8) dJ6_highestOneBit_0f7a4_7 rfl rfl ?_
  refine sm_iand (q := 9) dJ6_highestOneBit_0f7a4_8 rfl ?_
  obtain rfl := Option.some.inj h
  exact sm_iret dJ6_highestOneBit_0f7a4_9 rfl
theorem e_J6_highestOneBit_0f7a4 {l : Launch} {N : Nat} {R : Nat → Nat → Nat} {a0 : Int32} {I : (Nat → Nat → Int32)} {y : (Int32 × (Nat → Nat → Int32))} (h : f_J6_highestOneBit_0f7a4 N R a0 I = some y) : sm_E l 1 mJ6_highestOneBit_0f7a4 [.inl a0] (I, R) (.inl (some (.inl y.1))) (y.2, R) :=
  sm_meth (by decide) (Nat.le_of_ble_eq_true rfl) (w_J6_highestOneBit_0f7a4 N R a0 I y h)
