def f_X12_best_41 (N : Nat) (R : Nat → Nat → Nat) : Nat → Nat → Int32 → Int32 → (Nat → Nat → Int32) → Option (Int32 × (Nat → Nat → Int32))
  | 0, _, _, _, _ => none
  | n + 1, a0, a2, a3, I =>
    sm_gd (sm_kd a0 = (12, 59)) <|
    sm_gd ((sm_kd (R a0 4)).1 = 13 ∧ ¬ ((1 : Int32) < 0 ∨ (sm_kd (R a0 4)).2 ≤ ((1 : Int32)).toNatClampNeg)) <|
    if (I (R a0 4) ((1 : Int32)).toNatClampNeg) ≤ a3 then (
      (f_X12_unpack N R a0 (R a0 37) (0 : Int32) I).bind fun p4 =>
      some (a2, p4.2))
    else (
      if a2 = (-1 : Int32) then (
        f_X12_best_41 N R n a0 a3 (a3 + 1) I)
      else (
        sm_gd ((sm_kd (R a0 25)).1 = 13 ∧ ¬ (a3 < 0 ∨ (sm_kd (R a0 25)).2 ≤ (a3).toNatClampNeg)) <|
        sm_gd ((sm_kd (R a0 25)).1 = 13 ∧ ¬ (a2 < 0 ∨ (sm_kd (R a0 25)).2 ≤ (a2).toNatClampNeg)) <|
        if (I (R a0 25) (a3).toNatClampNeg) ≤ (I (R a0 25) (a2).toNatClampNeg) then (
          f_X12_best_41 N R n a0 a2 (a3 + 1) I)
        else (
          f_X12_best_41 N R n a0 a3 (a3 + 1) I)))
def f_X12_best (N : Nat) (R : Nat → Nat → Nat) : Nat → Int32 → (Nat → Nat → Int32) → Option (Int32 × (Nat → Nat → Int32)) := fun a0 a1 I =>
  sm_gd (sm_kd a0 = (12, 59)) <|
  sm_lt (sm_up I a0 (sm_up (I a0) 3 (0 : Int32))) fun I2 =>
  (f_X12_isIn N R (Int32.toInt64 a1) (0 : Int64) (60 : Int64) I2).bind fun p3 =>
  if p3.1 = 0 then (
    (f_X12_fail N R a0 (1 : Int32) p3.2).bind fun p5 =>
    some (p5.1, p5.2))
  else (
    (f_X12_pack N R a0 (R a0 37) (0 : Int32) p3.2).bind fun p6 =>
    (f_X12_goOn N R a0 a1 p6.2).bind fun p7 =>
    f_X12_best_41 N R N a0 (-1 : Int32) (0 : Int32) p7.2)
set_option maxHeartbeats 4000000 in
set_option maxRecDepth 100000 in
theorem w_X12_best_41 {l : Launch} (N : Nat) (R : Nat → Nat → Nat) : ∀ (n : Nat) (a0 : Nat) (a2 : Int32) (a3 : Int32) (I : (Nat → Nat → Int32)) (y : (Int32 × (Nat → Nat → Int32))), f_X12_best_41 N R n a0 a2 a3 I = some y → sm_W l 6 mX12_best 41 [(0, .inr (.inl a0)), (2, .inl a2), (3, .inl a3)] [] (I, R) (.inl (some (.inl y.1))) (y.2, R) := by
  intro n
  induction n with
  | zero => intro a0 a2 a3 I y h; cases h
  | succ n ih =>
    intro a0 a2 a3 I y h
    rw [f_X12_best_41] at h
    refine sm_iload_n (q := 42) dX12_best_41 rfl rfl 2 rfl ?_
    refine sm_aload_n (q := 43) dX12_best_42 rfl rfl 0 rfl ?_
    obtain ⟨hc1, h⟩ := sm_gd_e h
    refine sm_getR (r := R a0 4) (q := 46) dX12_best_43 rfl fk_X12_41 hc1 (by decide) (by decide) rfl ?_
    refine sm_iconst (v := 1) (q := 47) dX12_best_46 rfl (by decide) ?_
    obtain ⟨hc2, h⟩ := sm_gd_e h
    refine sm_iald (n := (sm_kd (R a0 4)).2) (q := 48) dX12_best_47 rfl (Prod.ext hc2.1 rfl) hc2.2 ?_
    rcases sm_if_e h with ⟨hb3, h⟩ | ⟨hb3, h⟩
    · refine sm_icmp_ge (tgt := 79) (q := 51) dX12_best_48 (by decide) rfl (fun _ => ?_) (fun hn => absurd hb3 hn)
      refine sm_aload_n (q := 80) dX12_best_79 rfl rfl 0 rfl ?_
      refine sm_aload_n (q := 81) dX12_best_80 rfl rfl 0 rfl ?_
      refine sm_getR (r := R a0 37) (q := 84) dX12_best_81 rfl fk_X12_98 hc1 (by decide) (by decide) rfl ?_
      refine sm_iconst (v := 0) (q := 85) dX12_best_84 rfl (by decide) ?_
      obtain ⟨p4, hc_p4, h⟩ := sm_bd_e h
      refine sm_callVv (q := 88) (As := [.inr (.inl (R a0 37)), .inl (0 : Int32)]) (S := []) (e_X12_unpack hc_p4) mv_X12_400 hc1 rfl (by decide) (Nat.le_of_ble_eq_true rfl) dX12_best_85 rfl ?_
      refine sm_iload_n (q := 89) dX12_best_88 rfl rfl 1 rfl ?_
      obtain rfl := Option.some.inj h
      exact sm_iret dX12_best_89 rfl
    · refine sm_icmp_ge (tgt := 79) (q := 51) dX12_best_48 (by decide) rfl (fun ht => absurd ht hb3) (fun _ => ?_)
      refine sm_iload_n (q := 52) dX12_best_51 rfl rfl 1 rfl ?_
      refine sm_iconst (v := -1) (q := 53) dX12_best_52 rfl (by decide) ?_
      rcases sm_if_e h with ⟨hb5, h⟩ | ⟨hb5, h⟩
      · refine sm_icmp_eq (tgt := 71) (q := 56) dX12_best_53 (by decide) rfl (fun _ => ?_) (fun hn => absurd hb5 hn)
        refine sm_iload_n (q := 72) dX12_best_71 rfl rfl 2 rfl ?_
        refine sm_istore_n (L' := [(2, .inl a3), (0, .inr (.inl a0)), (3, .inl a3)]) (q := 73) dX12_best_72 rfl rfl (by decide) rfl ?_
        refine sm_iinc (v := (a3 + 1)) (L' := [(3, .inl (a3 + 1)), (2, .inl a3), (0, .inr (.inl a0))]) (q := 76) dX12_best_73 rfl 2 rfl rfl (by decide) rfl ?_
        refine sm_goto (q := 41) dX12_best_76 (by decide) ?_
        refine sm_pick [2, 1, 0] rfl ?_
        exact ih _ _ _ _ _ h
      · refine sm_icmp_eq (tgt := 71) (q := 56) dX12_best_53 (by decide) rfl (fun ht => absurd ht hb5) (fun _ => ?_)
        refine sm_aload_n (q := 57) dX12_best_56 rfl rfl 0 rfl ?_
        refine sm_getR (r := R a0 25) (q := 60) dX12_best_57 rfl fk_X12_76 hc1 (by decide) (by decide) rfl ?_
        refine sm_iload_n (q := 61) dX12_best_60 rfl rfl 2 rfl ?_
        obtain ⟨hc6, h⟩ := sm_gd_e h
        refine sm_iald (n := (sm_kd (R a0 25)).2) (q := 62) dX12_best_61 rfl (Prod.ext hc6.1 rfl) hc6.2 ?_
        refine sm_aload_n (q := 63) dX12_best_62 rfl rfl 0 rfl ?_
        refine sm_getR (r := R a0 25) (q := 66) dX12_best_63 rfl fk_X12_76 hc1 (by decide) (by decide) rfl ?_
        refine sm_iload_n (q := 67) dX12_best_66 rfl rfl 1 rfl ?_
        obtain ⟨hc7, h⟩ := sm_gd_e h
        refine sm_iald (n := (sm_kd (R a0 25)).2) (q := 68) dX12_best_67 rfl (Prod.ext hc7.1 rfl) hc7.2 ?_
        rcases sm_if_e h with ⟨hb8, h⟩ | ⟨hb8, h⟩
        · refine sm_icmp_le (tgt := 73) (q := 71) dX12_best_68 (by decide) rfl (fun _ => ?_) (fun hn => absurd hb8 hn)
          refine sm_iinc (v := (a3 + 1)) (L' := [(3, .inl (a3 + 1)), (0, .inr (.inl a0)), (2, .inl a2)]) (q := 76) dX12_best_73 rfl 2 rfl rfl (by decide) rfl ?_
          refine sm_goto (q := 41) dX12_best_76 (by decide) ?_
          refine sm_pick [1, 2, 0] rfl ?_
          exact ih _ _ _ _ _ h
        · refine sm_icmp_le (tgt := 73) (q := 71) dX12_best_68 (by decide) rfl (fun ht => absurd ht hb8) (fun _ => ?_)
          refine sm_iload_n (q := 72) dX12_best_71 rfl rfl 2 rfl ?_
          refine sm_istore_n (L' := [(2, .inl a3), (0, .inr (.inl a0)), (3, .inl a3)]) (q := 73) dX12_best_72 rfl rfl (by decide) rfl ?_
          refine sm_iinc (v := (a3 + 1)) (L' := [(3, .inl (a3 + 1)), (2, .inl a3), (0, .inr (.inl a0))]) (q := 76) dX12_best_73 rfl 2 rfl rfl (by decide) rfl ?_
          refine sm_goto (q := 41) dX12_best_76 (by decide) ?_
          refine sm_pick [2, 1, 0] rfl ?_
          exact ih _ _ _ _ _ h
set_option maxHeartbeats 4000000 in
set_option maxRecDepth 100000 in
theorem w_X12_best {l : Launch} (N : Nat) (R : Nat → Nat → Nat) : ∀ (a0 : Nat) (a1 : Int32) (I : (Nat → Nat → Int32)) (y : (Int32 × (Nat → Nat → Int32))), f_X12_best N R a0 a1 I = some y → sm_W l 6 mX12_best 0 [(0, .inr (.inl a0)), (1, .inl a1)] [] (I, R) (.inl (some (.inl y.1))) (y.2, R) := by
  intro a0 a1 I y h
  unfold f_X12_best at h
  refine sm_aload_n (q := 1) dX12_best_0 rfl rfl 0 rfl ?_
  refine sm_iconst (v := 0) (q := 2) dX12_best_1 rfl (by decide) ?_
  obtain ⟨hc1, h⟩ := sm_gd_e h
  obtain ⟨I2, hI2, h⟩ := sm_lt_e h
  refine sm_putI (q := 5) dX12_best_2 rfl fk_X12_152 hc1 (by decide) (by decide) ?_
  refine sm_memI hI2 ?_
  refine sm_iload_n (q := 6) dX12_best_5 rfl rfl 1 rfl ?_
  refine sm_i2l (v := (Int32.toInt64 a1)) (q := 7) dX12_best_6 rfl rfl ?_
  refine sm_lconst (v := 0) (q := 8) dX12_best_7 rfl (by decide) ?_
  refine sm_ldc2 (q := 11) dX12_best_8 rfl co_X12_403 ?_
  obtain ⟨p3, hc_p3, h⟩ := sm_bd_e h
  refine sm_callSi (q := 14) (As := [.inr (.inr (Int32.toInt64 a1)), .inr (.inr (0 : Int64)), .inr (.inr (60 : Int64))]) (S := []) (e_X12_isIn hc_p3) ms_X12_155 rfl (by decide) (Nat.le_of_ble_eq_true rfl) dX12_best_11 rfl ?_
  rcases sm_if_e h with ⟨hb4, h⟩ | ⟨hb4, h⟩
  · refine sm_if_ne (tgt := 23) (q := 17) dX12_best_14 (by decide) rfl (fun hn => absurd hb4 hn) (fun _ => ?_)
    refine sm_aload_n (q := 18) dX12_best_17 rfl rfl 0 rfl ?_
    refine sm_iconst (v := 1) (q := 19) dX12_best_18 rfl (by decide) ?_
    obtain ⟨p5, hc_p5, h⟩ := sm_bd_e h
    refine sm_callVi (q := 22) (As := [.inl (1 : Int32)]) (S := []) (e_X12_fail hc_p5) mv_X12_283 hc1 rfl (by decide) (Nat.le_of_ble_eq_true rfl) dX12_best_19 rfl ?_
    obtain rfl := Option.some.inj h
    exact sm_iret dX12_best_22 rfl
  · refine sm_if_ne (tgt := 23) (q := 17) dX12_best_14 (by decide) rfl (fun _ => ?_) (fun he => absurd he hb4)
    refine sm_aload_n (q := 24) dX12_best_23 rfl rfl 0 rfl ?_
    refine sm_aload_n (q := 25) dX12_best_24 rfl rfl 0 rfl ?_
    refine sm_getR (r := R a0 37) (q := 28) dX12_best_25 rfl fk_X12_98 hc1 (by decide) (by decide) rfl ?_
    refine sm_iconst (v := 0) (q := 29) dX12_best_28 rfl (by decide) ?_
    obtain ⟨p6, hc_p6, h⟩ := sm_bd_e h
    refine sm_callVv (q := 32) (As := [.inr (.inl (R a0 37)), .inl (0 : Int32)]) (S := []) (e_X12_pack hc_p6) mv_X12_378 hc1 rfl (by decide) (Nat.le_of_ble_eq_true rfl) dX12_best_29 rfl ?_
    refine sm_aload_n (q := 33) dX12_best_32 rfl rfl 0 rfl ?_
    refine sm_iload_n (q := 34) dX12_best_33 rfl rfl 1 rfl ?_
    obtain ⟨p7, hc_p7, h⟩ := sm_bd_e h
    refine sm_callVv (q := 37) (As := [.inl a1]) (S := []) (e_X12_goOn hc_p7) mv_X12_390 hc1 rfl (by decide) (Nat.le_of_ble_eq_true rfl) dX12_best_34 rfl ?_
    refine sm_iconst (v := -1) (q := 38) dX12_best_37 rfl (by decide) ?_
    refine sm_istore_n (L' := [(2, .inl (-1 : Int32)), (0, .inr (.inl a0)), (1, .inl a1)]) (q := 39) dX12_best_38 rfl rfl (by decide) rfl ?_
    refine sm_iconst (v := 0) (q := 40) dX12_best_39 rfl (by decide) ?_
    refine sm_istore_n (L' := [(3, .inl (0 : Int32)), (2, .inl (-1 : Int32)), (0, .inr (.inl a0)), (1, .inl a1)]) (q := 41) dX12_best_40 rfl rfl (by decide) rfl ?_
    refine sm_pick [2, 1, 0] rfl ?_
    exact w_X12_best_41 N R N _ _ _ _ _ h
theorem e_X12_best {l : Launch} {N : Nat} {R : Nat → Nat → Nat} {a0 : Nat} {a1 : Int32} {I : (Nat → Nat → Int32)} {y : (Int32 × (Nat → Nat → Int32))} (h : f_X12_best N R a0 a1 I = some y) : sm_E l 6 mX12_best [.inr (.inl a0), .inl a1] (I, R) (.inl (some (.inl y.1))) (y.2, R) :=
  sm_meth (by decide) (Nat.le_of_ble_eq_true rfl) (w_X12_best N R a0 a1 I y h)
def f_X12_sorest_41 (N : Nat) (R : Nat → Nat → Nat) : Nat → Nat → Int32 → Int32 → (Nat → Nat → Int32) → Option (Int32 × (Nat → Nat → Int32))
  | 0, _, _, _, _ => none
  | n + 1, a0, a2, a3, I =>
    sm_gd (sm_kd a0 = (12, 59)) <|
    sm_gd ((sm_kd (R a0 4)).1 = 13 ∧ ¬ ((1 : Int32) < 0 ∨ (sm_kd (R a0 4)).2 ≤ ((1 : Int32)).toNatClampNeg)) <|
    if (I (R a0 4) ((1 : Int32)).toNatClampNeg) ≤ a3 then (
      (f_X12_unpack N R a0 (R a0 37) (0 : Int32) I).bind fun p4 =>
      some (a2, p4.2))
    else (
      if a2 = (-1 : Int32) then (
        f_X12_sorest_41 N R n a0 a3 (a3 + 1) I)
      else (
        sm_gd ((sm_kd (R a0 26)).1 = 13 ∧ ¬ (a3 < 0 ∨ (sm_kd (R a0 26)).2 ≤ (a3).toNatClampNeg)) <|
        sm_gd ((sm_kd (R a0 26)).1 = 13 ∧ ¬ (a2 < 0 ∨ (sm_kd (R a0 26)).2 ≤ (a2).toNatClampNeg)) <|
        if (I (R a0 26) (a3).toNatClampNeg) ≤ (I (R a0 26) (a2).toNatClampNeg) then (
          f_X12_sorest_41 N R n a0 a2 (a3 + 1) I)
        else (
          f_X12_sorest_41 N R n a0 a3 (a3 + 1) I)))
def f_X12_sorest (N : Nat) (R : Nat → Nat → Nat) : Nat → Int32 → (Nat → Nat → Int32) → Option (Int32 × (Nat → Nat → Int32)) := fun a0 a1 I =>
  sm_gd (sm_kd a0 = (12, 59)) <|
  sm_lt (sm_up I a0 (sm_up (I a0) 3 (0 : Int32))) fun I2 =>
  (f_X12_isIn N R (Int32.toInt64 a1) (0 : Int64) (60 : Int64) I2).bind fun p3 =>
  if p3.1 = 0 then (
    (f_X12_fail N R a0 (1 : Int32) p3.2).bind fun p5 =>
    some (p5.1, p5.2))
  else (
    (f_X12_pack N R a0 (R a0 37) (0 : Int32) p3.2).bind fun p6 =>
    (f_X12_goOn N R a0 a1 p6.2).bind fun p7 =>
    f_X12_sorest_41 N R N a0 (-1 : Int32) (0 : Int32) p7.2)
set_option maxHeartbeats 4000000 in
set_option maxRecDepth 100000 in
theorem w_X12_sorest_41 {l : Launch} (N : Nat) (R : Nat → Nat → Nat) : ∀ (n : Nat) (a0 : Nat) (a2 : Int32) (a3 : Int32) (I : (Nat → Nat → Int32)) (y : (Int32 × (Nat → Nat → Int32))), f_X12_sorest_41 N R n a0 a2 a3 I = some y → sm_W l 6 mX12_sorest 41 [(0, .inr (.inl a0)), (2, .inl a2), (3, .inl a3)] [] (I, R) (.inl (some (.inl y.1))) (y.2, R) := by
  intro n
  induction n with
  | zero => intro a0 a2 a3 I y h; cases h
  | succ n ih =>
    intro a0 a2 a3 I y h
    rw [f_X12_sorest_41] at h
    refine sm_iload_n (q := 42) dX12_sorest_41 rfl rfl 2 rfl ?_
    refine sm_aload_n (q := 43) dX12_sorest_42 rfl rfl 0 rfl ?_
    obtain ⟨hc1, h⟩ := sm_gd_e h
    refine sm_getR (r := R a0 4) (q := 46) dX12_sorest_43 rfl fk_X12_41 hc1 (by decide) (by decide) rfl ?_
    refine sm_iconst (v := 1) (q := 47) dX12_sorest_46 rfl (by decide) ?_
    obtain ⟨hc2, h⟩ := sm_gd_e h
    refine sm_iald (n := (sm_kd (R a0 4)).2) (q := 48) dX12_sorest_47 rfl (Prod.ext hc2.1 rfl) hc2.2 ?_
    rcases sm_if_e h with ⟨hb3, h⟩ | ⟨hb3, h⟩
    · refine sm_icmp_ge (tgt := 79) (q := 51) dX12_sorest_48 (by decide) rfl (fun _ => ?_) (fun hn => absurd hb3 hn)
      refine sm_aload_n (q := 80) dX12_sorest_79 rfl rfl 0 rfl ?_
      refine sm_aload_n (q := 81) dX12_sorest_80 rfl rfl 0 rfl ?_
      refine sm_getR (r := R a0 37) (q := 84) dX12_sorest_81 rfl fk_X12_98 hc1 (by decide) (by decide) rfl ?_
      refine sm_iconst (v := 0) (q := 85) dX12_sorest_84 rfl (by decide) ?_
      obtain ⟨p4, hc_p4, h⟩ := sm_bd_e h
      refine sm_callVv (q := 88) (As := [.inr (.inl (R a0 37)), .inl (0 : Int32)]) (S := []) (e_X12_unpack hc_p4) mv_X12_400 hc1 rfl (by decide) (Nat.le_of_ble_eq_true rfl) dX12_sorest_85 rfl ?_
      refine sm_iload_n (q := 89) dX12_sorest_88 rfl rfl 1 rfl ?_
      obtain rfl := Option.some.inj h
      exact sm_iret dX12_sorest_89 rfl
    · refine sm_icmp_ge (tgt := 79) (q := 51) dX12_sorest_48 (by decide) rfl (fun ht => absurd ht hb3) (fun _ => ?_)
      refine sm_iload_n (q := 52) dX12_sorest_51 rfl rfl 1 rfl ?_
      refine sm_iconst (v := -1) (q := 53) dX12_sorest_52 rfl (by decide) ?_
      rcases sm_if_e h with ⟨hb5, h⟩ | ⟨hb5, h⟩
      · refine sm_icmp_eq (tgt := 71) (q := 56) dX12_sorest_53 (by decide) rfl (fun _ => ?_) (fun hn => absurd hb5 hn)
        refine sm_iload_n (q := 72) dX12_sorest_71 rfl rfl 2 rfl ?_
        refine sm_istore_n (L' := [(2, .inl a3), (0, .inr (.inl a0)), (3, .inl a3)]) (q := 73) dX12_sorest_72 rfl rfl (by decide) rfl ?_
        refine sm_iinc (v := (a3 + 1)) (L' := [(3, .inl (a3 + 1)), (2, .inl a3), (0, .inr (.inl a0))]) (q := 76) dX12_sorest_73 rfl 2 rfl rfl (by decide) rfl ?_
        refine sm_goto (q := 41) dX12_sorest_76 (by decide) ?_
        refine sm_pick [2, 1, 0] rfl ?_
        exact ih _ _ _ _ _ h
      · refine sm_icmp_eq (tgt := 71) (q := 56) dX12_sorest_53 (by decide) rfl (fun ht => absurd ht hb5) (fun _ => ?_)
        refine sm_aload_n (q := 57) dX12_sorest_56 rfl rfl 0 rfl ?_
        refine sm_getR (r := R a0 26) (q := 60) dX12_sorest_57 rfl fk_X12_79 hc1 (by decide) (by decide) rfl ?_
        refine sm_iload_n (q := 61) dX12_sorest_60 rfl rfl 2 rfl ?_
        obtain ⟨hc6, h⟩ := sm_gd_e h
        refine sm_iald (n := (sm_kd (R a0 26)).2) (q := 62) dX12_sorest_61 rfl (Prod.ext hc6.1 rfl) hc6.2 ?_
        refine sm_aload_n (q := 63) dX12_sorest_62 rfl rfl 0 rfl ?_
        refine sm_getR (r := R a0 26) (q := 66) dX12_sorest_63 rfl fk_X12_79 hc1 (by decide) (by decide) rfl ?_
        refine sm_iload_n (q := 67) dX12_sorest_66 rfl rfl 1 rfl ?_
        obtain ⟨hc7, h⟩ := sm_gd_e h
        refine sm_iald (n := (sm_kd (R a0 26)).2) (q := 68) dX12_sorest_67 rfl (Prod.ext hc7.1 rfl) hc7.2 ?_
        rcases sm_if_e h with ⟨hb8, h⟩ | ⟨hb8, h⟩
        · refine sm_icmp_le (tgt := 73) (q := 71) dX12_sorest_68 (by decide) rfl (fun _ => ?_) (fun hn => absurd hb8 hn)
          refine sm_iinc (v := (a3 + 1)) (L' := [(3, .inl (a3 + 1)), (0, .inr (.inl a0)), (2, .inl a2)]) (q := 76) dX12_sorest_73 rfl 2 rfl rfl (by decide) rfl ?_
          refine sm_goto (q := 41) dX12_sorest_76 (by decide) ?_
          refine sm_pick [1, 2, 0] rfl ?_
          exact ih _ _ _ _ _ h
        · refine sm_icmp_le (tgt := 73) (q := 71) dX12_sorest_68 (by decide) rfl (fun ht => absurd ht hb8) (fun _ => ?_)
          refine sm_iload_n (q := 72) dX12_sorest_71 rfl rfl 2 rfl ?_
          refine sm_istore_n (L' := [(2, .inl a3), (0, .inr (.inl a0)), (3, .inl a3)]) (q := 73) dX12_sorest_72 rfl rfl (by decide) rfl ?_
          refine sm_iinc (v := (a3 + 1)) (L' := [(3, .inl (a3 + 1)), (2, .inl a3), (0, .inr (.inl a0))]) (q := 76) dX12_sorest_73 rfl 2 rfl rfl (by decide) rfl ?_
          refine sm_goto (q := 41) dX12_sorest_76 (by decide) ?_
          refine sm_pick [2, 1, 0] rfl ?_
          exact ih _ _ _ _ _ h
set_option maxHeartbeats 4000000 in
set_option maxRecDepth 100000 in
theorem w_X12_sorest {l : Launch} (N : Nat) (R : Nat → Nat → Nat) : ∀ (a0 : Nat) (a1 : Int32) (I : (Nat → Nat → Int32)) (y : (Int32 × (Nat → Nat → Int32))), f_X12_sorest N R a0 a1 I = some y → sm_W l 6 mX12_sorest 0 [(0, .inr (.inl a0)), (1, .inl a1)] [] (I, R) (.inl (some (.inl y.1))) (y.2, R) := by
  intro a0 a1 I y h
  unfold f_X12_sorest at h
  refine sm_aload_n (q := 1) dX12_sorest_0 rfl rfl 0 rfl ?_
  refine sm_iconst (v := 0) (q := 2) dX12_sorest_1 rfl (by decide) ?_
  obtain ⟨hc1, h⟩ := sm_gd_e h
  obtain ⟨I2, hI2, h⟩ := sm_lt_e h
  refine sm_putI (q := 5) dX12_sorest_2 rfl fk_X12_152 hc1 (by decide) (by decide) ?_
  refine sm_memI hI2 ?_
  refine sm_iload_n (q := 6) dX12_sorest_5 rfl rfl 1 rfl ?_
  refine sm_i2l (v := (Int32.toInt64 a1)) (q := 7) dX12_sorest_6 rfl rfl ?_
  refine sm_lconst (v := 0) (q := 8) dX12_sorest_7 rfl (by decide) ?_
  refine sm_ldc2 (q := 11) dX12_sorest_8 rfl co_X12_403 ?_
  obtain ⟨p3, hc_p3, h⟩ := sm_bd_e h
  refine sm_callSi (q := 14) (As := [.inr (.inr (Int32.toInt64 a1)), .inr (.inr (0 : Int64)), .inr (.inr (60 : Int64))]) (S := []) (e_X12_isIn hc_p3) ms_X12_155 rfl (by decide) (Nat.le_of_ble_eq_true rfl) dX12_sorest_11 rfl ?_
  rcases sm_if_e h with ⟨hb4, h⟩ | ⟨hb4, h⟩
  · refine sm_if_ne (tgt := 23) (q := 17) dX12_sorest_14 (by decide) rfl (fun hn => absurd hb4 hn) (fun _ => ?_)
    refine sm_aload_n (q := 18) dX12_sorest_17 rfl rfl 0 rfl ?_
    refine sm_iconst (v := 1) (q := 19) dX12_sorest_18 rfl (by decide) ?_
    obtain ⟨p5, hc_p5, h⟩ := sm_bd_e h
    refine sm_callVi (q := 22) (As := [.inl (1 : Int32)]) (S := []) (e_X12_fail hc_p5) mv_X12_283 hc1 rfl (by decide) (Nat.le_of_ble_eq_true rfl) dX12_sorest_19 rfl ?_
    obtain rfl := Option.some.inj h
    exact sm_iret dX12_sorest_22 rfl
  · refine sm_if_ne (tgt := 23) (q := 17) dX12_sorest_14 (by decide) rfl (fun _ => ?_) (fun he => absurd he hb4)
    refine sm_aload_n (q := 24) dX12_sorest_23 rfl rfl 0 rfl ?_
    refine sm_aload_n (q := 25) dX12_sorest_24 rfl rfl 0 rfl ?_
    refine sm_getR (r := R a0 37) (q := 28) dX12_sorest_25 rfl fk_X12_98 hc1 (by decide) (by decide) rfl ?_
    refine sm_iconst (v := 0) (q := 29) dX12_sorest_28 rfl (by decide) ?_
    obtain ⟨p6, hc_p6, h⟩ := sm_bd_e h
    refine sm_callVv (q := 32) (As := [.inr (.inl (R a0 37)), .inl (0 : Int32)]) (S := []) (e_X12_pack hc_p6) mv_X12_378 hc1 rfl (by decide) (Nat.le_of_ble_eq_true rfl) dX12_sorest_29 rfl ?_
    refine sm_aload_n (q := 33) dX12_sorest_32 rfl rfl 0 rfl ?_
    refine sm_iload_n (q := 34) dX12_sorest_33 rfl rfl 1 rfl ?_
    obtain ⟨p7, hc_p7, h⟩ := sm_bd_e h
    refine sm_callVv (q := 37) (As := [.inl a1]) (S := []) (e_X12_goOn hc_p7) mv_X12_390 hc1 rfl (by decide) (Nat.le_of_ble_eq_true rfl) dX12_sorest_34 rfl ?_
    refine sm_iconst (v := -1) (q := 38) dX12_sorest_37 rfl (by decide) ?_
    refine sm_istore_n (L' := [(2, .inl (-1 : Int32)), (0, .inr (.inl a0)), (1, .inl a1)]) (q := 39) dX12_sorest_38 rfl rfl (by decide) rfl ?_
    refine sm_iconst (v := 0) (q := 40) dX12_sorest_39 rfl (by decide) ?_
    refine sm_istore_n (L' := [(3, .inl (0 : Int32)), (2, .inl (-1 : Int32)), (0, .inr (.inl a0)), (1, .inl a1)]) (q := 41) dX12_sorest_40 rfl rfl (by decide) rfl ?_
    refine sm_pick [2, 1, 0] rfl ?_
    exact w_X12_sorest_41 N R N _ _ _ _ _ h
theorem e_X12_sorest {l : Launch} {N : Nat} {R : Nat → Nat → Nat} {a0 : Nat} {a1 : Int32} {I : (Nat → Nat → Int32)} {y : (Int32 × (Nat → Nat → Int32))} (h : f_X12_sorest N R a0 a1 I = some y) : sm_E l 6 mX12_sorest [.inr (.inl a0), .inl a1] (I, R) (.inl (some (.inl y.1))) (y.2, R) :=
  sm_meth (by decide) (Nat.le_of_ble_eq_true rfl) (w_X12_sorest N R a0 a1 I y h)
def f_X12_stuck (N : Nat) (R : Nat → Nat → Nat) : Nat → (Nat → Nat → Int32) → Option (Int32 × (Nat → Nat → Int32)) := fun a0 I =>
  sm_gd (sm_kd a0 = (12, 59)) <|
  sm_lt (sm_up I a0 (sm_up (I a0) 3 (0 : Int32))) fun I2 =>
  (f_X12_pack N R a0 (R a0 37) (0 : Int32) I2).bind fun p3 =>
  (f_X12_goOn N R a0 (60 : Int32) p3.2).bind fun p4 =>
  sm_gd ((sm_kd (R a0 4)).1 = 13 ∧ ¬ ((1 : Int32) < 0 ∨ (sm_kd (R a0 4)).2 ≤ ((1 : Int32)).toNatClampNeg)) <|
  (f_X12_allDone N R a0 p4.2).bind fun p6 =>
  (f_X12_unpack N R a0 (R a0 37) (0 : Int32) p6.2).bind fun p7 =>
  some (((((1 : Int32) <<< ((p4.2 (R a0 4) ((1 : Int32)).toNatClampNeg) &&& 31)) - (1 : Int32)) &&& (p6.1 ^^^ (-1 : Int32))), p7.2)
set_option maxHeartbeats 4000000 in
set_option maxRecDepth 100000 in
theorem w_X12_stuck {l : Launch} (N : Nat) (R : Nat → Nat → Nat) : ∀ (a0 : Nat) (I : (Nat → Nat → Int32)) (y : (Int32 × (Nat → Nat → Int32))), f_X12_stuck N R a0 I = some y → sm_W l 6 mX12_stuck 0 [(0, .inr (.inl a0))] [] (I, R) (.inl (some (.inl y.1))) (y.2, R) := by
  intro a0 I y h
  unfold f_X12_stuck at h
  refine sm_aload_n (q := 1) dX12_stuck_0 rfl rfl 0 rfl ?_
  refine sm_iconst (v := 0) (q := 2) dX12_stuck_1 rfl (by decide) ?_
  obtain ⟨hc1, h⟩ := sm_gd_e h
  obtain ⟨I2, hI2, h⟩ := sm_lt_e h
  refine sm_putI (q := 5) dX12_stuck_2 rfl fk_X12_152 hc1 (by decide) (by decide) ?_
  refine sm_memI hI2 ?_
  refine sm_aload_n (q := 6) dX12_stuck_5 rfl rfl 0 rfl ?_
  refine sm_aload_n (q := 7) dX12_stuck_6 rfl rfl 0 rfl ?_
  refine sm_getR (r := R a0 37) (q := 10) dX12_stuck_7 rfl fk_X12_98 hc1 (by decide) (by decide) rfl ?_
  refine sm_iconst (v := 0) (q := 11) dX12_stuck_10 rfl (by decide) ?_
  obtain ⟨p3, hc_p3, h⟩ := sm_bd_e h
  refine sm_callVv (q := 14) (As := [.inr (.inl (R a0 37)), .inl (0 : Int32)]) (S := []) (e_X12_pack hc_p3) mv_X12_378 hc1 rfl (by decide) (Nat.le_of_ble_eq_true rfl) dX12_stuck_11 rfl ?_
  refine sm_aload_n (q := 15) dX12_stuck_14 rfl rfl 0 rfl ?_
  refine sm_bipush (v := 60) (q := 17) dX12_stuck_15 rfl (by decide) ?_
  obtain ⟨p4, hc_p4, h⟩ := sm_bd_e h
  refine sm_callVv (q := 20) (As := [.inl (60 : Int32)]) (S := []) (e_X12_goOn hc_p4) mv_X12_390 hc1 rfl (by decide) (Nat.le_of_ble_eq_true rfl) dX12_stuck_17 rfl ?_
  refine sm_iconst (v := 1) (q := 21) dX12_stuck_20 rfl (by decide) ?_
  refine sm_aload_n (q := 22) dX12_stuck_21 rfl rfl 0 rfl ?_
  refine sm_getR (r := R a0 4) (q := 25) dX12_stuck_22 rfl fk_X12_41 hc1 (by decide) (by decide) rfl ?_
  refine sm_iconst (v := 1) (q := 26) dX12_stuck_25 rfl (by decide) ?_
  obtain ⟨hc5, h⟩ := sm_gd_e h
  refine sm_iald (n := (sm_kd (R a0 4)).2) (q := 27) dX12_stuck_26 rfl (Prod.ext hc5.1 rfl) hc5.2 ?_
  refine sm_ishl (q := 28) dX12_stuck_27 rfl ?_
  refine sm_iconst (v := 1) (q := 29) dX12_stuck_28 rfl (by decide) ?_
  refine sm_isub (q := 30) dX12_stuck_29 rfl ?_
  refine sm_aload_n (q := 31) dX12_stuck_30 rfl rfl 0 rfl ?_
  obtain ⟨p6, hc_p6, h⟩ := sm_bd_e h
  refine sm_callVi (q := 34) (As := []) (S := [.inl (((1 : Int32) <<< ((p4.2 (R a0 4) ((1 : Int32)).toNatClampNeg) &&& 31)) - (1 : Int32))]) (e_X12_allDone hc_p6) mv_X12_361 hc1 rfl (by decide) (Nat.le_of_ble_eq_true rfl) dX12_stuck_31 rfl ?_
  refine sm_iconst (v := -1) (q := 35) dX12_stuck_34 rfl (by decide) ?_
  refine sm_ixor (q := 36) dX12_stuck_35 rfl ?_
  refine sm_iand (q := 37) dX12_stuck_36 rfl ?_
  refine sm_istore_n (L' := [(1, .inl ((((1 : Int32) <<< ((p4.2 (R a0 4) ((1 : Int32)).toNatClampNeg) &&& 31)) - (1 : Int32)) &&& (p6.1 ^^^ (-1 : Int32)))), (0, .inr (.inl a0))]) (q := 38) dX12_stuck_37 rfl rfl (by decide) rfl ?_
  refine sm_aload_n (q := 39) dX12_stuck_38 rfl rfl 1 rfl ?_
  refine sm_aload_n (q := 40) dX12_stuck_39 rfl rfl 1 rfl ?_
  refine sm_getR (r := R a0 37) (q := 43) dX12_stuck_40 rfl fk_X12_98 hc1 (by decide) (by decide) rfl ?_
  refine sm_iconst (v := 0) (q := 44) dX12_stuck_43 rfl (by decide) ?_
  obtain ⟨p7, hc_p7, h⟩ := sm_bd_e h
  refine sm_callVv (q := 47) (As := [.inr (.inl (R a0 37)), .inl (0 : Int32)]) (S := []) (e_X12_unpack hc_p7) mv_X12_400 hc1 rfl (by decide) (Nat.le_of_ble_eq_true rfl) dX12_stuck_44 rfl ?_
  refine sm_iload_n (q := 48) dX12_stuck_47 rfl rfl 0 rfl ?_
  obtain rfl := Option.some.inj h
  exact sm_iret dX12_stuck_48 rfl
theorem e_X12_stuck {l : Launch} {N : Nat} {R : Nat → Nat → Nat} {a0 : Nat} {I : (Nat → Nat → Int32)} {y : (Int32 × (Nat → Nat → Int32))} (h : f_X12_stuck N R a0 I = some y) : sm_E l 6 mX12_stuck [.inr (.inl a0)] (I, R) (.inl (some (.inl y.1))) (y.2, R) :=
  sm_meth (by decide) (Nat.le_of_ble_eq_true rfl) (w_X12_stuck N R a0 I y h)
def f_X12_next_40 (N : Nat) (R : Nat → Nat → Nat) : Nat → Nat → Int32 → Int32 → Int32 → Int32 → (Nat → Nat → Int32) → Option (Int32 × (Nat → Nat → Int32))
  | 0, _, _, _, _, _, _ => none
  | n + 1, a0, a1, a2, a3, a4, I =>
    if (60 : Int32) < a4 then (
      sm_gd (sm_kd a0 = (12, 59)) <|
      (f_X12_unpack N R a0 (R a0 37) (0 : Int32) I).bind fun p3 =>
      some (a3, p3.2))
    else (
      if a3 = (-1 : Int32) then (
        sm_gd (sm_kd a0 = (12, 59)) <|
        (f_X12_aWeek N R a0 I).bind fun p6 =>
        sm_gd ((sm_kd (R a0 28)).1 = 13 ∧ ¬ (a1 < 0 ∨ (sm_kd (R a0 28)).2 ≤ (a1).toNatClampNeg)) <|
        if (p6.2 (R a0 28) (a1).toNatClampNeg) ≤ a2 then (
          f_X12_next_40 N R n a0 a1 a2 a3 (a4 + 1) p6.2)
        else (
          f_X12_next_40 N R n a0 a1 a2 a4 (a4 + 1) p6.2))
      else (
        sm_gd (sm_kd a0 = (12, 59)) <|
        (f_X12_unpack N R a0 (R a0 37) (0 : Int32) I).bind fun p10 =>
        some (a3, p10.2)))
def f_X12_next (N : Nat) (R : Nat → Nat → Nat) : Nat → Int32 → (Nat → Nat → Int32) → Option (Int32 × (Nat → Nat → Int32)) := fun a0 a1 I =>
  sm_gd (sm_kd a0 = (12, 59)) <|
  sm_lt (sm_up I a0 (sm_up (I a0) 3 (0 : Int32))) fun I2 =>
  (f_X12_isPupil N R a0 a1 I2).bind fun p3 =>
  if p3.1 = 0 then (
    (f_X12_fail N R a0 (1 : Int32) p3.2).bind fun p5 =>
    some (p5.1, p5.2))
  else (
    (f_X12_pack N R a0 (R a0 37) (0 : Int32) p3.2).bind fun p6 =>
    sm_gd ((sm_kd (R a0 28)).1 = 13 ∧ ¬ (a1 < 0 ∨ (sm_kd (R a0 28)).2 ≤ (a1).toNatClampNeg)) <|
    f_X12_next_40 N R N a0 a1 (p6.2 (R a0 28) (a1).toNatClampNeg) (-1 : Int32) (1 : Int32) p6.2)
set_option maxHeartbeats 4000000 in
set_option maxRecDepth 100000 in
theorem w_X12_next_40 {l : Launch} (N : Nat) (R : Nat → Nat → Nat) : ∀ (n : Nat) (a0 : Nat) (a1 : Int32) (a2 : Int32) (a3 : Int32) (a4 : Int32) (I : (Nat → Nat → Int32)) (y : (Int32 × (Nat → Nat → Int32))), f_X12_next_40 N R n a0 a1 a2 a3 a4 I = some y → sm_W l 5 mX12_next 40 [(0, .inr (.inl a0)), (1, .inl a1), (2, .inl a2), (3, .inl a3), (4, .inl a4)] [] (I, R) (.inl (some (.inl y.1))) (y.2, R) := by
  intro n
  induction n with
  | zero => intro a0 a1 a2 a3 a4 I y h; cases h
  | succ n ih =>
    intro a0 a1 a2 a3 a4 I y h
    rw [f_X12_next_40] at h
    refine sm_iload (q := 42) dX12_next_40 rfl 4 rfl ?_
    refine sm_bipush (v := 60) (q := 44) dX12_next_42 rfl (by decide) ?_
    rcases sm_if_e h with ⟨hb1, h⟩ | ⟨hb1, h⟩
    · refine sm_icmp_gt (tgt := 75) (q := 47) dX12_next_44 (by decide) rfl (fun _ => ?_) (fun hn => absurd hb1 hn)
      refine sm_aload_n (q := 76) dX12_next_75 rfl rfl 0 rfl ?_
      refine sm_aload_n (q := 77) dX12_next_76 rfl rfl 0 rfl ?_
      obtain ⟨hc2, h⟩ := sm_gd_e h
      refine sm_getR (r := R a0 37) (q := 80) dX12_next_77 rfl fk_X12_98 hc2 (by decide) (by decide) rfl ?_
      refine sm_iconst (v := 0) (q := 81) dX12_next_80 rfl (by decide) ?_
      obtain ⟨p3, hc_p3, h⟩ := sm_bd_e h
      refine sm_callVv (q := 84) (As := [.inr (.inl (R a0 37)), .inl (0 : Int32)]) (S := []) (e_X12_unpack hc_p3) mv_X12_400 hc2 rfl (by decide) (Nat.le_of_ble_eq_true rfl) dX12_next_81 rfl ?_
      refine sm_iload_n (q := 85) dX12_next_84 rfl rfl 3 rfl ?_
      obtain rfl := Option.some.inj h
      exact sm_iret dX12_next_85 rfl
    · refine sm_icmp_gt (tgt := 75) (q := 47) dX12_next_44 (by decide) rfl (fun ht => absurd ht hb1) (fun _ => ?_)
      refine sm_iload_n (q := 48) dX12_next_47 rfl rfl 3 rfl ?_
      refine sm_iconst (v := -1) (q := 49) dX12_next_48 rfl (by decide) ?_
      rcases sm_if_e h with ⟨hb4, h⟩ | ⟨hb4, h⟩
      · refine sm_icmp_ne (tgt := 75) (q := 52) dX12_next_49 (by decide) rfl (fun hn => absurd hb4 hn) (fun _ => ?_)
        refine sm_aload_n (q := 53) dX12_next_52 rfl rfl 0 rfl ?_
        obtain ⟨hc5, h⟩ := sm_gd_e h
        obtain ⟨p6, hc_p6, h⟩ := sm_bd_e h
        refine sm_callVv (q := 56) (As := []) (S := []) (e_X12_aWeek hc_p6) mv_X12_346 hc5 rfl (by decide) (Nat.le_of_ble_eq_true rfl) dX12_next_53 rfl ?_
        refine sm_aload_n (q := 57) dX12_next_56 rfl rfl 0 rfl ?_
        refine sm_getR (r := R a0 28) (q := 60) dX12_next_57 rfl fk_X12_85 hc5 (by decide) (by decide) rfl ?_
        refine sm_iload_n (q := 61) dX12_next_60 rfl rfl 1 rfl ?_
        obtain ⟨hc7, h⟩ := sm_gd_e h
        refine sm_iald (n := (sm_kd (R a0 28)).2) (q := 62) dX12_next_61 rfl (Prod.ext hc7.1 rfl) hc7.2 ?_
        refine sm_iload_n (q := 63) dX12_next_62 rfl rfl 2 rfl ?_
        rcases sm_if_e h with ⟨hb8, h⟩ | ⟨hb8, h⟩
        · refine sm_icmp_le (tgt := 69) (q := 66) dX12_next_63 (by decide) rfl (fun _ => ?_) (fun hn => absurd hb8 hn)
          refine sm_iinc (v := (a4 + 1)) (L' := [(4, .inl (a4 + 1)), (0, .inr (.inl a0)), (1, .inl a1), (2, .inl a2), (3, .inl a3)]) (q := 72) dX12_next_69 rfl 4 rfl rfl (by decide) rfl ?_
          refine sm_goto (q := 40) dX12_next_72 (by decide) ?_
          refine sm_pick [1, 2, 3, 4, 0] rfl ?_
          exact ih _ _ _ _ _ _ _ h
        · refine sm_icmp_le (tgt := 69) (q := 66) dX12_next_63 (by decide) rfl (fun ht => absurd ht hb8) (fun _ => ?_)
          refine sm_iload (q := 68) dX12_next_66 rfl 4 rfl ?_
          refine sm_istore_n (L' := [(3, .inl a4), (0, .inr (.inl a0)), (1, .inl a1), (2, .inl a2), (4, .inl a4)]) (q := 69) dX12_next_68 rfl rfl (by decide) rfl ?_
          refine sm_iinc (v := (a4 + 1)) (L' := [(4, .inl (a4 + 1)), (3, .inl a4), (0, .inr (.inl a0)), (1, .inl a1), (2, .inl a2)]) (q := 72) dX12_next_69 rfl 4 rfl rfl (by decide) rfl ?_
          refine sm_goto (q := 40) dX12_next_72 (by decide) ?_
          refine sm_pick [2, 3, 4, 1, 0] rfl ?_
          exact ih _ _ _ _ _ _ _ h
      · refine sm_icmp_ne (tgt := 75) (q := 52) dX12_next_49 (by decide) rfl (fun _ => ?_) (fun he => absurd he hb4)
        refine sm_aload_n (q := 76) dX12_next_75 rfl rfl 0 rfl ?_
        refine sm_aload_n (q := 77) dX12_next_76 rfl rfl 0 rfl ?_
        obtain ⟨hc9, h⟩ := sm_gd_e h
        refine sm_getR (r := R a0 37) (q := 80) dX12_next_77 rfl fk_X12_98 hc9 (by decide) (by decide) rfl ?_
        refine sm_iconst (v := 0) (q := 81) dX12_next_80 rfl (by decide) ?_
        obtain ⟨p10, hc_p10, h⟩ := sm_bd_e h
        refine sm_callVv (q := 84) (As := [.inr (.inl (R a0 37)), .inl (0 : Int32)]) (S := []) (e_X12_unpack hc_p10) mv_X12_400 hc9 rfl (by decide) (Nat.le_of_ble_eq_true rfl) dX12_next_81 rfl ?_
        refine sm_iload_n (q := 85) dX12_next_84 rfl rfl 3 rfl ?_
        obtain rfl := Option.some.inj h
        exact sm_iret dX12_next_85 rfl
set_option maxHeartbeats 4000000 in
set_option maxRecDepth 100000 in
theorem w_X12_next {l : Launch} (N : Nat) (R : Nat → Nat → Nat) : ∀ (a0 : Nat) (a1 : Int32) (I : (Nat → Nat → Int32)) (y : (Int32 × (Nat → Nat → Int32))), f_X12_next N R a0 a1 I = some y → sm_W l 5 mX12_next 0 [(0, .inr (.inl a0)), (1, .inl a1)] [] (I, R) (.inl (some (.inl y.1))) (y.2, R) := by
  intro a0 a1 I y h
  unfold f_X12_next at h
  refine sm_aload_n (q := 1) dX12_next_0 rfl rfl 0 rfl ?_
  refine sm_iconst (v := 0) (q := 2) dX12_next_1 rfl (by decide) ?_
  obtain ⟨hc1, h⟩ := sm_gd_e h
  obtain ⟨I2, hI2, h⟩ := sm_lt_e h
  refine sm_putI (q := 5) dX12_next_2 rfl fk_X12_152 hc1 (by decide) (by decide) ?_
  refine sm_memI hI2 ?_
  refine sm_aload_n (q := 6) dX12_next_5 rfl rfl 0 rfl ?_
  refine sm_iload_n (q := 7) dX12_next_6 rfl rfl 1 rfl ?_
  obtain ⟨p3, hc_p3, h⟩ := sm_bd_e h
  refine sm_callVi (q := 10) (As := [.inl a1]) (S := []) (e_X12_isPupil hc_p3) mv_X12_375 hc1 rfl (by decide) (Nat.le_of_ble_eq_true rfl) dX12_next_7 rfl ?_
  rcases sm_if_e h with ⟨hb4, h⟩ | ⟨hb4, h⟩
  · refine sm_if_ne (tgt := 19) (q := 13) dX12_next_10 (by decide) rfl (fun hn => absurd hb4 hn) (fun _ => ?_)
    refine sm_aload_n (q := 14) dX12_next_13 rfl rfl 0 rfl ?_
    refine sm_iconst (v := 1) (q := 15) dX12_next_14 rfl (by decide) ?_
    obtain ⟨p5, hc_p5, h⟩ := sm_bd_e h
    refine sm_callVi (q := 18) (As := [.inl (1 : Int32)]) (S := []) (e_X12_fail hc_p5) mv_X12_283 hc1 rfl (by decide) (Nat.le_of_ble_eq_true rfl) dX12_next_15 rfl ?_
    obtain rfl := Option.some.inj h
    exact sm_iret dX12_next_18 rfl
  · refine sm_if_ne (tgt := 19) (q := 13) dX12_next_10 (by decide) rfl (fun _ => ?_) (fun he => absurd he hb4)
    refine sm_aload_n (q := 20) dX12_next_19 rfl rfl 0 rfl ?_
    refine sm_aload_n (q := 21) dX12_next_20 rfl rfl 0 rfl ?_
    refine sm_getR (r := R a0 37) (q := 24) dX12_next_21 rfl fk_X12_98 hc1 (by decide) (by decide) rfl ?_
    refine sm_iconst (v := 0) (q := 25) dX12_next_24 rfl (by decide) ?_
    obtain ⟨p6, hc_p6, h⟩ := sm_bd_e h
    refine sm_callVv (q := 28) (As := [.inr (.inl (R a0 37)), .inl (0 : Int32)]) (S := []) (e_X12_pack hc_p6) mv_X12_378 hc1 rfl (by decide) (Nat.le_of_ble_eq_true rfl) dX12_next_25 rfl ?_
    refine sm_aload_n (q := 29) dX12_next_28 rfl rfl 0 rfl ?_
    refine sm_getR (r := R a0 28) (q := 32) dX12_next_29 rfl fk_X12_85 hc1 (by decide) (by decide) rfl ?_
    refine sm_iload_n (q := 33) dX12_next_32 rfl rfl 1 rfl ?_
    obtain ⟨hc7, h⟩ := sm_gd_e h
    refine sm_iald (n := (sm_kd (R a0 28)).2) (q := 34) dX12_next_33 rfl (Prod.ext hc7.1 rfl) hc7.2 ?_
    refine sm_istore_n (L' := [(2, .inl (p6.2 (R a0 28) (a1).toNatClampNeg)), (0, .inr (.inl a0)), (1, .inl a1)]) (q := 35) dX12_next_34 rfl rfl (by decide) rfl ?_
    refine sm_iconst (v := -1) (q := 36) dX12_next_35 rfl (by decide) ?_
    refine sm_istore_n (L' := [(3, .inl (-1 : Int32)), (2, .inl (p6.2 (R a0 28) (a1).toNatClampNeg)), (0, .inr (.inl a0)), (1, .inl a1)]) (q := 37) dX12_next_36 rfl rfl (by decide) rfl ?_
    refine sm_iconst (v := 1) (q := 38) dX12_next_37 rfl (by decide) ?_
    refine sm_istore (L' := [(4, .inl (1 : Int32)), (3, .inl (-1 : Int32)), (2, .inl (p6.2 (R a0 28) (a1).toNatClampNeg)), (0, .inr (.inl a0)), (1, .inl a1)]) (q := 40) dX12_next_38 rfl (by decide) rfl ?_
    refine sm_pick [3, 4, 2, 1, 0] rfl ?_
    exact w_X12_next_40 N R N _ _ _ _ _ _ _ h
theorem e_X12_next {l : Launch} {N : Nat} {R : Nat → Nat → Nat} {a0 : Nat} {a1 : Int32} {I : (Nat → Nat → Int32)} {y : (Int32 × (Nat → Nat → Int32))} (h : f_X12_next N R a0 a1 I = some y) : sm_E l 5 mX12_next [.inr (.inl a0), .inl a1] (I, R) (.inl (some (.inl y.1))) (y.2, R) :=
  sm_meth (by decide) (Nat.le_of_ble_eq_true rfl) (w_X12_next N R a0 a1 I y h)
def f_X12_rush_55 (N : Nat) (R : Nat → Nat → Nat) : Nat → Nat → Int32 → Int32 → Int32 → Int32 → Int32 → (Nat → Nat → Int32) → Option (Int32 × (Nat → Nat → Int32))
  | 0, _, _, _, _, _, _, _ => none
  | n + 1, a0, a1, a2, a3, a4, a5, I =>
    if a1 < a5 then (
      sm_gd (sm_kd a0 = (12, 59)) <|
      (f_X12_unpack N R a0 (R a0 37) (0 : Int32) I).bind fun p3 =>
      if a2 = 0 then (
        some (a3, p3.2))
      else (
        some (a4, p3.2)))
    else (
      sm_gd (sm_kd a0 = (12, 59)) <|
      (f_X12_allBars N R a0 I).bind fun p6 =>
      (f_X12_aWeek N R a0 p6.2).bind fun p7 =>
      (f_X12_allBars N R a0 p7.2).bind fun p8 =>
      if a4 < (p8.1 - p6.1) then (
        f_X12_rush_55 N R n a0 a1 a2 a5 (p8.1 - p6.1) (a5 + 1) p8.2)
      else (
        f_X12_rush_55 N R n a0 a1 a2 a3 a4 (a5 + 1) p8.2))
def f_X12_rush (N : Nat) (R : Nat → Nat → Nat) : Nat → Int32 → Int32 → (Nat → Nat → Int32) → Option (Int32 × (Nat → Nat → Int32)) := fun a0 a1 a2 I =>
  sm_gd (sm_kd a0 = (12, 59)) <|
  sm_lt (sm_up I a0 (sm_up (I a0) 3 (0 : Int32))) fun I2 =>
  if a2 < 0 then (
    (f_X12_fail N R a0 (1 : Int32) I2).bind fun p4 =>
    some (p4.1, p4.2))
  else (
    if a2 ≤ (1 : Int32) then (
      (f_X12_isIn N R (Int32.toInt64 a1) (1 : Int64) (60 : Int64) I2).bind fun p6 =>
      if p6.1 = 0 then (
        (f_X12_fail N R a0 (2 : Int32) p6.2).bind fun p8 =>
        some (p8.1, p8.2))
      else (
        (f_X12_pack N R a0 (R a0 37) (0 : Int32) p6.2).bind fun p9 =>
        f_X12_rush_55 N R N a0 a1 a2 (-1 : Int32) (-1 : Int32) (1 : Int32) p9.2))
    else (
      (f_X12_fail N R a0 (1 : Int32) I2).bind fun p10 =>
      some (p10.1, p10.2)))
set_option maxHeartbeats 4000000 in
set_option maxRecDepth 100000 in
theorem w_X12_rush_55 {l : Launch} (N : Nat) (R : Nat → Nat → Nat) : ∀ (n : Nat) (a0 : Nat) (a1 : Int32) (a2 : Int32) (a3 : Int32) (a4 : Int32) (a5 : Int32) (I : (Nat → Nat → Int32)) (y : (Int32 × (Nat → Nat → Int32))), f_X12_rush_55 N R n a0 a1 a2 a3 a4 a5 I = some y → sm_W l 5 mX12_rush 55 [(0, .inr (.inl a0)), (1, .inl a1), (2, .inl a2), (3, .inl a3), (4, .inl a4), (5, .inl a5)] [] (I, R) (.inl (some (.inl y.1))) (y.2, R) := by
  intro n
  induction n with
  | zero => intro a0 a1 a2 a3 a4 a5 I y h; cases h
  | succ n ih =>
    intro a0 a1 a2 a3 a4 a5 I y h
    rw [f_X12_rush_55] at h
    refine sm_iload (q := 57) dX12_rush_55 rfl 5 rfl ?_
    refine sm_iload_n (q := 58) dX12_rush_57 rfl rfl 1 rfl ?_
    rcases sm_if_e h with ⟨hb1, h⟩ | ⟨hb1, h⟩
    · refine sm_icmp_gt (tgt := 103) (q := 61) dX12_rush_58 (by decide) rfl (fun _ => ?_) (fun hn => absurd hb1 hn)
      refine sm_aload_n (q := 104) dX12_rush_103 rfl rfl 0 rfl ?_
      refine sm_aload_n (q := 105) dX12_rush_104 rfl rfl 0 rfl ?_
      obtain ⟨hc2, h⟩ := sm_gd_e h
      refine sm_getR (r := R a0 37) (q := 108) dX12_rush_105 rfl fk_X12_98 hc2 (by decide) (by decide) rfl ?_
      refine sm_iconst (v := 0) (q := 109) dX12_rush_108 rfl (by decide) ?_
      obtain ⟨p3, hc_p3, h⟩ := sm_bd_e h
      refine sm_callVv (q := 112) (As := [.inr (.inl (R a0 37)), .inl (0 : Int32)]) (S := []) (e_X12_unpack hc_p3) mv_X12_400 hc2 rfl (by decide) (Nat.le_of_ble_eq_true rfl) dX12_rush_109 rfl ?_
      refine sm_iload_n (q := 113) dX12_rush_112 rfl rfl 2 rfl ?_
      rcases sm_if_e h with ⟨hb4, h⟩ | ⟨hb4, h⟩
      · refine sm_if_ne (tgt := 120) (q := 116) dX12_rush_113 (by decide) rfl (fun hn => absurd hb4 hn) (fun _ => ?_)
        refine sm_iload_n (q := 117) dX12_rush_116 rfl rfl 3 rfl ?_
        refine sm_goto (q := 122) dX12_rush_117 (by decide) ?_
        obtain rfl := Option.some.inj h
        exact sm_iret dX12_rush_122 rfl
      · refine sm_if_ne (tgt := 120) (q := 116) dX12_rush_113 (by decide) rfl (fun _ => ?_) (fun he => absurd he hb4)
        refine sm_iload (q := 122) dX12_rush_120 rfl 4 rfl ?_
        obtain rfl := Option.some.inj h
        exact sm_iret dX12_rush_122 rfl
    · refine sm_icmp_gt (tgt := 103) (q := 61) dX12_rush_58 (by decide) rfl (fun ht => absurd ht hb1) (fun _ => ?_)
      refine sm_aload_n (q := 62) dX12_rush_61 rfl rfl 0 rfl ?_
      obtain ⟨hc5, h⟩ := sm_gd_e h
      obtain ⟨p6, hc_p6, h⟩ := sm_bd_e h
      refine sm_callVi (q := 65) (As := []) (S := []) (e_X12_allBars hc_p6) mv_X12_405 hc5 rfl (by decide) (Nat.le_of_ble_eq_true rfl) dX12_rush_62 rfl ?_
      refine sm_istore (L' := [(6, .inl p6.1), (0, .inr (.inl a0)), (1, .inl a1), (2, .inl a2), (3, .inl a3), (4, .inl a4), (5, .inl a5)]) (q := 67) dX12_rush_65 rfl (by decide) rfl ?_
      refine sm_aload_n (q := 68) dX12_rush_67 rfl rfl 1 rfl ?_
      obtain ⟨p7, hc_p7, h⟩ := sm_bd_e h
      refine sm_callVv (q := 71) (As := []) (S := []) (e_X12_aWeek hc_p7) mv_X12_346 hc5 rfl (by decide) (Nat.le_of_ble_eq_true rfl) dX12_rush_68 rfl ?_
      refine sm_aload_n (q := 72) dX12_rush_71 rfl rfl 1 rfl ?_
      obtain ⟨p8, hc_p8, h⟩ := sm_bd_e h
      refine sm_callVi (q := 75) (As := []) (S := []) (e_X12_allBars hc_p8) mv_X12_405 hc5 rfl (by decide) (Nat.le_of_ble_eq_true rfl) dX12_rush_72 rfl ?_
      refine sm_iload (q := 77) dX12_rush_75 rfl 0 rfl ?_
      refine sm_isub (q := 78) dX12_rush_77 rfl ?_
      refine sm_istore (L' := [(7, .inl (p8.1 - p6.1)), (6, .inl p6.1), (0, .inr (.inl a0)), (1, .inl a1), (2, .inl a2), (3, .inl a3), (4, .inl a4), (5, .inl a5)]) (q := 80) dX12_rush_78 rfl (by decide) rfl ?_
      refine sm_iload (q := 82) dX12_rush_80 rfl 0 rfl ?_
      refine sm_iload (q := 84) dX12_rush_82 rfl 6 rfl ?_
      rcases sm_if_e h with ⟨hb9, h⟩ | ⟨hb9, h⟩
      · refine sm_icmp_gt (tgt := 90) (q := 87) dX12_rush_84 (by decide) rfl (fun _ => ?_) (fun hn => absurd hb9 hn)
        refine sm_iload (q := 92) dX12_rush_90 rfl 7 rfl ?_
        refine sm_istore_n (L' := [(3, .inl a5), (7, .inl (p8.1 - p6.1)), (6, .inl p6.1), (0, .inr (.inl a0)), (1, .inl a1), (2, .inl a2), (4, .inl a4), (5, .inl a5)]) (q := 93) dX12_rush_92 rfl rfl (by decide) rfl ?_
        refine sm_iload (q := 95) dX12_rush_93 rfl 1 rfl ?_
        refine sm_istore (L' := [(4, .inl (p8.1 - p6.1)), (3, .inl a5), (7, .inl (p8.1 - p6.1)), (6, .inl p6.1), (0, .inr (.inl a0)), (1, .inl a1), (2, .inl a2), (5, .inl a5)]) (q := 97) dX12_rush_95 rfl (by decide) rfl ?_
        refine sm_iinc (v := (a5 + 1)) (L' := [(5, .inl (a5 + 1)), (4, .inl (p8.1 - p6.1)), (3, .inl a5), (7, .inl (p8.1 - p6.1)), (6, .inl p6.1), (0, .inr (.inl a0)), (1, .inl a1), (2, .inl a2)]) (q := 100) dX12_rush_97 rfl 7 rfl rfl (by decide) rfl ?_
        refine sm_goto (q := 55) dX12_rush_100 (by decide) ?_
        refine sm_pick [5, 6, 7, 2, 1, 0] rfl ?_
        exact ih _ _ _ _ _ _ _ _ h
      · refine sm_icmp_gt (tgt := 90) (q := 87) dX12_rush_84 (by decide) rfl (fun ht => absurd ht hb9) (fun _ => ?_)
        refine sm_goto (q := 97) dX12_rush_87 (by decide) ?_
        refine sm_iinc (v := (a5 + 1)) (L' := [(5, .inl (a5 + 1)), (7, .inl (p8.1 - p6.1)), (6, .inl p6.1), (0, .inr (.inl a0)), (1, .inl a1), (2, .inl a2), (3, .inl a3), (4, .inl a4)]) (q := 100) dX12_rush_97 rfl 7 rfl rfl (by decide) rfl ?_
        refine sm_goto (q := 55) dX12_rush_100 (by decide) ?_
        refine sm_pick [3, 4, 5, 6, 7, 0] rfl ?_
        exact ih _ _ _ _ _ _ _ _ h
set_option maxHeartbeats 4000000 in
set_option maxRecDepth 100000 in
theorem w_X12_rush {l : Launch} (N : Nat) (R : Nat → Nat → Nat) : ∀ (a0 : Nat) (a1 : Int32) (a2 : Int32) (I : (Nat → Nat → Int32)) (y : (Int32 × (Nat → Nat → Int32))), f_X12_rush N R a0 a1 a2 I = some y → sm_W l 5 mX12_rush 0 [(0, .inr (.inl a0)), (1, .inl a1), (2, .inl a2)] [] (I, R) (.inl (some (.inl y.1))) (y.2, R) := by
  intro a0 a1 a2 I y h
  unfold f_X12_rush at h
  refine sm_aload_n (q := 1) dX12_rush_0 rfl rfl 0 rfl ?_
  refine sm_iconst (v := 0) (q := 2) dX12_rush_1 rfl (by decide) ?_
  obtain ⟨hc1, h⟩ := sm_gd_e h
  obtain ⟨I2, hI2, h⟩ := sm_lt_e h
  refine sm_putI (q := 5) dX12_rush_2 rfl fk_X12_152 hc1 (by decide) (by decide) ?_
  refine sm_memI hI2 ?_
  refine sm_iload_n (q := 6) dX12_rush_5 rfl rfl 2 rfl ?_
  rcases sm_if_e h with ⟨hb3, h⟩ | ⟨hb3, h⟩
  · refine sm_if_lt (tgt := 14) (q := 9) dX12_rush_6 (by decide) rfl (fun _ => ?_) (fun hn => absurd hb3 hn)
    refine sm_aload_n (q := 15) dX12_rush_14 rfl rfl 0 rfl ?_
    refine sm_iconst (v := 1) (q := 16) dX12_rush_15 rfl (by decide) ?_
    obtain ⟨p4, hc_p4, h⟩ := sm_bd_e h
    refine sm_callVi (q := 19) (As := [.inl (1 : Int32)]) (S := []) (e_X12_fail hc_p4) mv_X12_283 hc1 rfl (by decide) (Nat.le_of_ble_eq_true rfl) dX12_rush_16 rfl ?_
    obtain rfl := Option.some.inj h
    exact sm_iret dX12_rush_19 rfl
  · refine sm_if_lt (tgt := 14) (q := 9) dX12_rush_6 (by decide) rfl (fun ht => absurd ht hb3) (fun _ => ?_)
    refine sm_iload_n (q := 10) dX12_rush_9 rfl rfl 2 rfl ?_
    refine sm_iconst (v := 1) (q := 11) dX12_rush_10 rfl (by decide) ?_
    rcases sm_if_e h with ⟨hb5, h⟩ | ⟨hb5, h⟩
    · refine sm_icmp_le (tgt := 20) (q := 14) dX12_rush_11 (by decide) rfl (fun _ => ?_) (fun hn => absurd hb5 hn)
      refine sm_iload_n (q := 21) dX12_rush_20 rfl rfl 1 rfl ?_
      refine sm_i2l (v := (Int32.toInt64 a1)) (q := 22) dX12_rush_21 rfl rfl ?_
      refine sm_lconst (v := 1) (q := 23) dX12_rush_22 rfl (by decide) ?_
      refine sm_ldc2 (q := 26) dX12_rush_23 rfl co_X12_403 ?_
      obtain ⟨p6, hc_p6, h⟩ := sm_bd_e h
      refine sm_callSi (q := 29) (As := [.inr (.inr (Int32.toInt64 a1)), .inr (.inr (1 : Int64)), .inr (.inr (60 : Int64))]) (S := []) (e_X12_isIn hc_p6) ms_X12_155 rfl (by decide) (Nat.le_of_ble_eq_true rfl) dX12_rush_26 rfl ?_
      rcases sm_if_e h with ⟨hb7, h⟩ | ⟨hb7, h⟩
      · refine sm_if_ne (tgt := 38) (q := 32) dX12_rush_29 (by decide) rfl (fun hn => absurd hb7 hn) (fun _ => ?_)
        refine sm_aload_n (q := 33) dX12_rush_32 rfl rfl 0 rfl ?_
        refine sm_iconst (v := 2) (q := 34) dX12_rush_33 rfl (by decide) ?_
        obtain ⟨p8, hc_p8, h⟩ := sm_bd_e h
        refine sm_callVi (q := 37) (As := [.inl (2 : Int32)]) (S := []) (e_X12_fail hc_p8) mv_X12_283 hc1 rfl (by decide) (Nat.le_of_ble_eq_true rfl) dX12_rush_34 rfl ?_
        obtain rfl := Option.some.inj h
        exact sm_iret dX12_rush_37 rfl
      · refine sm_if_ne (tgt := 38) (q := 32) dX12_rush_29 (by decide) rfl (fun _ => ?_) (fun he => absurd he hb7)
        refine sm_aload_n (q := 39) dX12_rush_38 rfl rfl 0 rfl ?_
        refine sm_aload_n (q := 40) dX12_rush_39 rfl rfl 0 rfl ?_
        refine sm_getR (r := R a0 37) (q := 43) dX12_rush_40 rfl fk_X12_98 hc1 (by decide) (by decide) rfl ?_
        refine sm_iconst (v := 0) (q := 44) dX12_rush_43 rfl (by decide) ?_
        obtain ⟨p9, hc_p9, h⟩ := sm_bd_e h
        refine sm_callVv (q := 47) (As := [.inr (.inl (R a0 37)), .inl (0 : Int32)]) (S := []) (e_X12_pack hc_p9) mv_X12_378 hc1 rfl (by decide) (Nat.le_of_ble_eq_true rfl) dX12_rush_44 rfl ?_
        refine sm_iconst (v := -1) (q := 48) dX12_rush_47 rfl (by decide) ?_
        refine sm_istore_n (L' := [(3, .inl (-1 : Int32)), (0, .inr (.inl a0)), (1, .inl a1), (2, .inl a2)]) (q := 49) dX12_rush_48 rfl rfl (by decide) rfl ?_
        refine sm_iconst (v := -1) (q := 50) dX12_rush_49 rfl (by decide) ?_
        refine sm_istore (L' := [(4, .inl (-1 : Int32)), (3, .inl (-1 : Int32)), (0, .inr (.inl a0)), (1, .inl a1), (2, .inl a2)]) (q := 52) dX12_rush_50 rfl (by decide) rfl ?_
        refine sm_iconst (v := 1) (q := 53) dX12_rush_52 rfl (by decide) ?_
        refine sm_istore (L' := [(5, .inl (1 : Int32)), (4, .inl (-1 : Int32)), (3, .inl (-1 : Int32)), (0, .inr (.inl a0)), (1, .inl a1), (2, .inl a2)]) (q := 55) dX12_rush_53 rfl (by decide) rfl ?_
        refine sm_pick [3, 4, 5, 2, 1, 0] rfl ?_
        exact w_X12_rush_55 N R N _ _ _ _ _ _ _ _ h
    · refine sm_icmp_le (tgt := 20) (q := 14) dX12_rush_11 (by decide) rfl (fun ht => absurd ht hb5) (fun _ => ?_)
      refine sm_aload_n (q := 15) dX12_rush_14 rfl rfl 0 rfl ?_
      refine sm_iconst (v := 1) (q := 16) dX12_rush_15 rfl (by decide) ?_
      obtain ⟨p10, hc_p10, h⟩ := sm_bd_e h
      refine sm_callVi (q := 19) (As := [.inl (1 : Int32)]) (S := []) (e_X12_fail hc_p10) mv_X12_283 hc1 rfl (by decide) (Nat.le_of_ble_eq_true rfl) dX12_rush_16 rfl ?_
      obtain rfl := Option.some.inj h
      exact sm_iret dX12_rush_19 rfl
theorem e_X12_rush {l : Launch} {N : Nat} {R : Nat → Nat → Nat} {a0 : Nat} {a1 : Int32} {a2 : Int32} {I : (Nat → Nat → Int32)} {y : (Int32 × (Nat → Nat → Int32))} (h : f_X12_rush N R a0 a1 a2 I = some y) : sm_E l 5 mX12_rush [.inr (.inl a0), .inl a1, .inl a2] (I, R) (.inl (some (.inl y.1))) (y.2, R) :=
  sm_meth (by decide) (Nat.le_of_ble_eq_true rfl) (w_X12_rush N R a0 a1 a2 I y h)
def f_X12_free (N : Nat) (R : Nat → Nat → Nat) : Nat → Int32 → (Nat → Nat → Int32) → Option (Int32 × (Nat → Nat → Int32)) := fun a0 a1 I =>
  sm_gd (sm_kd a0 = (12, 59)) <|
  sm_lt (sm_up I a0 (sm_up (I a0) 3 (0 : Int32))) fun I2 =>
  (f_X12_isPupil N R a0 a1 I2).bind fun p3 =>
  if p3.1 = 0 then (
    (f_X12_fail N R a0 (1 : Int32) p3.2).bind fun p5 =>
    some (p5.1, p5.2))
  else (
    (f_X12_freeOf N R a0 a1 p3.2).bind fun p6 =>
    some (p6.1, p6.2))
set_option maxHeartbeats 4000000 in
set_option maxRecDepth 100000 in
theorem w_X12_free {l : Launch} (N : Nat) (R : Nat → Nat → Nat) : ∀ (a0 : Nat) (a1 : Int32) (I : (Nat → Nat → Int32)) (y : (Int32 × (Nat → Nat → Int32))), f_X12_free N R a0 a1 I = some y → sm_W l 4 mX12_free 0 [(0, .inr (.inl a0)), (1, .inl a1)] [] (I, R) (.inl (some (.inl y.1))) (y.2, R) := by
  intro a0 a1 I y h
  unfold f_X12_free at h
  refine sm_aload_n (q := 1) dX12_free_0 rfl rfl 0 rfl ?_
  refine sm_iconst (v := 0) (q := 2) dX12_free_1 rfl (by decide) ?_
  obtain ⟨hc1, h⟩ := sm_gd_e h
  obtain ⟨I2, hI2, h⟩ := sm_lt_e h
  refine sm_putI (q := 5) dX12_free_2 rfl fk_X12_152 hc1 (by decide) (by decide) ?_
  refine sm_memI hI2 ?_
  refine sm_aload_n (q := 6) dX12_free_5 rfl rfl 0 rfl ?_
  refine sm_iload_n (q := 7) dX12_free_6 rfl rfl 1 rfl ?_
  obtain ⟨p3, hc_p3, h⟩ := sm_bd_e h
  refine sm_callVi (q := 10) (As := [.inl a1]) (S := []) (e_X12_isPupil hc_p3) mv_X12_375 hc1 rfl (by decide) (Nat.le_of_ble_eq_true rfl) dX12_free_7 rfl ?_
  rcases sm_if_e h with ⟨hb4, h⟩ | ⟨hb4, h⟩
  · refine sm_if_eq (tgt := 21) (q := 13) dX12_free_10 (by decide) rfl (fun _ => ?_) (fun hn => absurd hb4 hn)
    refine sm_aload_n (q := 22) dX12_free_21 rfl rfl 0 rfl ?_
    refine sm_iconst (v := 1) (q := 23) dX12_free_22 rfl (by decide) ?_
    obtain ⟨p5, hc_p5, h⟩ := sm_bd_e h
    refine sm_callVi (q := 26) (As := [.inl (1 : Int32)]) (S := []) (e_X12_fail hc_p5) mv_X12_283 hc1 rfl (by decide) (Nat.le_of_ble_eq_true rfl) dX12_free_23 rfl ?_
    obtain rfl := Option.some.inj h
    exact sm_iret dX12_free_26 rfl
  · refine sm_if_eq (tgt := 21) (q := 13) dX12_free_10 (by decide) rfl (fun ht => absurd ht hb4) (fun _ => ?_)
    refine sm_aload_n (q := 14) dX12_free_13 rfl rfl 0 rfl ?_
    refine sm_iload_n (q := 15) dX12_free_14 rfl rfl 1 rfl ?_
    obtain ⟨p6, hc_p6, h⟩ := sm_bd_e h
    refine sm_callVi (q := 18) (As := [.inl a1]) (S := []) (e_X12_freeOf hc_p6) mv_X12_408 hc1 rfl (by decide) (Nat.le_of_ble_eq_true rfl) dX12_free_15 rfl ?_
    refine sm_goto (q := 26) dX12_free_18 (by decide) ?_
    obtain rfl := Option.some.inj h
    exact sm_iret dX12_free_26 rfl
theorem e_X12_free {l : Launch} {N : Nat} {R : Nat → Nat → Nat} {a0 : Nat} {a1 : Int32} {I : (Nat → Nat → Int32)} {y : (Int32 × (Nat → Nat → Int32))} (h : f_X12_free N R a0 a1 I = some y) : sm_E l 4 mX12_free [.inr (.inl a0), .inl a1] (I, R) (.inl (some (.inl y.1))) (y.2, R) :=
  sm_meth (by decide) (Nat.le_of_ble_eq_true rfl) (w_X12_free N R a0 a1 I y h)
def f_X12_full (N : Nat) (R : Nat → Nat → Nat) : Nat → Int32 → (Nat → Nat → Int32) → Option (Int32 × (Nat → Nat → Int32)) := fun a0 a1 I =>
  sm_gd (sm_kd a0 = (12, 59)) <|
  sm_lt (sm_up I a0 (sm_up (I a0) 3 (0 : Int32))) fun I2 =>
  (f_X12_isIn N R (Int32.toInt64 a1) (1 : Int64) (30 : Int64) I2).bind fun p3 =>
  if p3.1 = 0 then (
    (f_X12_fail N R a0 (1 : Int32) p3.2).bind fun p5 =>
    some (p5.1, p5.2))
  else (
    (f_X12_awayIn N R a0 a1 p3.2).bind fun p6 =>
    some (p6.1, p6.2))
set_option maxHeartbeats 4000000 in
set_option maxRecDepth 100000 in
theorem w_X12_full {l : Launch} (N : Nat) (R : Nat → Nat → Nat) : ∀ (a0 : Nat) (a1 : Int32) (I : (Nat → Nat → Int32)) (y : (Int32 × (Nat → Nat → Int32))), f_X12_full N R a0 a1 I = some y → sm_W l 2 mX12_full 0 [(0, .inr (.inl a0)), (1, .inl a1)] [] (I, R) (.inl (some (.inl y.1))) (y.2, R) := by
  intro a0 a1 I y h
  unfold f_X12_full at h
  refine sm_aload_n (q := 1) dX12_full_0 rfl rfl 0 rfl ?_
  refine sm_iconst (v := 0) (q := 2) dX12_full_1 rfl (by decide) ?_
  obtain ⟨hc1, h⟩ := sm_gd_e h
  obtain ⟨I2, hI2, h⟩ := sm_lt_e h
  refine sm_putI (q := 5) dX12_full_2 rfl fk_X12_152 hc1 (by decide) (by decide) ?_
  refine sm_memI hI2 ?_
  refine sm_iload_n (q := 6) dX12_full_5 rfl rfl 1 rfl ?_
  refine sm_i2l (v := (Int32.toInt64 a1)) (q := 7) dX12_full_6 rfl rfl ?_
  refine sm_lconst (v := 1) (q := 8) dX12_full_7 rfl (by decide) ?_
  refine sm_ldc2 (q := 11) dX12_full_8 rfl co_X12_349 ?_
  obtain ⟨p3, hc_p3, h⟩ := sm_bd_e h
  refine sm_callSi (q := 14) (As := [.inr (.inr (Int32.toInt64 a1)), .inr (.inr (1 : Int64)), .inr (.inr (30 : Int64))]) (S := []) (e_X12_isIn hc_p3) ms_X12_155 rfl (by decide) (Nat.le_of_ble_eq_true rfl) dX12_full_11 rfl ?_
  rcases sm_if_e h with ⟨hb4, h⟩ | ⟨hb4, h⟩
  · refine sm_if_eq (tgt := 25) (q := 17) dX12_full_14 (by decide) rfl (fun _ => ?_) (fun hn => absurd hb4 hn)
    refine sm_aload_n (q := 26) dX12_full_25 rfl rfl 0 rfl ?_
    refine sm_iconst (v := 1) (q := 27) dX12_full_26 rfl (by decide) ?_
    obtain ⟨p5, hc_p5, h⟩ := sm_bd_e h
    refine sm_callVi (q := 30) (As := [.inl (1 : Int32)]) (S := []) (e_X12_fail hc_p5) mv_X12_283 hc1 rfl (by decide) (Nat.le_of_ble_eq_true rfl) dX12_full_27 rfl ?_
    obtain rfl := Option.some.inj h
    exact sm_iret dX12_full_30 rfl
  · refine sm_if_eq (tgt := 25) (q := 17) dX12_full_14 (by decide) rfl (fun ht => absurd ht hb4) (fun _ => ?_)
    refine sm_aload_n (q := 18) dX12_full_17 rfl rfl 0 rfl ?_
    refine sm_iload_n (q := 19) dX12_full_18 rfl rfl 1 rfl ?_
    obtain ⟨p6, hc_p6, h⟩ := sm_bd_e h
    refine sm_callVi (q := 22) (As := [.inl a1]) (S := []) (e_X12_awayIn hc_p6) mv_X12_351 hc1 rfl (by decide) (Nat.le_of_ble_eq_true rfl) dX12_full_19 rfl ?_
    refine sm_goto (q := 30) dX12_full_22 (by decide) ?_
    obtain rfl := Option.some.inj h
    exact sm_iret dX12_full_30 rfl
theorem e_X12_full {l : Launch} {N : Nat} {R : Nat → Nat → Nat} {a0 : Nat} {a1 : Int32} {I : (Nat → Nat → Int32)} {y : (Int32 × (Nat → Nat → Int32))} (h : f_X12_full N R a0 a1 I = some y) : sm_E l 2 mX12_full [.inr (.inl a0), .inl a1] (I, R) (.inl (some (.inl y.1))) (y.2, R) :=
  sm_meth (by decide) (Nat.le_of_ble_eq_true rfl) (w_X12_full N R a0 a1 I y h)
def f_X12_nobody_27 (N : Nat) (R : Nat → Nat → Nat) : Nat → Nat → Int32 → Int32 → Int32 → (Nat → Nat → Int32) → Option (Int32 × (Nat → Nat → Int32))
  | 0, _, _, _, _, _ => none
  | n + 1, a0, a1, a2, a3, I =>
    if a1 < a3 then (
      some (a2, I))
    else (
      sm_gd (sm_kd a0 = (12, 59)) <|
      sm_gd ((sm_kd (R a0 4)).1 = 13 ∧ ¬ ((1 : Int32) < 0 ∨ (sm_kd (R a0 4)).2 ≤ ((1 : Int32)).toNatClampNeg)) <|
      if (I (R a0 4) ((1 : Int32)).toNatClampNeg) ≤ 0 then (
        f_X12_nobody_27 N R n a0 a1 (a2 + (0 : Int32)) (a3 + 1) I)
      else (
        (f_X12_awayIn N R a0 a3 I).bind fun p5 =>
        (f_X12_bitsOf N R p5.1 p5.2).bind fun p6 =>
        if p6.1 = (p6.2 (R a0 4) ((1 : Int32)).toNatClampNeg) then (
          f_X12_nobody_27 N R n a0 a1 (a2 + (1 : Int32)) (a3 + 1) p6.2)
        else (
          f_X12_nobody_27 N R n a0 a1 (a2 + (0 : Int32)) (a3 + 1) p6.2)))
def f_X12_nobody (N : Nat) (R : Nat → Nat → Nat) : Nat → Int32 → (Nat → Nat → Int32) → Option (Int32 × (Nat → Nat → Int32)) := fun a0 a1 I =>
  sm_gd (sm_kd a0 = (12, 59)) <|
  sm_lt (sm_up I a0 (sm_up (I a0) 3 (0 : Int32))) fun I2 =>
  (f_X12_isIn N R (Int32.toInt64 a1) (1 : Int64) (30 : Int64) I2).bind fun p3 =>
  if p3.1 = 0 then (
    (f_X12_fail N R a0 (1 : Int32) p3.2).bind fun p5 =>
    some (p5.1, p5.2))
  else (
    f_X12_nobody_27 N R N a0 a1 (0 : Int32) (1 : Int32) p3.2)
set_option maxHeartbeats 4000000 in
set_option maxRecDepth 100000 in
theorem w_X12_nobody_27 {l : Launch} (N : Nat) (R : Nat → Nat → Nat) : ∀ (n : Nat) (a0 : Nat) (a1 : Int32) (a2 : Int32) (a3 : Int32) (I : (Nat → Nat → Int32)) (y : (Int32 × (Nat → Nat → Int32))), f_X12_nobody_27 N R n a0 a1 a2 a3 I = some y → sm_W l 2 mX12_nobody 27 [(0, .inr (.inl a0)), (1, .inl a1), (2, .inl a2), (3, .inl a3)] [] (I, R) (.inl (some (.inl y.1))) (y.2, R) := by
  intro n
  induction n with
  | zero => intro a0 a1 a2 a3 I y h; cases h
  | succ n ih =>
    intro a0 a1 a2 a3 I y h
    rw [f_X12_nobody_27] at h
    refine sm_iload_n (q := 28) dX12_nobody_27 rfl rfl 3 rfl ?_
    refine sm_iload_n (q := 29) dX12_nobody_28 rfl rfl 1 rfl ?_
    rcases sm_if_e h with ⟨hb1, h⟩ | ⟨hb1, h⟩
    · refine sm_icmp_gt (tgt := 72) (q := 32) dX12_nobody_29 (by decide) rfl (fun _ => ?_) (fun hn => absurd hb1 hn)
      refine sm_iload_n (q := 73) dX12_nobody_72 rfl rfl 2 rfl ?_
      obtain rfl := Option.some.inj h
      exact sm_iret dX12_nobody_73 rfl
    · refine sm_icmp_gt (tgt := 72) (q := 32) dX12_nobody_29 (by decide) rfl (fun ht => absurd ht hb1) (fun _ => ?_)
      refine sm_iload_n (q := 33) dX12_nobody_32 rfl rfl 2 rfl ?_
      refine sm_aload_n (q := 34) dX12_nobody_33 rfl rfl 0 rfl ?_
      obtain ⟨hc2, h⟩ := sm_gd_e h
      refine sm_getR (r := R a0 4) (q := 37) dX12_nobody_34 rfl fk_X12_41 hc2 (by decide) (by decide) rfl ?_
      refine sm_iconst (v := 1) (q := 38) dX12_nobody_37 rfl (by decide) ?_
      obtain ⟨hc3, h⟩ := sm_gd_e h
      refine sm_iald (n := (sm_kd (R a0 4)).2) (q := 39) dX12_nobody_38 rfl (Prod.ext hc3.1 rfl) hc3.2 ?_
      rcases sm_if_e h with ⟨hb4, h⟩ | ⟨hb4, h⟩
      · refine sm_if_le (tgt := 63) (q := 42) dX12_nobody_39 (by decide) rfl (fun _ => ?_) (fun hn => absurd hb4 hn)
        refine sm_iconst (v := 0) (q := 64) dX12_nobody_63 rfl (by decide) ?_
        refine sm_iadd (q := 65) dX12_nobody_64 rfl ?_
        refine sm_istore_n (L' := [(2, .inl (a2 + (0 : Int32))), (0, .inr (.inl a0)), (1, .inl a1), (3, .inl a3)]) (q := 66) dX12_nobody_65 rfl rfl (by decide) rfl ?_
        refine sm_iinc (v := (a3 + 1)) (L' := [(3, .inl (a3 + 1)), (2, .inl (a2 + (0 : Int32))), (0, .inr (.inl a0)), (1, .inl a1)]) (q := 69) dX12_nobody_66 rfl 3 rfl rfl (by decide) rfl ?_
        refine sm_goto (q := 27) dX12_nobody_69 (by decide) ?_
        refine sm_pick [2, 3, 1, 0] rfl ?_
        exact ih _ _ _ _ _ _ h
      · refine sm_if_le (tgt := 63) (q := 42) dX12_nobody_39 (by decide) rfl (fun ht => absurd ht hb4) (fun _ => ?_)
        refine sm_aload_n (q := 43) dX12_nobody_42 rfl rfl 0 rfl ?_
        refine sm_iload_n (q := 44) dX12_nobody_43 rfl rfl 3 rfl ?_
        obtain ⟨p5, hc_p5, h⟩ := sm_bd_e h
        refine sm_callVi (q := 47) (As := [.inl a3]) (S := [.inl a2]) (e_X12_awayIn hc_p5) mv_X12_351 hc2 rfl (by decide) (Nat.le_of_ble_eq_true rfl) dX12_nobody_44 rfl ?_
        obtain ⟨p6, hc_p6, h⟩ := sm_bd_e h
        refine sm_callSi (q := 50) (As := [.inl p5.1]) (S := [.inl a2]) (e_X12_bitsOf hc_p6) ms_X12_322 rfl (by decide) (Nat.le_of_ble_eq_true rfl) dX12_nobody_47 rfl ?_
        refine sm_aload_n (q := 51) dX12_nobody_50 rfl rfl 0 rfl ?_
        refine sm_getR (r := R a0 4) (q := 54) dX12_nobody_51 rfl fk_X12_41 hc2 (by decide) (by decide) rfl ?_
        refine sm_iconst (v := 1) (q := 55) dX12_nobody_54 rfl (by decide) ?_
        refine sm_iald (n := (sm_kd (R a0 4)).2) (q := 56) dX12_nobody_55 rfl (Prod.ext hc3.1 rfl) hc3.2 ?_
        rcases sm_if_e h with ⟨hb7, h⟩ | ⟨hb7, h⟩
        · refine sm_icmp_ne (tgt := 63) (q := 59) dX12_nobody_56 (by decide) rfl (fun hn => absurd hb7 hn) (fun _ => ?_)
          refine sm_iconst (v := 1) (q := 60) dX12_nobody_59 rfl (by decide) ?_
          refine sm_goto (q := 64) dX12_nobody_60 (by decide) ?_
          refine sm_iadd (q := 65) dX12_nobody_64 rfl ?_
          refine sm_istore_n (L' := [(2, .inl (a2 + (1 : Int32))), (0, .inr (.inl a0)), (1, .inl a1), (3, .inl a3)]) (q := 66) dX12_nobody_65 rfl rfl (by decide) rfl ?_
          refine sm_iinc (v := (a3 + 1)) (L' := [(3, .inl (a3 + 1)), (2, .inl (a2 + (1 : Int32))), (0, .inr (.inl a0)), (1, .inl a1)]) (q := 69) dX12_nobody_66 rfl 3 rfl rfl (by decide) rfl ?_
          refine sm_goto (q := 27) dX12_nobody_69 (by decide) ?_
          refine sm_pick [2, 3, 1, 0] rfl ?_
          exact ih _ _ _ _ _ _ h
        · refine sm_icmp_ne (tgt := 63) (q := 59) dX12_nobody_56 (by decide) rfl (fun _ => ?_) (fun he => absurd he hb7)
          refine sm_iconst (v := 0) (q := 64) dX12_nobody_63 rfl (by decide) ?_
          refine sm_iadd (q := 65) dX12_nobody_64 rfl ?_
          refine sm_istore_n (L' := [(2, .inl (a2 + (0 : Int32))), (0, .inr (.inl a0)), (1, .inl a1), (3, .inl a3)]) (q := 66) dX12_nobody_65 rfl rfl (by decide) rfl ?_
          refine sm_iinc (v := (a3 + 1)) (L' := [(3, .inl (a3 + 1)), (2, .inl (a2 + (0 : Int32))), (0, .inr (.inl a0)), (1, .inl a1)]) (q := 69) dX12_nobody_66 rfl 3 rfl rfl (by decide) rfl ?_
          refine sm_goto (q := 27) dX12_nobody_69 (by decide) ?_
          refine sm_pick [2, 3, 1, 0] rfl ?_
          exact ih _ _ _ _ _ _ h
set_option maxHeartbeats 4000000 in
set_option maxRecDepth 100000 in
theorem w_X12_nobody {l : Launch} (N : Nat) (R : Nat → Nat → Nat) : ∀ (a0 : Nat) (a1 : Int32) (I : (Nat → Nat → Int32)) (y : (Int32 × (Nat → Nat → Int32))), f_X12_nobody N R a0 a1 I = some y → sm_W l 2 mX12_nobody 0 [(0, .inr (.inl a0)), (1, .inl a1)] [] (I, R) (.inl (some (.inl y.1))) (y.2, R) := by
  intro a0 a1 I y h
  unfold f_X12_nobody at h
  refine sm_aload_n (q := 1) dX12_nobody_0 rfl rfl 0 rfl ?_
  refine sm_iconst (v := 0) (q := 2) dX12_nobody_1 rfl (by decide) ?_
  obtain ⟨hc1, h⟩ := sm_gd_e h
  obtain ⟨I2, hI2, h⟩ := sm_lt_e h
  refine sm_putI (q := 5) dX12_nobody_2 rfl fk_X12_152 hc1 (by decide) (by decide) ?_
  refine sm_memI hI2 ?_
  refine sm_iload_n (q := 6) dX12_nobody_5 rfl rfl 1 rfl ?_
  refine sm_i2l (v := (Int32.toInt64 a1)) (q := 7) dX12_nobody_6 rfl rfl ?_
  refine sm_lconst (v := 1) (q := 8) dX12_nobody_7 rfl (by decide) ?_
  refine sm_ldc2 (q := 11) dX12_nobody_8 rfl co_X12_349 ?_
  obtain ⟨p3, hc_p3, h⟩ := sm_bd_e h
  refine sm_callSi (q := 14) (As := [.inr (.inr (Int32.toInt64 a1)), .inr (.inr (1 : Int64)), .inr (.inr (30 : Int64))]) (S := []) (e_X12_isIn hc_p3) ms_X12_155 rfl (by decide) (Nat.le_of_ble_eq_true rfl) dX12_nobody_11 rfl ?_
  rcases sm_if_e h with ⟨hb4, h⟩ | ⟨hb4, h⟩
  · refine sm_if_ne (tgt := 23) (q := 17) dX12_nobody_14 (by decide) rfl (fun hn => absurd hb4 hn) (fun _ => ?_)
    refine sm_aload_n (q := 18) dX12_nobody_17 rfl rfl 0 rfl ?_
    refine sm_iconst (v := 1) (q := 19) dX12_nobody_18 rfl (by decide) ?_
    obtain ⟨p5, hc_p5, h⟩ := sm_bd_e h
    refine sm_callVi (q := 22) (As := [.inl (1 : Int32)]) (S := []) (e_X12_fail hc_p5) mv_X12_283 hc1 rfl (by decide) (Nat.le_of_ble_eq_true rfl) dX12_nobody_19 rfl ?_
    obtain rfl := Option.some.inj h
    exact sm_iret dX12_nobody_22 rfl
  · refine sm_if_ne (tgt := 23) (q := 17) dX12_nobody_14 (by decide) rfl (fun _ => ?_) (fun he => absurd he hb4)
    refine sm_iconst (v := 0) (q := 24) dX12_nobody_23 rfl (by decide) ?_
    refine sm_istore_n (L' := [(2, .inl (0 : Int32)), (0, .inr (.inl a0)), (1, .inl a1)]) (q := 25) dX12_nobody_24 rfl rfl (by decide) rfl ?_
    refine sm_iconst (v := 1) (q := 26) dX12_nobody_25 rfl (by decide) ?_
    refine sm_istore_n (L' := [(3, .inl (1 : Int32)), (2, .inl (0 : Int32)), (0, .inr (.inl a0)), (1, .inl a1)]) (q := 27) dX12_nobody_26 rfl rfl (by decide) rfl ?_
    refine sm_pick [2, 3, 1, 0] rfl ?_
    exact w_X12_nobody_27 N R N _ _ _ _ _ _ h
theorem e_X12_nobody {l : Launch} {N : Nat} {R : Nat → Nat → Nat} {a0 : Nat} {a1 : Int32} {I : (Nat → Nat → Int32)} {y : (Int32 × (Nat → Nat → Int32))} (h : f_X12_nobody N R a0 a1 I = some y) : sm_E l 2 mX12_nobody [.inr (.inl a0), .inl a1] (I, R) (.inl (some (.inl y.1))) (y.2, R) :=
  sm_meth (by decide) (Nat.le_of_ble_eq_true rfl) (w_X12_nobody N R a0 a1 I y h)
def f_X12_empty_27 (N : Nat) (R : Nat → Nat → Nat) : Nat → Nat → Int32 → Int32 → Int32 → (Nat → Nat → Int32) → Option (Int32 × (Nat → Nat → Int32))
  | 0, _, _, _, _, _ => none
  | n + 1, a0, a1, a2, a3, I =>
    if a1 < a3 then (
      some (a2, I))
    else (
      sm_gd (sm_kd a0 = (12, 59)) <|
      (f_X12_awayIn N R a0 a3 I).bind fun p3 =>
      if p3.1 = 0 then (
        f_X12_empty_27 N R n a0 a1 (a2 + (1 : Int32)) (a3 + 1) p3.2)
      else (
        f_X12_empty_27 N R n a0 a1 (a2 + (0 : Int32)) (a3 + 1) p3.2))
def f_X12_empty (N : Nat) (R : Nat → Nat → Nat) : Nat → Int32 → (Nat → Nat → Int32) → Option (Int32 × (Nat → Nat → Int32)) := fun a0 a1 I =>
  sm_gd (sm_kd a0 = (12, 59)) <|
  sm_lt (sm_up I a0 (sm_up (I a0) 3 (0 : Int32))) fun I2 =>
  (f_X12_isIn N R (Int32.toInt64 a1) (1 : Int64) (30 : Int64) I2).bind fun p3 =>
  if p3.1 = 0 then (
    (f_X12_fail N R a0 (1 : Int32) p3.2).bind fun p5 =>
    some (p5.1, p5.2))
  else (
    f_X12_empty_27 N R N a0 a1 (0 : Int32) (1 : Int32) p3.2)
set_option maxHeartbeats 4000000 in
set_option maxRecDepth 100000 in
theorem w_X12_empty_27 {l : Launch} (N : Nat) (R : Nat → Nat → Nat) : ∀ (n : Nat) (a0 : Nat) (a1 : Int32) (a2 : Int32) (a3 : Int32) (I : (Nat → Nat → Int32)) (y : (Int32 × (Nat → Nat → Int32))), f_X12_empty_27 N R n a0 a1 a2 a3 I = some y → sm_W l 2 mX12_empty 27 [(0, .inr (.inl a0)), (1, .inl a1), (2, .inl a2), (3, .inl a3)] [] (I, R) (.inl (some (.inl y.1))) (y.2, R) := by
  intro n
  induction n with
  | zero => intro a0 a1 a2 a3 I y h; cases h
  | succ n ih =>
    intro a0 a1 a2 a3 I y h
    rw [f_X12_empty_27] at h
    refine sm_iload_n (q := 28) dX12_empty_27 rfl rfl 3 rfl ?_
    refine sm_iload_n (q := 29) dX12_empty_28 rfl rfl 1 rfl ?_
    rcases sm_if_e h with ⟨hb1, h⟩ | ⟨hb1, h⟩
    · refine sm_icmp_gt (tgt := 54) (q := 32) dX12_empty_29 (by decide) rfl (fun _ => ?_) (fun hn => absurd hb1 hn)
      refine sm_iload_n (q := 55) dX12_empty_54 rfl rfl 2 rfl ?_
      obtain rfl := Option.some.inj h
      exact sm_iret dX12_empty_55 rfl
    · refine sm_icmp_gt (tgt := 54) (q := 32) dX12_empty_29 (by decide) rfl (fun ht => absurd ht hb1) (fun _ => ?_)
      refine sm_iload_n (q := 33) dX12_empty_32 rfl rfl 2 rfl ?_
      refine sm_aload_n (q := 34) dX12_empty_33 rfl rfl 0 rfl ?_
      refine sm_iload_n (q := 35) dX12_empty_34 rfl rfl 3 rfl ?_
      obtain ⟨hc2, h⟩ := sm_gd_e h
      obtain ⟨p3, hc_p3, h⟩ := sm_bd_e h
      refine sm_callVi (q := 38) (As := [.inl a3]) (S := [.inl a2]) (e_X12_awayIn hc_p3) mv_X12_351 hc2 rfl (by decide) (Nat.le_of_ble_eq_true rfl) dX12_empty_35 rfl ?_
      rcases sm_if_e h with ⟨hb4, h⟩ | ⟨hb4, h⟩
      · refine sm_if_ne (tgt := 45) (q := 41) dX12_empty_38 (by decide) rfl (fun hn => absurd hb4 hn) (fun _ => ?_)
        refine sm_iconst (v := 1) (q := 42) dX12_empty_41 rfl (by decide) ?_
        refine sm_goto (q := 46) dX12_empty_42 (by decide) ?_
        refine sm_iadd (q := 47) dX12_empty_46 rfl ?_
        refine sm_istore_n (L' := [(2, .inl (a2 + (1 : Int32))), (0, .inr (.inl a0)), (1, .inl a1), (3, .inl a3)]) (q := 48) dX12_empty_47 rfl rfl (by decide) rfl ?_
        refine sm_iinc (v := (a3 + 1)) (L' := [(3, .inl (a3 + 1)), (2, .inl (a2 + (1 : Int32))), (0, .inr (.inl a0)), (1, .inl a1)]) (q := 51) dX12_empty_48 rfl 3 rfl rfl (by decide) rfl ?_
        refine sm_goto (q := 27) dX12_empty_51 (by decide) ?_
        refine sm_pick [2, 3, 1, 0] rfl ?_
        exact ih _ _ _ _ _ _ h
      · refine sm_if_ne (tgt := 45) (q := 41) dX12_empty_38 (by decide) rfl (fun _ => ?_) (fun he => absurd he hb4)
        refine sm_iconst (v := 0) (q := 46) dX12_empty_45 rfl (by decide) ?_
        refine sm_iadd (q := 47) dX12_empty_46 rfl ?_
        refine sm_istore_n (L' := [(2, .inl (a2 + (0 : Int32))), (0, .inr (.inl a0)), (1, .inl a1), (3, .inl a3)]) (q := 48) dX12_empty_47 rfl rfl (by decide) rfl ?_
        refine sm_iinc (v := (a3 + 1)) (L' := [(3, .inl (a3 + 1)), (2, .inl (a2 + (0 : Int32))), (0, .inr (.inl a0)), (1, .inl a1)]) (q := 51) dX12_empty_48 rfl 3 rfl rfl (by decide) rfl ?_
        refine sm_goto (q := 27) dX12_empty_51 (by decide) ?_
        refine sm_pick [2, 3, 1, 0] rfl ?_
        exact ih _ _ _ _ _ _ h
set_option maxHeartbeats 4000000 in
set_option maxRecDepth 100000 in
theorem w_X12_empty {l : Launch} (N : Nat) (R : Nat → Nat → Nat) : ∀ (a0 : Nat) (a1 : Int32) (I : (Nat → Nat → Int32)) (y : (Int32 × (Nat → Nat → Int32))), f_X12_empty N R a0 a1 I = some y → sm_W l 2 mX12_empty 0 [(0, .inr (.inl a0)), (1, .inl a1)] [] (I, R) (.inl (some (.inl y.1))) (y.2, R) := by
  intro a0 a1 I y h
  unfold f_X12_empty at h
  refine sm_aload_n (q := 1) dX12_empty_0 rfl rfl 0 rfl ?_
  refine sm_iconst (v := 0) (q := 2) dX12_empty_1 rfl (by decide) ?_
  obtain ⟨hc1, h⟩ := sm_gd_e h
  obtain ⟨I2, hI2, h⟩ := sm_lt_e h
  refine sm_putI (q := 5) dX12_empty_2 rfl fk_X12_152 hc1 (by decide) (by decide) ?_
  refine sm_memI hI2 ?_
  refine sm_iload_n (q := 6) dX12_empty_5 rfl rfl 1 rfl ?_
  refine sm_i2l (v := (Int32.toInt64 a1)) (q := 7) dX12_empty_6 rfl rfl ?_
  refine sm_lconst (v := 1) (q := 8) dX12_empty_7 rfl (by decide) ?_
  refine sm_ldc2 (q := 11) dX12_empty_8 rfl co_X12_349 ?_
  obtain ⟨p3, hc_p3, h⟩ := sm_bd_e h
  refine sm_callSi (q := 14) (As := [.inr (.inr (Int32.toInt64 a1)), .inr (.inr (1 : Int64)), .inr (.inr (30 : Int64))]) (S := []) (e_X12_isIn hc_p3) ms_X12_155 rfl (by decide) (Nat.le_of_ble_eq_true rfl) dX12_empty_11 rfl ?_
  rcases sm_if_e h with ⟨hb4, h⟩ | ⟨hb4, h⟩
  · refine sm_if_ne (tgt := 23) (q := 17) dX12_empty_14 (by decide) rfl (fun hn => absurd hb4 hn) (fun _ => ?_)
    refine sm_aload_n (q := 18) dX12_empty_17 rfl rfl 0 rfl ?_
    refine sm_iconst (v := 1) (q := 19) dX12_empty_18 rfl (by decide) ?_
    obtain ⟨p5, hc_p5, h⟩ := sm_bd_e h
    refine sm_callVi (q := 22) (As := [.inl (1 : Int32)]) (S := []) (e_X12_fail hc_p5) mv_X12_283 hc1 rfl (by decide) (Nat.le_of_ble_eq_true rfl) dX12_empty_19 rfl ?_
    obtain rfl := Option.some.inj h
    exact sm_iret dX12_empty_22 rfl
  · refine sm_if_ne (tgt := 23) (q := 17) dX12_empty_14 (by decide) rfl (fun _ => ?_) (fun he => absurd he hb4)
    refine sm_iconst (v := 0) (q := 24) dX12_empty_23 rfl (by decide) ?_
    refine sm_istore_n (L' := [(2, .inl (0 : Int32)), (0, .inr (.inl a0)), (1, .inl a1)]) (q := 25) dX12_empty_24 rfl rfl (by decide) rfl ?_
    refine sm_iconst (v := 1) (q := 26) dX12_empty_25 rfl (by decide) ?_
    refine sm_istore_n (L' := [(3, .inl (1 : Int32)), (2, .inl (0 : Int32)), (0, .inr (.inl a0)), (1, .inl a1)]) (q := 27) dX12_empty_26 rfl rfl (by decide) rfl ?_
    refine sm_pick [2, 3, 1, 0] rfl ?_
    exact w_X12_empty_27 N R N _ _ _ _ _ _ h
theorem e_X12_empty {l : Launch} {N : Nat} {R : Nat → Nat → Nat} {a0 : Nat} {a1 : Int32} {I : (Nat → Nat → Int32)} {y : (Int32 × (Nat → Nat → Int32))} (h : f_X12_empty N R a0 a1 I = some y) : sm_E l 2 mX12_empty [.inr (.inl a0), .inl a1] (I, R) (.inl (some (.inl y.1))) (y.2, R) :=
  sm_meth (by decide) (Nat.le_of_ble_eq_true rfl) (w_X12_empty N R a0 a1 I y h)
def f_X12_lastFree_3 (N : Nat) (R : Nat → Nat → Nat) : Nat → Nat → Int32 → Int32 → (Nat → Nat → Int32) → Option (Int32 × (Nat → Nat → Int32))
  | 0, _, _, _, _ => none
  | n + 1, a0, a1, a2, I =>
    if a2 ≤ 0 then (
      some (a2, I))
    else (
      sm_gd (sm_kd a0 = (12, 59)) <|
      (f_X12_mayGo N R a0 a1 a2 I).bind fun p3 =>
      if p3.1 = 0 then (
        f_X12_lastFree_3 N R n a0 a1 (a2 + (-1)) p3.2)
      else (
        some (a2, p3.2)))
def f_X12_lastFree (N : Nat) (R : Nat → Nat → Nat) : Nat → Int32 → (Nat → Nat → Int32) → Option (Int32 × (Nat → Nat → Int32)) := fun a0 a1 I =>
  f_X12_lastFree_3 N R N a0 a1 (30 : Int32) I
set_option maxHeartbeats 4000000 in
set_option maxRecDepth 100000 in
theorem w_X12_lastFree_3 {l : Launch} (N : Nat) (R : Nat → Nat → Nat) : ∀ (n : Nat) (a0 : Nat) (a1 : Int32) (a2 : Int32) (I : (Nat → Nat → Int32)) (y : (Int32 × (Nat → Nat → Int32))), f_X12_lastFree_3 N R n a0 a1 a2 I = some y → sm_W l 3 mX12_lastFree 3 [(0, .inr (.inl a0)), (1, .inl a1), (2, .inl a2)] [] (I, R) (.inl (some (.inl y.1))) (y.2, R) := by
  intro n
  induction n with
  | zero => intro a0 a1 a2 I y h; cases h
  | succ n ih =>
    intro a0 a1 a2 I y h
    rw [f_X12_lastFree_3] at h
    refine sm_iload_n (q := 4) dX12_lastFree_3 rfl rfl 2 rfl ?_
    rcases sm_if_e h with ⟨hb1, h⟩ | ⟨hb1, h⟩
    · refine sm_if_le (tgt := 22) (q := 7) dX12_lastFree_4 (by decide) rfl (fun _ => ?_) (fun hn => absurd hb1 hn)
      refine sm_iload_n (q := 23) dX12_lastFree_22 rfl rfl 2 rfl ?_
      obtain rfl := Option.some.inj h
      exact sm_iret dX12_lastFree_23 rfl
    · refine sm_if_le (tgt := 22) (q := 7) dX12_lastFree_4 (by decide) rfl (fun ht => absurd ht hb1) (fun _ => ?_)
      refine sm_aload_n (q := 8) dX12_lastFree_7 rfl rfl 0 rfl ?_
      refine sm_iload_n (q := 9) dX12_lastFree_8 rfl rfl 1 rfl ?_
      refine sm_iload_n (q := 10) dX12_lastFree_9 rfl rfl 2 rfl ?_
      obtain ⟨hc2, h⟩ := sm_gd_e h
      obtain ⟨p3, hc_p3, h⟩ := sm_bd_e h
      refine sm_callVi (q := 13) (As := [.inl a1, .inl a2]) (S := []) (e_X12_mayGo hc_p3) mv_X12_358 hc2 rfl (by decide) (Nat.le_of_ble_eq_true rfl) dX12_lastFree_10 rfl ?_
      rcases sm_if_e h with ⟨hb4, h⟩ | ⟨hb4, h⟩
      · refine sm_if_ne (tgt := 22) (q := 16) dX12_lastFree_13 (by decide) rfl (fun hn => absurd hb4 hn) (fun _ => ?_)
        refine sm_iinc (v := (a2 + (-1))) (L' := [(2, .inl (a2 + (-1))), (0, .inr (.inl a0)), (1, .inl a1)]) (q := 19) dX12_lastFree_16 rfl 2 rfl rfl (by decide) rfl ?_
        refine sm_goto (q := 3) dX12_lastFree_19 (by decide) ?_
        refine sm_pick [1, 2, 0] rfl ?_
        exact ih _ _ _ _ _ h
      · refine sm_if_ne (tgt := 22) (q := 16) dX12_lastFree_13 (by decide) rfl (fun _ => ?_) (fun he => absurd he hb4)
        refine sm_iload_n (q := 23) dX12_lastFree_22 rfl rfl 2 rfl ?_
        obtain rfl := Option.some.inj h
        exact sm_iret dX12_lastFree_23 rfl
set_option maxHeartbeats 4000000 in
set_option maxRecDepth 100000 in
theorem w_X12_lastFree {l : Launch} (N : Nat) (R : Nat → Nat → Nat) : ∀ (a0 : Nat) (a1 : Int32) (I : (Nat → Nat → Int32)) (y : (Int32 × (Nat → Nat → Int32))), f_X12_lastFree N R a0 a1 I = some y → sm_W l 3 mX12_lastFree 0 [(0, .inr (.inl a0)), (1, .inl a1)] [] (I, R) (.inl (some (.inl y.1))) (y.2, R) := by
  intro a0 a1 I y h
  unfold f_X12_lastFree at h
  refine sm_bipush (v := 30) (q := 2) dX12_lastFree_0 rfl (by decide) ?_
  refine sm_istore_n (L' := [(2, .inl (30 : Int32)), (0, .inr (.inl a0)), (1, .inl a1)]) (q := 3) dX12_lastFree_2 rfl rfl (by decide) rfl ?_
  refine sm_pick [1, 2, 0] rfl ?_
  exact w_X12_lastFree_3 N R N _ _ _ _ _ h
theorem e_X12_lastFree {l : Launch} {N : Nat} {R : Nat → Nat → Nat} {a0 : Nat} {a1 : Int32} {I : (Nat → Nat → Int32)} {y : (Int32 × (Nat → Nat → Int32))} (h : f_X12_lastFree N R a0 a1 I = some y) : sm_E l 3 mX12_lastFree [.inr (.inl a0), .inl a1] (I, R) (.inl (some (.inl y.1))) (y.2, R) :=
  sm_meth (by decide) (Nat.le_of_ble_eq_true rfl) (w_X12_lastFree N R a0 a1 I y h)
def f_X12_through_67 (N : Nat) (R : Nat → Nat → Nat) (k_32 : Nat → Int32 → Int32 → Int32 → (Nat → Nat → Int32) → Option (Int32 × (Nat → Nat → Int32))) : Nat → Int32 → Int32 → Int32 → Int32 → (Nat → Nat → Int32) → Option (Int32 × (Nat → Nat → Int32)) := fun a0 a1 a2 a4 b0 I =>
  if b0 = 0 then (
    k_32 a0 a1 (a2 + 1) b0 I)
  else (
    sm_gd (sm_kd a0 = (12, 59)) <|
    (f_X12_go N R a0 a1 a4 I).bind fun p3 =>
    k_32 a0 a1 (a2 + 1) b0 p3.2)
def f_X12_through_85 (N : Nat) (R : Nat → Nat → Nat) : Nat → Int32 → Int32 → (Nat → Nat → Int32) → Option (Int32 × (Nat → Nat → Int32)) := fun a0 a2 a3 I =>
  sm_gd (sm_kd a0 = (12, 59)) <|
  (f_X12_unpack N R a0 (R a0 37) (0 : Int32) I).bind fun p2 =>
  if a3 = 0 then (
    some ((-1 : Int32), p2.2))
  else (
    some (a2, p2.2))
def f_X12_through_32 (N : Nat) (R : Nat → Nat → Nat) : Nat → Nat → Int32 → Int32 → Int32 → (Nat → Nat → Int32) → Option (Int32 × (Nat → Nat → Int32))
  | 0, _, _, _, _, _ => none
  | n + 1, a0, a1, a2, a3, I =>
    if a3 = 0 then (
      f_X12_through_85 N R a0 a2 a3 I)
    else (
      sm_gd (sm_kd a0 = (12, 59)) <|
      sm_gd ((sm_kd (R a0 25)).1 = 13 ∧ ¬ (a1 < 0 ∨ (sm_kd (R a0 25)).2 ≤ (a1).toNatClampNeg)) <|
      (f_X12_nextHard N R a0 a1 I).bind fun p4 =>
      if p4.1 ≤ (I (R a0 25) (a1).toNatClampNeg) then (
        f_X12_through_85 N R a0 a2 a3 p4.2)
      else (
        (f_X12_lastFree N R a0 a1 p4.2).bind fun p6 =>
        if p6.1 ≤ 0 then (
          f_X12_through_67 N R (fun z0 z1 z2 z3 J => f_X12_through_32 N R n z0 z1 z2 z3 J) a0 a1 a2 p6.1 (0 : Int32) p6.2)
        else (
          f_X12_through_67 N R (fun z0 z1 z2 z3 J => f_X12_through_32 N R n z0 z1 z2 z3 J) a0 a1 a2 p6.1 (1 : Int32) p6.2)))
def f_X12_through (N : Nat) (R : Nat → Nat → Nat) : Nat → Int32 → (Nat → Nat → Int32) → Option (Int32 × (Nat → Nat → Int32)) := fun a0 a1 I =>
  sm_gd (sm_kd a0 = (12, 59)) <|
  sm_lt (sm_up I a0 (sm_up (I a0) 3 (0 : Int32))) fun I2 =>
  (f_X12_isPupil N R a0 a1 I2).bind fun p3 =>
  if p3.1 = 0 then (
    (f_X12_fail N R a0 (1 : Int32) p3.2).bind fun p5 =>
    some (p5.1, p5.2))
  else (
    (f_X12_pack N R a0 (R a0 37) (0 : Int32) p3.2).bind fun p6 =>
    f_X12_through_32 N R N a0 a1 (0 : Int32) (1 : Int32) p6.2)
set_option maxHeartbeats 4000000 in
set_option maxRecDepth 100000 in
theorem w_X12_through_67 {l : Launch} (N : Nat) (R : Nat → Nat → Nat) (k_32 : Nat → Int32 → Int32 → Int32 → (Nat → Nat → Int32) → Option (Int32 × (Nat → Nat → Int32))) (hk_32 : ∀ (a0 : Nat) (a1 : Int32) (a2 : Int32) (a3 : Int32) (I : (Nat → Nat → Int32)) (y : (Int32 × (Nat → Nat → Int32))), k_32 a0 a1 a2 a3 I = some y → sm_W l 5 mX12_through 32 [(0, .inr (.inl a0)), (1, .inl a1), (2, .inl a2), (3, .inl a3)] [] (I, R) (.inl (some (.inl y.1))) (y.2, R)) : ∀ (a0 : Nat) (a1 : Int32) (a2 : Int32) (a4 : Int32) (b0 : Int32) (I : (Nat → Nat → Int32)) (y : (Int32 × (Nat → Nat → Int32))), f_X12_through_67 N R k_32 a0 a1 a2 a4 b0 I = some y → sm_W l 5 mX12_through 67 [(0, .inr (.inl a0)), (1, .inl a1), (2, .inl a2), (4, .inl a4)] [.inl b0] (I, R) (.inl (some (.inl y.1))) (y.2, R) := by
  intro a0 a1 a2 a4 b0 I y h
  unfold f_X12_through_67 at h
  refine sm_istore_n (L' := [(3, .inl b0), (0, .inr (.inl a0)), (1, .inl a1), (2, .inl a2), (4, .inl a4)]) (q := 68) dX12_through_67 rfl rfl (by decide) rfl ?_
  refine sm_iload_n (q := 69) dX12_through_68 rfl rfl 0 rfl ?_
  rcases sm_if_e h with ⟨hb1, h⟩ | ⟨hb1, h⟩
  · refine sm_if_eq (tgt := 79) (q := 72) dX12_through_69 (by decide) rfl (fun _ => ?_) (fun hn => absurd hb1 hn)
    refine sm_iinc (v := (a2 + 1)) (L' := [(2, .inl (a2 + 1)), (3, .inl b0), (0, .inr (.inl a0)), (1, .inl a1), (4, .inl a4)]) (q := 82) dX12_through_79 rfl 3 rfl rfl (by decide) rfl ?_
    refine sm_goto (q := 32) dX12_through_82 (by decide) ?_
    refine sm_pick [2, 3, 0, 1] rfl ?_
    exact hk_32 _ _ _ _ _ _ h
  · refine sm_if_eq (tgt := 79) (q := 72) dX12_through_69 (by decide) rfl (fun ht => absurd ht hb1) (fun _ => ?_)
    refine sm_aload_n (q := 73) dX12_through_72 rfl rfl 1 rfl ?_
    refine sm_iload_n (q := 74) dX12_through_73 rfl rfl 2 rfl ?_
    refine sm_iload (q := 76) dX12_through_74 rfl 4 rfl ?_
    obtain ⟨hc2, h⟩ := sm_gd_e h
    obtain ⟨p3, hc_p3, h⟩ := sm_bd_e h
    refine sm_callVv (q := 79) (As := [.inl a1, .inl a4]) (S := []) (e_X12_go hc_p3) mv_X12_393 hc2 rfl (by decide) (Nat.le_of_ble_eq_true rfl) dX12_through_76 rfl ?_
    refine sm_iinc (v := (a2 + 1)) (L' := [(2, .inl (a2 + 1)), (3, .inl b0), (0, .inr (.inl a0)), (1, .inl a1), (4, .inl a4)]) (q := 82) dX12_through_79 rfl 3 rfl rfl (by decide) rfl ?_
    refine sm_goto (q := 32) dX12_through_82 (by decide) ?_
    refine sm_pick [2, 3, 0, 1] rfl ?_
    exact hk_32 _ _ _ _ _ _ h
set_option maxHeartbeats 4000000 in
set_option maxRecDepth 100000 in
theorem w_X12_through_85 {l : Launch} (N : Nat) (R : Nat → Nat → Nat) : ∀ (a0 : Nat) (a2 : Int32) (a3 : Int32) (I : (Nat → Nat → Int32)) (y : (Int32 × (Nat → Nat → Int32))), f_X12_through_85 N R a0 a2 a3 I = some y → sm_W l 5 mX12_through 85 [(0, .inr (.inl a0)), (2, .inl a2), (3, .inl a3)] [] (I, R) (.inl (some (.inl y.1))) (y.2, R) := by
  intro a0 a2 a3 I y h
  unfold f_X12_through_85 at h
  refine sm_aload_n (q := 86) dX12_through_85 rfl rfl 0 rfl ?_
  refine sm_aload_n (q := 87) dX12_through_86 rfl rfl 0 rfl ?_
  obtain ⟨hc1, h⟩ := sm_gd_e h
  refine sm_getR (r := R a0 37) (q := 90) dX12_through_87 rfl fk_X12_98 hc1 (by decide) (by decide) rfl ?_
  refine sm_iconst (v := 0) (q := 91) dX12_through_90 rfl (by decide) ?_
  obtain ⟨p2, hc_p2, h⟩ := sm_bd_e h
  refine sm_callVv (q := 94) (As := [.inr (.inl (R a0 37)), .inl (0 : Int32)]) (S := []) (e_X12_unpack hc_p2) mv_X12_400 hc1 rfl (by decide) (Nat.le_of_ble_eq_true rfl) dX12_through_91 rfl ?_
  refine sm_iload_n (q := 95) dX12_through_94 rfl rfl 2 rfl ?_
  rcases sm_if_e h with ⟨hb3, h⟩ | ⟨hb3, h⟩
  · refine sm_if_eq (tgt := 102) (q := 98) dX12_through_95 (by decide) rfl (fun _ => ?_) (fun hn => absurd hb3 hn)
    refine sm_iconst (v := -1) (q := 103) dX12_through_102 rfl (by decide) ?_
    obtain rfl := Option.some.inj h
    exact sm_iret dX12_through_103 rfl
  · refine sm_if_eq (tgt := 102) (q := 98) dX12_through_95 (by decide) rfl (fun ht => absurd ht hb3) (fun _ => ?_)
    refine sm_iload_n (q := 99) dX12_through_98 rfl rfl 1 rfl ?_
    refine sm_goto (q := 103) dX12_through_99 (by decide) ?_
    obtain rfl := Option.some.inj h
    exact sm_iret dX12_through_103 rfl
set_option maxHeartbeats 4000000 in
set_option maxRecDepth 100000 in
theorem w_X12_through_32 {l : Launch} (N : Nat) (R : Nat → Nat → Nat) : ∀ (n : Nat) (a0 : Nat) (a1 : Int32) (a2 : Int32) (a3 : Int32) (I : (Nat → Nat → Int32)) (y : (Int32 × (Nat → Nat → Int32))), f_X12_through_32 N R n a0 a1 a2 a3 I = some y → sm_W l 5 mX12_through 32 [(0, .inr (.inl a0)), (1, .inl a1), (2, .inl a2), (3, .inl a3)] [] (I, R) (.inl (some (.inl y.1))) (y.2, R) := by
  intro n
  induction n with
  | zero => intro a0 a1 a2 a3 I y h; cases h
  | succ n ih =>
    intro a0 a1 a2 a3 I y h
    rw [f_X12_through_32] at h
    refine sm_iload_n (q := 33) dX12_through_32 rfl rfl 3 rfl ?_
    rcases sm_if_e h with ⟨hb1, h⟩ | ⟨hb1, h⟩
    · refine sm_if_eq (tgt := 85) (q := 36) dX12_through_33 (by decide) rfl (fun _ => ?_) (fun hn => absurd hb1 hn)
      refine sm_pick [0, 2, 3] rfl ?_
      exact w_X12_through_85 N R _ _ _ _ _ h
    · refine sm_if_eq (tgt := 85) (q := 36) dX12_through_33 (by decide) rfl (fun ht => absurd ht hb1) (fun _ => ?_)
      refine sm_aload_n (q := 37) dX12_through_36 rfl rfl 0 rfl ?_
      obtain ⟨hc2, h⟩ := sm_gd_e h
      refine sm_getR (r := R a0 25) (q := 40) dX12_through_37 rfl fk_X12_76 hc2 (by decide) (by decide) rfl ?_
      refine sm_iload_n (q := 41) dX12_through_40 rfl rfl 1 rfl ?_
      obtain ⟨hc3, h⟩ := sm_gd_e h
      refine sm_iald (n := (sm_kd (R a0 25)).2) (q := 42) dX12_through_41 rfl (Prod.ext hc3.1 rfl) hc3.2 ?_
      refine sm_aload_n (q := 43) dX12_through_42 rfl rfl 0 rfl ?_
      refine sm_iload_n (q := 44) dX12_through_43 rfl rfl 1 rfl ?_
      obtain ⟨p4, hc_p4, h⟩ := sm_bd_e h
      refine sm_callVi (q := 47) (As := [.inl a1]) (S := [.inl (I (R a0 25) (a1).toNatClampNeg)]) (e_X12_nextHard hc_p4) mv_X12_319 hc2 rfl (by decide) (Nat.le_of_ble_eq_true rfl) dX12_through_44 rfl ?_
      rcases sm_if_e h with ⟨hb5, h⟩ | ⟨hb5, h⟩
      · refine sm_icmp_ge (tgt := 85) (q := 50) dX12_through_47 (by decide) rfl (fun _ => ?_) (fun hn => absurd hb5 hn)
        refine sm_pick [0, 2, 3] rfl ?_
        exact w_X12_through_85 N R _ _ _ _ _ h
      · refine sm_icmp_ge (tgt := 85) (q := 50) dX12_through_47 (by decide) rfl (fun ht => absurd ht hb5) (fun _ => ?_)
        refine sm_aload_n (q := 51) dX12_through_50 rfl rfl 0 rfl ?_
        refine sm_iload_n (q := 52) dX12_through_51 rfl rfl 1 rfl ?_
        obtain ⟨p6, hc_p6, h⟩ := sm_bd_e h
        refine sm_callVi (q := 55) (As := [.inl a1]) (S := []) (e_X12_lastFree hc_p6) mv_X12_411 hc2 rfl (by decide) (Nat.le_of_ble_eq_true rfl) dX12_through_52 rfl ?_
        refine sm_istore (L' := [(4, .inl p6.1), (0, .inr (.inl a0)), (1, .inl a1), (2, .inl a2), (3, .inl a3)]) (q := 57) dX12_through_55 rfl (by decide) rfl ?_
        refine sm_iload (q := 59) dX12_through_57 rfl 0 rfl ?_
        rcases sm_if_e h with ⟨hb7, h⟩ | ⟨hb7, h⟩
        · refine sm_if_le (tgt := 66) (q := 62) dX12_through_59 (by decide) rfl (fun _ => ?_) (fun hn => absurd hb7 hn)
          refine sm_iconst (v := 0) (q := 67) dX12_through_66 rfl (by decide) ?_
          refine sm_pick [1, 2, 3, 0] rfl ?_
          exact w_X12_through_67 N R (fun z0 z1 z2 z3 J => f_X12_through_32 N R n z0 z1 z2 z3 J) (fun z0 z1 z2 z3 J y h => ih z0 z1 z2 z3 J y h) _ _ _ _ _ _ _ h
        · refine sm_if_le (tgt := 66) (q := 62) dX12_through_59 (by decide) rfl (fun ht => absurd ht hb7) (fun _ => ?_)
          refine sm_iconst (v := 1) (q := 63) dX12_through_62 rfl (by decide) ?_
          refine sm_goto (q := 67) dX12_through_63 (by decide) ?_
          refine sm_pick [1, 2, 3, 0] rfl ?_
          exact w_X12_through_67 N R (fun z0 z1 z2 z3 J => f_X12_through_32 N R n z0 z1 z2 z3 J) (fun z0 z1 z2 z3 J y h => ih z0 z1 z2 z3 J y h) _ _ _ _ _ _ _ h
set_option maxHeartbeats 4000000 in
set_option maxRecDepth 100000 in
theorem w_X12_through {l : Launch} (N : Nat) (R : Nat → Nat → Nat) : ∀ (a0 : Nat) (a1 : Int32) (I : (Nat → Nat → Int32)) (y : (Int32 × (Nat → Nat → Int32))), f_X12_through N R a0 a1 I = some y → sm_W l 5 mX12_through 0 [(0, .inr (.inl a0)), (1, .inl a1)] [] (I, R) (.inl (some (.inl y.1))) (y.2, R) := by
  intro a0 a1 I y h
  unfold f_X12_through at h
  refine sm_aload_n (q := 1) dX12_through_0 rfl rfl 0 rfl ?_
  refine sm_iconst (v := 0) (q := 2) dX12_through_1 rfl (by decide) ?_
  obtain ⟨hc1, h⟩ := sm_gd_e h
  obtain ⟨I2, hI2, h⟩ := sm_lt_e h
  refine sm_putI (q := 5) dX12_through_2 rfl fk_X12_152 hc1 (by decide) (by decide) ?_
  refine sm_memI hI2 ?_
  refine sm_aload_n (q := 6) dX12_through_5 rfl rfl 0 rfl ?_
  refine sm_iload_n (q := 7) dX12_through_6 rfl rfl 1 rfl ?_
  obtain ⟨p3, hc_p3, h⟩ := sm_bd_e h
  refine sm_callVi (q := 10) (As := [.inl a1]) (S := []) (e_X12_isPupil hc_p3) mv_X12_375 hc1 rfl (by decide) (Nat.le_of_ble_eq_true rfl) dX12_through_7 rfl ?_
  rcases sm_if_e h with ⟨hb4, h⟩ | ⟨hb4, h⟩
  · refine sm_if_ne (tgt := 19) (q := 13) dX12_through_10 (by decide) rfl (fun hn => absurd hb4 hn) (fun _ => ?_)
    refine sm_aload_n (q := 14) dX12_through_13 rfl rfl 0 rfl ?_
    refine sm_iconst (v := 1) (q := 15) dX12_through_14 rfl (by decide) ?_
    obtain ⟨p5, hc_p5, h⟩ := sm_bd_e h
    refine sm_callVi (q := 18) (As := [.inl (1 : Int32)]) (S := []) (e_X12_fail hc_p5) mv_X12_283 hc1 rfl (by decide) (Nat.le_of_ble_eq_true rfl) dX12_through_15 rfl ?_
    obtain rfl := Option.some.inj h
    exact sm_iret dX12_through_18 rfl
  · refine sm_if_ne (tgt := 19) (q := 13) dX12_through_10 (by decide) rfl (fun _ => ?_) (fun he => absurd he hb4)
    refine sm_aload_n (q := 20) dX12_through_19 rfl rfl 0 rfl ?_
    refine sm_aload_n (q := 21) dX12_through_20 rfl rfl 0 rfl ?_
    refine sm_getR (r := R a0 37) (q := 24) dX12_through_21 rfl fk_X12_98 hc1 (by decide) (by decide) rfl ?_
    refine sm_iconst (v := 0) (q := 25) dX12_through_24 rfl (by decide) ?_
    obtain ⟨p6, hc_p6, h⟩ := sm_bd_e h
    refine sm_callVv (q := 28) (As := [.inr (.inl (R a0 37)), .inl (0 : Int32)]) (S := []) (e_X12_pack hc_p6) mv_X12_378 hc1 rfl (by decide) (Nat.le_of_ble_eq_true rfl) dX12_through_25 rfl ?_
    refine sm_iconst (v := 0) (q := 29) dX12_through_28 rfl (by decide) ?_
    refine sm_istore_n (L' := [(2, .inl (0 : Int32)), (0, .inr (.inl a0)), (1, .inl a1)]) (q := 30) dX12_through_29 rfl rfl (by decide) rfl ?_
    refine sm_iconst (v := 1) (q := 31) dX12_through_30 rfl (by decide) ?_
    refine sm_istore_n (L' := [(3, .inl (1 : Int32)), (2, .inl (0 : Int32)), (0, .inr (.inl a0)), (1, .inl a1)]) (q := 32) dX12_through_31 rfl rfl (by decide) rfl ?_
    refine sm_pick [2, 3, 1, 0] rfl ?_
    exact w_X12_through_32 N R N _ _ _ _ _ _ h
theorem e_X12_through {l : Launch} {N : Nat} {R : Nat → Nat → Nat} {a0 : Nat} {a1 : Int32} {I : (Nat → Nat → Int32)} {y : (Int32 × (Nat → Nat → Int32))} (h : f_X12_through N R a0 a1 I = some y) : sm_E l 5 mX12_through [.inr (.inl a0), .inl a1] (I, R) (.inl (some (.inl y.1))) (y.2, R) :=
  sm_meth (by decide) (Nat.le_of_ble_eq_true rfl) (w_X12_through N R a0 a1 I y h)
def f_X12_toBeDone_115 (N : Nat) (R : Nat → Nat → Nat) (k_54 : Nat → Int32 → Int32 → Int32 → Int32 → Int32 → (Nat → Nat → Int32) → Option (Int32 × (Nat → Nat → Int32))) : Nat → Int32 → Int32 → Int32 → Int32 → Int32 → Int32 → (Nat → Nat → Int32) → Option (Int32 × (Nat → Nat → Int32)) := fun a0 a1 a2 a3 a5 a6 b0 I =>
  if b0 = 0 then (
    k_54 a0 a1 a2 a3 b0 (a5 + 1) I)
  else (
    sm_gd (sm_kd a0 = (12, 59)) <|
    (f_X12_go N R a0 a1 a6 I).bind fun p3 =>
    k_54 a0 a1 a2 a3 b0 (a5 + 1) p3.2)
def f_X12_toBeDone_89 (N : Nat) (R : Nat → Nat → Nat) (k_54 : Nat → Int32 → Int32 → Int32 → Int32 → Int32 → (Nat → Nat → Int32) → Option (Int32 × (Nat → Nat → Int32))) : Nat → Int32 → Int32 → Int32 → Int32 → (Nat → Nat → Int32) → Option (Int32 × (Nat → Nat → Int32)) := fun a0 a1 a2 a3 a5 I =>
  sm_gd (sm_kd a0 = (12, 59)) <|
  (f_X12_unpack N R a0 (R a0 38) (0 : Int32) I).bind fun p2 =>
  (f_X12_lastFree N R a0 a1 p2.2).bind fun p3 =>
  if p3.1 ≤ 0 then (
    f_X12_toBeDone_115 N R k_54 a0 a1 a2 a3 a5 p3.1 (0 : Int32) p3.2)
  else (
    f_X12_toBeDone_115 N R k_54 a0 a1 a2 a3 a5 p3.1 (1 : Int32) p3.2)
def f_X12_toBeDone_54 (N : Nat) (R : Nat → Nat → Nat) : Nat → Nat → Int32 → Int32 → Int32 → Int32 → Int32 → (Nat → Nat → Int32) → Option (Int32 × (Nat → Nat → Int32))
  | 0, _, _, _, _, _, _, _ => none
  | n + 1, a0, a1, a2, a3, a4, a5, I =>
    if a4 = 0 then (
      sm_gd (sm_kd a0 = (12, 59)) <|
      (f_X12_unpack N R a0 (R a0 37) (0 : Int32) I).bind fun p3 =>
      some (a3, p3.2))
    else (
      if a3 = (-1 : Int32) then (
        sm_gd (sm_kd a0 = (12, 59)) <|
        (f_X12_pack N R a0 (R a0 38) (0 : Int32) I).bind fun p6 =>
        (f_X12_goOn N R a0 a2 p6.2).bind fun p7 =>
        (f_X12_isDone N R a0 a1 p7.2).bind fun p8 =>
        if p8.1 = 0 then (
          f_X12_toBeDone_89 N R (fun z0 z1 z2 z3 z4 z5 J => f_X12_toBeDone_54 N R n z0 z1 z2 z3 z4 z5 J) a0 a1 a2 a3 a5 p8.2)
        else (
          f_X12_toBeDone_89 N R (fun z0 z1 z2 z3 z4 z5 J => f_X12_toBeDone_54 N R n z0 z1 z2 z3 z4 z5 J) a0 a1 a2 a5 a5 p8.2))
      else (
        sm_gd (sm_kd a0 = (12, 59)) <|
        (f_X12_unpack N R a0 (R a0 37) (0 : Int32) I).bind fun p11 =>
        some (a3, p11.2)))
def f_X12_toBeDone (N : Nat) (R : Nat → Nat → Nat) : Nat → Int32 → Int32 → (Nat → Nat → Int32) → Option (Int32 × (Nat → Nat → Int32)) := fun a0 a1 a2 I =>
  sm_gd (sm_kd a0 = (12, 59)) <|
  sm_lt (sm_up I a0 (sm_up (I a0) 3 (0 : Int32))) fun I2 =>
  (f_X12_isPupil N R a0 a1 I2).bind fun p3 =>
  if p3.1 = 0 then (
    (f_X12_fail N R a0 (1 : Int32) p3.2).bind fun p5 =>
    some (p5.1, p5.2))
  else (
    (f_X12_isIn N R (Int32.toInt64 a2) (0 : Int64) (30 : Int64) p3.2).bind fun p6 =>
    if p6.1 = 0 then (
      (f_X12_fail N R a0 (2 : Int32) p6.2).bind fun p8 =>
      some (p8.1, p8.2))
    else (
      (f_X12_pack N R a0 (R a0 37) (0 : Int32) p6.2).bind fun p9 =>
      f_X12_toBeDone_54 N R N a0 a1 a2 (-1 : Int32) (1 : Int32) (0 : Int32) p9.2))
set_option maxHeartbeats 4000000 in
set_option maxRecDepth 100000 in
theorem w_X12_toBeDone_115 {l : Launch} (N : Nat) (R : Nat → Nat → Nat) (k_54 : Nat → Int32 → Int32 → Int32 → Int32 → Int32 → (Nat → Nat → Int32) → Option (Int32 × (Nat → Nat → Int32))) (hk_54 : ∀ (a0 : Nat) (a1 : Int32) (a2 : Int32) (a3 : Int32) (a4 : Int32) (a5 : Int32) (I : (Nat → Nat → Int32)) (y : (Int32 × (Nat → Nat → Int32))), k_54 a0 a1 a2 a3 a4 a5 I = some y → sm_W l 6 mX12_toBeDone 54 [(0, .inr (.inl a0)), (1, .inl a1), (2, .inl a2), (3, .inl a3), (4, .inl a4), (5, .inl a5)] [] (I, R) (.inl (some (.inl y.1))) (y.2, R)) : ∀ (a0 : Nat) (a1 : Int32) (a2 : Int32) (a3 : Int32) (a5 : Int32) (a6 : Int32) (b0 : Int32) (I : (Nat → Nat → Int32)) (y : (Int32 × (Nat → Nat → Int32))), f_X12_toBeDone_115 N R k_54 a0 a1 a2 a3 a5 a6 b0 I = some y → sm_W l 6 mX12_toBeDone 115 [(0, .inr (.inl a0)), (1, .inl a1), (2, .inl a2), (3, .inl a3), (5, .inl a5), (6, .inl a6)] [.inl b0] (I, R) (.inl (some (.inl y.1))) (y.2, R) := by
  intro a0 a1 a2 a3 a5 a6 b0 I y h
  unfold f_X12_toBeDone_115 at h
  refine sm_istore (L' := [(4, .inl b0), (0, .inr (.inl a0)), (1, .inl a1), (2, .inl a2), (3, .inl a3), (5, .inl a5), (6, .inl a6)]) (q := 117) dX12_toBeDone_115 rfl (by decide) rfl ?_
  refine sm_iload (q := 119) dX12_toBeDone_117 rfl 0 rfl ?_
  rcases sm_if_e h with ⟨hb1, h⟩ | ⟨hb1, h⟩
  · refine sm_if_eq (tgt := 129) (q := 122) dX12_toBeDone_119 (by decide) rfl (fun _ => ?_) (fun hn => absurd hb1 hn)
    refine sm_iinc (v := (a5 + 1)) (L' := [(5, .inl (a5 + 1)), (4, .inl b0), (0, .inr (.inl a0)), (1, .inl a1), (2, .inl a2), (3, .inl a3), (6, .inl a6)]) (q := 132) dX12_toBeDone_129 rfl 5 rfl rfl (by decide) rfl ?_
    refine sm_goto (q := 54) dX12_toBeDone_132 (by decide) ?_
    refine sm_pick [2, 3, 4, 5, 1, 0] rfl ?_
    exact hk_54 _ _ _ _ _ _ _ _ h
  · refine sm_if_eq (tgt := 129) (q := 122) dX12_toBeDone_119 (by decide) rfl (fun ht => absurd ht hb1) (fun _ => ?_)
    refine sm_aload_n (q := 123) dX12_toBeDone_122 rfl rfl 1 rfl ?_
    refine sm_iload_n (q := 124) dX12_toBeDone_123 rfl rfl 2 rfl ?_
    refine sm_iload (q := 126) dX12_toBeDone_124 rfl 6 rfl ?_
    obtain ⟨hc2, h⟩ := sm_gd_e h
    obtain ⟨p3, hc_p3, h⟩ := sm_bd_e h
    refine sm_callVv (q := 129) (As := [.inl a1, .inl a6]) (S := []) (e_X12_go hc_p3) mv_X12_393 hc2 rfl (by decide) (Nat.le_of_ble_eq_true rfl) dX12_toBeDone_126 rfl ?_
    refine sm_iinc (v := (a5 + 1)) (L' := [(5, .inl (a5 + 1)), (4, .inl b0), (0, .inr (.inl a0)), (1, .inl a1), (2, .inl a2), (3, .inl a3), (6, .inl a6)]) (q := 132) dX12_toBeDone_129 rfl 5 rfl rfl (by decide) rfl ?_
    refine sm_goto (q := 54) dX12_toBeDone_132 (by decide) ?_
    refine sm_pick [2, 3, 4, 5, 1, 0] rfl ?_
    exact hk_54 _ _ _ _ _ _ _ _ h
set_option maxHeartbeats 4000000 in
set_option maxRecDepth 100000 in
theorem w_X12_toBeDone_89 {l : Launch} (N : Nat) (R : Nat → Nat → Nat) (k_54 : Nat → Int32 → Int32 → Int32 → Int32 → Int32 → (Nat → Nat → Int32) → Option (Int32 × (Nat → Nat → Int32))) (hk_54 : ∀ (a0 : Nat) (a1 : Int32) (a2 : Int32) (a3 : Int32) (a4 : Int32) (a5 : Int32) (I : (Nat → Nat → Int32)) (y : (Int32 × (Nat → Nat → Int32))), k_54 a0 a1 a2 a3 a4 a5 I = some y → sm_W l 6 mX12_toBeDone 54 [(0, .inr (.inl a0)), (1, .inl a1), (2, .inl a2), (3, .inl a3), (4, .inl a4), (5, .inl a5)] [] (I, R) (.inl (some (.inl y.1))) (y.2, R)) : ∀ (a0 : Nat) (a1 : Int32) (a2 : Int32) (a3 : Int32) (a5 : Int32) (I : (Nat → Nat → Int32)) (y : (Int32 × (Nat → Nat → Int32))), f_X12_toBeDone_89 N R k_54 a0 a1 a2 a3 a5 I = some y → sm_W l 6 mX12_toBeDone 89 [(0, .inr (.inl a0)), (1, .inl a1), (2, .inl a2), (3, .inl a3), (5, .inl a5)] [] (I, R) (.inl (some (.inl y.1))) (y.2, R) := by
  intro a0 a1 a2 a3 a5 I y h
  unfold f_X12_toBeDone_89 at h
  refine sm_aload_n (q := 90) dX12_toBeDone_89 rfl rfl 0 rfl ?_
  refine sm_aload_n (q := 91) dX12_toBeDone_90 rfl rfl 0 rfl ?_
  obtain ⟨hc1, h⟩ := sm_gd_e h
  refine sm_getR (r := R a0 38) (q := 94) dX12_toBeDone_91 rfl fk_X12_101 hc1 (by decide) (by decide) rfl ?_
  refine sm_iconst (v := 0) (q := 95) dX12_toBeDone_94 rfl (by decide) ?_
  obtain ⟨p2, hc_p2, h⟩ := sm_bd_e h
  refine sm_callVv (q := 98) (As := [.inr (.inl (R a0 38)), .inl (0 : Int32)]) (S := []) (e_X12_unpack hc_p2) mv_X12_400 hc1 rfl (by decide) (Nat.le_of_ble_eq_true rfl) dX12_toBeDone_95 rfl ?_
  refine sm_aload_n (q := 99) dX12_toBeDone_98 rfl rfl 0 rfl ?_
  refine sm_iload_n (q := 100) dX12_toBeDone_99 rfl rfl 1 rfl ?_
  obtain ⟨p3, hc_p3, h⟩ := sm_bd_e h
  refine sm_callVi (q := 103) (As := [.inl a1]) (S := []) (e_X12_lastFree hc_p3) mv_X12_411 hc1 rfl (by decide) (Nat.le_of_ble_eq_true rfl) dX12_toBeDone_100 rfl ?_
  refine sm_istore (L' := [(6, .inl p3.1), (0, .inr (.inl a0)), (1, .inl a1), (2, .inl a2), (3, .inl a3), (5, .inl a5)]) (q := 105) dX12_toBeDone_103 rfl (by decide) rfl ?_
  refine sm_iload (q := 107) dX12_toBeDone_105 rfl 0 rfl ?_
  rcases sm_if_e h with ⟨hb4, h⟩ | ⟨hb4, h⟩
  · refine sm_if_le (tgt := 114) (q := 110) dX12_toBeDone_107 (by decide) rfl (fun _ => ?_) (fun hn => absurd hb4 hn)
    refine sm_iconst (v := 0) (q := 115) dX12_toBeDone_114 rfl (by decide) ?_
    refine sm_pick [1, 2, 3, 4, 5, 0] rfl ?_
    exact w_X12_toBeDone_115 N R k_54 hk_54 _ _ _ _ _ _ _ _ _ h
  · refine sm_if_le (tgt := 114) (q := 110) dX12_toBeDone_107 (by decide) rfl (fun ht => absurd ht hb4) (fun _ => ?_)
    refine sm_iconst (v := 1) (q := 111) dX12_toBeDone_110 rfl (by decide) ?_
    refine sm_goto (q := 115) dX12_toBeDone_111 (by decide) ?_
    refine sm_pick [1, 2, 3, 4, 5, 0] rfl ?_
    exact w_X12_toBeDone_115 N R k_54 hk_54 _ _ _ _ _ _ _ _ _ h
set_option maxHeartbeats 4000000 in
set_option maxRecDepth 100000 in
theorem w_X12_toBeDone_54 {l : Launch} (N : Nat) (R : Nat → Nat → Nat) : ∀ (n : Nat) (a0 : Nat) (a1 : Int32) (a2 : Int32) (a3 : Int32) (a4 : Int32) (a5 : Int32) (I : (Nat → Nat → Int32)) (y : (Int32 × (Nat → Nat → Int32))), f_X12_toBeDone_54 N R n a0 a1 a2 a3 a4 a5 I = some y → sm_W l 6 mX12_toBeDone 54 [(0, .inr (.inl a0)), (1, .inl a1), (2, .inl a2), (3, .inl a3), (4, .inl a4), (5, .inl a5)] [] (I, R) (.inl (some (.inl y.1))) (y.2, R) := by
  intro n
  induction n with
  | zero => intro a0 a1 a2 a3 a4 a5 I y h; cases h
  | succ n ih =>
    intro a0 a1 a2 a3 a4 a5 I y h
    rw [f_X12_toBeDone_54] at h
    refine sm_iload (q := 56) dX12_toBeDone_54 rfl 4 rfl ?_
    rcases sm_if_e h with ⟨hb1, h⟩ | ⟨hb1, h⟩
    · refine sm_if_eq (tgt := 135) (q := 59) dX12_toBeDone_56 (by decide) rfl (fun _ => ?_) (fun hn => absurd hb1 hn)
      refine sm_aload_n (q := 136) dX12_toBeDone_135 rfl rfl 0 rfl ?_
      refine sm_aload_n (q := 137) dX12_toBeDone_136 rfl rfl 0 rfl ?_
      obtain ⟨hc2, h⟩ := sm_gd_e h
      refine sm_getR (r := R a0 37) (q := 140) dX12_toBeDone_137 rfl fk_X12_98 hc2 (by decide) (by decide) rfl ?_
      refine sm_iconst (v := 0) (q := 141) dX12_toBeDone_140 rfl (by decide) ?_
      obtain ⟨p3, hc_p3, h⟩ := sm_bd_e h
      refine sm_callVv (q := 144) (As := [.inr (.inl (R a0 37)), .inl (0 : Int32)]) (S := []) (e_X12_unpack hc_p3) mv_X12_400 hc2 rfl (by decide) (Nat.le_of_ble_eq_true rfl) dX12_toBeDone_141 rfl ?_
      refine sm_iload_n (q := 145) dX12_toBeDone_144 rfl rfl 3 rfl ?_
      obtain rfl := Option.some.inj h
      exact sm_iret dX12_toBeDone_145 rfl
    · refine sm_if_eq (tgt := 135) (q := 59) dX12_toBeDone_56 (by decide) rfl (fun ht => absurd ht hb1) (fun _ => ?_)
      refine sm_iload_n (q := 60) dX12_toBeDone_59 rfl rfl 3 rfl ?_
      refine sm_iconst (v := -1) (q := 61) dX12_toBeDone_60 rfl (by decide) ?_
      rcases sm_if_e h with ⟨hb4, h⟩ | ⟨hb4, h⟩
      · refine sm_icmp_ne (tgt := 135) (q := 64) dX12_toBeDone_61 (by decide) rfl (fun hn => absurd hb4 hn) (fun _ => ?_)
        refine sm_aload_n (q := 65) dX12_toBeDone_64 rfl rfl 0 rfl ?_
        refine sm_aload_n (q := 66) dX12_toBeDone_65 rfl rfl 0 rfl ?_
        obtain ⟨hc5, h⟩ := sm_gd_e h
        refine sm_getR (r := R a0 38) (q := 69) dX12_toBeDone_66 rfl fk_X12_101 hc5 (by decide) (by decide) rfl ?_
        refine sm_iconst (v := 0) (q := 70) dX12_toBeDone_69 rfl (by decide) ?_
        obtain ⟨p6, hc_p6, h⟩ := sm_bd_e h
        refine sm_callVv (q := 73) (As := [.inr (.inl (R a0 38)), .inl (0 : Int32)]) (S := []) (e_X12_pack hc_p6) mv_X12_378 hc5 rfl (by decide) (Nat.le_of_ble_eq_true rfl) dX12_toBeDone_70 rfl ?_
        refine sm_aload_n (q := 74) dX12_toBeDone_73 rfl rfl 0 rfl ?_
        refine sm_iload_n (q := 75) dX12_toBeDone_74 rfl rfl 2 rfl ?_
        obtain ⟨p7, hc_p7, h⟩ := sm_bd_e h
        refine sm_callVv (q := 78) (As := [.inl a2]) (S := []) (e_X12_goOn hc_p7) mv_X12_390 hc5 rfl (by decide) (Nat.le_of_ble_eq_true rfl) dX12_toBeDone_75 rfl ?_
        refine sm_aload_n (q := 79) dX12_toBeDone_78 rfl rfl 0 rfl ?_
        refine sm_iload_n (q := 80) dX12_toBeDone_79 rfl rfl 1 rfl ?_
        obtain ⟨p8, hc_p8, h⟩ := sm_bd_e h
        refine sm_callVi (q := 83) (As := [.inl a1]) (S := []) (e_X12_isDone hc_p8) mv_X12_313 hc5 rfl (by decide) (Nat.le_of_ble_eq_true rfl) dX12_toBeDone_80 rfl ?_
        rcases sm_if_e h with ⟨hb9, h⟩ | ⟨hb9, h⟩
        · refine sm_if_eq (tgt := 89) (q := 86) dX12_toBeDone_83 (by decide) rfl (fun _ => ?_) (fun hn => absurd hb9 hn)
          refine sm_pick [0, 1, 2, 3, 5] rfl ?_
          exact w_X12_toBeDone_89 N R (fun z0 z1 z2 z3 z4 z5 J => f_X12_toBeDone_54 N R n z0 z1 z2 z3 z4 z5 J) (fun z0 z1 z2 z3 z4 z5 J y h => ih z0 z1 z2 z3 z4 z5 J y h) _ _ _ _ _ _ _ h
        · refine sm_if_eq (tgt := 89) (q := 86) dX12_toBeDone_83 (by decide) rfl (fun ht => absurd ht hb9) (fun _ => ?_)
          refine sm_iload (q := 88) dX12_toBeDone_86 rfl 5 rfl ?_
          refine sm_istore_n (L' := [(3, .inl a5), (0, .inr (.inl a0)), (1, .inl a1), (2, .inl a2), (4, .inl a4), (5, .inl a5)]) (q := 89) dX12_toBeDone_88 rfl rfl (by decide) rfl ?_
          refine sm_pick [1, 2, 3, 0, 5] rfl ?_
          exact w_X12_toBeDone_89 N R (fun z0 z1 z2 z3 z4 z5 J => f_X12_toBeDone_54 N R n z0 z1 z2 z3 z4 z5 J) (fun z0 z1 z2 z3 z4 z5 J y h => ih z0 z1 z2 z3 z4 z5 J y h) _ _ _ _ _ _ _ h
      · refine sm_icmp_ne (tgt := 135) (q := 64) dX12_toBeDone_61 (by decide) rfl (fun _ => ?_) (fun he => absurd he hb4)
        refine sm_aload_n (q := 136) dX12_toBeDone_135 rfl rfl 0 rfl ?_
        refine sm_aload_n (q := 137) dX12_toBeDone_136 rfl rfl 0 rfl ?_
        obtain ⟨hc10, h⟩ := sm_gd_e h
        refine sm_getR (r := R a0 37) (q := 140) dX12_toBeDone_137 rfl fk_X12_98 hc10 (by decide) (by decide) rfl ?_
        refine sm_iconst (v := 0) (q := 141) dX12_toBeDone_140 rfl (by decide) ?_
        obtain ⟨p11, hc_p11, h⟩ := sm_bd_e h
        refine sm_callVv (q := 144) (As := [.inr (.inl (R a0 37)), .inl (0 : Int32)]) (S := []) (e_X12_unpack hc_p11) mv_X12_400 hc10 rfl (by decide) (Nat.le_of_ble_eq_true rfl) dX12_toBeDone_141 rfl ?_
        refine sm_iload_n (q := 145) dX12_toBeDone_144 rfl rfl 3 rfl ?_
        obtain rfl := Option.some.inj h
        exact sm_iret dX12_toBeDone_145 rfl
set_option maxHeartbeats 4000000 in
set_option maxRecDepth 100000 in
theorem w_X12_toBeDone {l : Launch} (N : Nat) (R : Nat → Nat → Nat) : ∀ (a0 : Nat) (a1 : Int32) (a2 : Int32) (I : (Nat → Nat → Int32)) (y : (Int32 × (Nat → Nat → Int32))), f_X12_toBeDone N R a0 a1 a2 I = some y → sm_W l 6 mX12_toBeDone 0 [(0, .inr (.inl a0)), (1, .inl a1), (2, .inl a2)] [] (I, R) (.inl (some (.inl y.1))) (y.2, R) := by
  intro a0 a1 a2 I y h
  unfold f_X12_toBeDone at h
  refine sm_aload_n (q := 1) dX12_toBeDone_0 rfl rfl 0 rfl ?_
  refine sm_iconst (v := 0) (q := 2) dX12_toBeDone_1 rfl (by decide) ?_
  obtain ⟨hc1, h⟩ := sm_gd_e h
  obtain ⟨I2, hI2, h⟩ := sm_lt_e h
  refine sm_putI (q := 5) dX12_toBeDone_2 rfl fk_X12_152 hc1 (by decide) (by decide) ?_
  refine sm_memI hI2 ?_
  refine sm_aload_n (q := 6) dX12_toBeDone_5 rfl rfl 0 rfl ?_
  refine sm_iload_n (q := 7) dX12_toBeDone_6 rfl rfl 1 rfl ?_
  obtain ⟨p3, hc_p3, h⟩ := sm_bd_e h
  refine sm_callVi (q := 10) (As := [.inl a1]) (S := []) (e_X12_isPupil hc_p3) mv_X12_375 hc1 rfl (by decide) (Nat.le_of_ble_eq_true rfl) dX12_toBeDone_7 rfl ?_
  rcases sm_if_e h with ⟨hb4, h⟩ | ⟨hb4, h⟩
  · refine sm_if_ne (tgt := 19) (q := 13) dX12_toBeDone_10 (by decide) rfl (fun hn => absurd hb4 hn) (fun _ => ?_)
    refine sm_aload_n (q := 14) dX12_toBeDone_13 rfl rfl 0 rfl ?_
    refine sm_iconst (v := 1) (q := 15) dX12_toBeDone_14 rfl (by decide) ?_
    obtain ⟨p5, hc_p5, h⟩ := sm_bd_e h
    refine sm_callVi (q := 18) (As := [.inl (1 : Int32)]) (S := []) (e_X12_fail hc_p5) mv_X12_283 hc1 rfl (by decide) (Nat.le_of_ble_eq_true rfl) dX12_toBeDone_15 rfl ?_
    obtain rfl := Option.some.inj h
    exact sm_iret dX12_toBeDone_18 rfl
  · refine sm_if_ne (tgt := 19) (q := 13) dX12_toBeDone_10 (by decide) rfl (fun _ => ?_) (fun he => absurd he hb4)
    refine sm_iload_n (q := 20) dX12_toBeDone_19 rfl rfl 2 rfl ?_
    refine sm_i2l (v := (Int32.toInt64 a2)) (q := 21) dX12_toBeDone_20 rfl rfl ?_
    refine sm_lconst (v := 0) (q := 22) dX12_toBeDone_21 rfl (by decide) ?_
    refine sm_ldc2 (q := 25) dX12_toBeDone_22 rfl co_X12_349 ?_
    obtain ⟨p6, hc_p6, h⟩ := sm_bd_e h
    refine sm_callSi (q := 28) (As := [.inr (.inr (Int32.toInt64 a2)), .inr (.inr (0 : Int64)), .inr (.inr (30 : Int64))]) (S := []) (e_X12_isIn hc_p6) ms_X12_155 rfl (by decide) (Nat.le_of_ble_eq_true rfl) dX12_toBeDone_25 rfl ?_
    rcases sm_if_e h with ⟨hb7, h⟩ | ⟨hb7, h⟩
    · refine sm_if_ne (tgt := 37) (q := 31) dX12_toBeDone_28 (by decide) rfl (fun hn => absurd hb7 hn) (fun _ => ?_)
      refine sm_aload_n (q := 32) dX12_toBeDone_31 rfl rfl 0 rfl ?_
      refine sm_iconst (v := 2) (q := 33) dX12_toBeDone_32 rfl (by decide) ?_
      obtain ⟨p8, hc_p8, h⟩ := sm_bd_e h
      refine sm_callVi (q := 36) (As := [.inl (2 : Int32)]) (S := []) (e_X12_fail hc_p8) mv_X12_283 hc1 rfl (by decide) (Nat.le_of_ble_eq_true rfl) dX12_toBeDone_33 rfl ?_
      obtain rfl := Option.some.inj h
      exact sm_iret dX12_toBeDone_36 rfl
    · refine sm_if_ne (tgt := 37) (q := 31) dX12_toBeDone_28 (by decide) rfl (fun _ => ?_) (fun he => absurd he hb7)
      refine sm_aload_n (q := 38) dX12_toBeDone_37 rfl rfl 0 rfl ?_
      refine sm_aload_n (q := 39) dX12_toBeDone_38 rfl rfl 0 rfl ?_
      refine sm_getR (r := R a0 37) (q := 42) dX12_toBeDone_39 rfl fk_X12_98 hc1 (by decide) (by decide) rfl ?_
      refine sm_iconst (v := 0) (q := 43) dX12_toBeDone_42 rfl (by decide) ?_
      obtain ⟨p9, hc_p9, h⟩ := sm_bd_e h
      refine sm_callVv (q := 46) (As := [.inr (.inl (R a0 37)), .inl (0 : Int32)]) (S := []) (e_X12_pack hc_p9) mv_X12_378 hc1 rfl (by decide) (Nat.le_of_ble_eq_true rfl) dX12_toBeDone_43 rfl ?_
      refine sm_iconst (v := -1) (q := 47) dX12_toBeDone_46 rfl (by decide) ?_
      refine sm_istore_n (L' := [(3, .inl (-1 : Int32)), (0, .inr (.inl a0)), (1, .inl a1), (2, .inl a2)]) (q := 48) dX12_toBeDone_47 rfl rfl (by decide) rfl ?_
      refine sm_iconst (v := 1) (q := 49) dX12_toBeDone_48 rfl (by decide) ?_
      refine sm_istore (L' := [(4, .inl (1 : Int32)), (3, .inl (-1 : Int32)), (0, .inr (.inl a0)), (1, .inl a1), (2, .inl a2)]) (q := 51) dX12_toBeDone_49 rfl (by decide) rfl ?_
      refine sm_iconst (v := 0) (q := 52) dX12_toBeDone_51 rfl (by decide) ?_
      refine sm_istore (L' := [(5, .inl (0 : Int32)), (4, .inl (1 : Int32)), (3, .inl (-1 : Int32)), (0, .inr (.inl a0)), (1, .inl a1), (2, .inl a2)]) (q := 54) dX12_toBeDone_52 rfl (by decide) rfl ?_
      refine sm_pick [3, 4, 5, 2, 1, 0] rfl ?_
      exact w_X12_toBeDone_54 N R N _ _ _ _ _ _ _ _ h
theorem e_X12_toBeDone {l : Launch} {N : Nat} {R : Nat → Nat → Nat} {a0 : Nat} {a1 : Int32} {a2 : Int32} {I : (Nat → Nat → Int32)} {y : (Int32 × (Nat → Nat → Int32))} (h : f_X12_toBeDone N R a0 a1 a2 I = some y) : sm_E l 6 mX12_toBeDone [.inr (.inl a0), .inl a1, .inl a2] (I, R) (.inl (some (.inl y.1))) (y.2, R) :=
  sm_meth (by decide) (Nat.le_of_ble_eq_true rfl) (w_X12_toBeDone N R a0 a1 a2 I y h)
def f_X12_toGlove_40 (N : Nat) (R : Nat → Nat → Nat) : Nat → Nat → Int32 → Int32 → Int32 → Int32 → (Nat → Nat → Int32) → Option (Int32 × (Nat → Nat → Int32))
  | 0, _, _, _, _, _, _ => none
  | n + 1, a0, a1, a2, a3, a4, I =>
    if (9 : Int32) < a4 then (
      some (a3, I))
    else (
      if a3 = (-1 : Int32) then (
        sm_gd (sm_kd a0 = (12, 59)) <|
        sm_gd ((sm_kd (R a0 26)).1 = 13 ∧ ¬ (a1 < 0 ∨ (sm_kd (R a0 26)).2 ≤ (a1).toNatClampNeg)) <|
        sm_lt (sm_up I (R a0 26) (sm_up (I (R a0 26)) (a1).toNatClampNeg (sm_mx (0 : Int32) ((I (R a0 26) (a1).toNatClampNeg) - a4)))) fun I5 =>
        (f_X12_aWeek N R a0 I5).bind fun p6 =>
        sm_gd ((sm_kd (R a0 28)).1 = 13 ∧ ¬ (a1 < 0 ∨ (sm_kd (R a0 28)).2 ≤ (a1).toNatClampNeg)) <|
        if (p6.2 (R a0 28) (a1).toNatClampNeg) ≤ a2 then (
          (f_X12_unpack N R a0 (R a0 37) (0 : Int32) p6.2).bind fun p9 =>
          f_X12_toGlove_40 N R n a0 a1 a2 a3 (a4 + 1) p9.2)
        else (
          (f_X12_unpack N R a0 (R a0 37) (0 : Int32) p6.2).bind fun p10 =>
          f_X12_toGlove_40 N R n a0 a1 a2 a4 (a4 + 1) p10.2))
      else (
        some (a3, I)))
def f_X12_toGlove (N : Nat) (R : Nat → Nat → Nat) : Nat → Int32 → (Nat → Nat → Int32) → Option (Int32 × (Nat → Nat → Int32)) := fun a0 a1 I =>
  sm_gd (sm_kd a0 = (12, 59)) <|
  sm_lt (sm_up I a0 (sm_up (I a0) 3 (0 : Int32))) fun I2 =>
  (f_X12_isPupil N R a0 a1 I2).bind fun p3 =>
  if p3.1 = 0 then (
    (f_X12_fail N R a0 (1 : Int32) p3.2).bind fun p5 =>
    some (p5.1, p5.2))
  else (
    (f_X12_pack N R a0 (R a0 37) (0 : Int32) p3.2).bind fun p6 =>
    sm_gd ((sm_kd (R a0 28)).1 = 13 ∧ ¬ (a1 < 0 ∨ (sm_kd (R a0 28)).2 ≤ (a1).toNatClampNeg)) <|
    f_X12_toGlove_40 N R N a0 a1 (p6.2 (R a0 28) (a1).toNatClampNeg) (-1 : Int32) (0 : Int32) p6.2)
set_option maxHeartbeats 4000000 in
set_option maxRecDepth 100000 in
theorem w_X12_toGlove_40 {l : Launch} (N : Nat) (R : Nat → Nat → Nat) : ∀ (n : Nat) (a0 : Nat) (a1 : Int32) (a2 : Int32) (a3 : Int32) (a4 : Int32) (I : (Nat → Nat → Int32)) (y : (Int32 × (Nat → Nat → Int32))), f_X12_toGlove_40 N R n a0 a1 a2 a3 a4 I = some y → sm_W l 5 mX12_toGlove 40 [(0, .inr (.inl a0)), (1, .inl a1), (2, .inl a2), (3, .inl a3), (4, .inl a4)] [] (I, R) (.inl (some (.inl y.1))) (y.2, R) := by
  intro n
  induction n with
  | zero => intro a0 a1 a2 a3 a4 I y h; cases h
  | succ n ih =>
    intro a0 a1 a2 a3 a4 I y h
    rw [f_X12_toGlove_40] at h
    refine sm_iload (q := 42) dX12_toGlove_40 rfl 4 rfl ?_
    refine sm_bipush (v := 9) (q := 44) dX12_toGlove_42 rfl (by decide) ?_
    rcases sm_if_e h with ⟨hb1, h⟩ | ⟨hb1, h⟩
    · refine sm_icmp_gt (tgt := 103) (q := 47) dX12_toGlove_44 (by decide) rfl (fun _ => ?_) (fun hn => absurd hb1 hn)
      refine sm_iload_n (q := 104) dX12_toGlove_103 rfl rfl 3 rfl ?_
      obtain rfl := Option.some.inj h
      exact sm_iret dX12_toGlove_104 rfl
    · refine sm_icmp_gt (tgt := 103) (q := 47) dX12_toGlove_44 (by decide) rfl (fun ht => absurd ht hb1) (fun _ => ?_)
      refine sm_iload_n (q := 48) dX12_toGlove_47 rfl rfl 3 rfl ?_
      refine sm_iconst (v := -1) (q := 49) dX12_toGlove_48 rfl (by decide) ?_
      rcases sm_if_e h with ⟨hb2, h⟩ | ⟨hb2, h⟩
      · refine sm_icmp_ne (tgt := 103) (q := 52) dX12_toGlove_49 (by decide) rfl (fun hn => absurd hb2 hn) (fun _ => ?_)
        refine sm_aload_n (q := 53) dX12_toGlove_52 rfl rfl 0 rfl ?_
        obtain ⟨hc3, h⟩ := sm_gd_e h
        refine sm_getR (r := R a0 26) (q := 56) dX12_toGlove_53 rfl fk_X12_79 hc3 (by decide) (by decide) rfl ?_
        refine sm_iload_n (q := 57) dX12_toGlove_56 rfl rfl 1 rfl ?_
        refine sm_iconst (v := 0) (q := 58) dX12_toGlove_57 rfl (by decide) ?_
        refine sm_aload_n (q := 59) dX12_toGlove_58 rfl rfl 0 rfl ?_
        refine sm_getR (r := R a0 26) (q := 62) dX12_toGlove_59 rfl fk_X12_79 hc3 (by decide) (by decide) rfl ?_
        refine sm_iload_n (q := 63) dX12_toGlove_62 rfl rfl 1 rfl ?_
        obtain ⟨hc4, h⟩ := sm_gd_e h
        refine sm_iald (n := (sm_kd (R a0 26)).2) (q := 64) dX12_toGlove_63 rfl (Prod.ext hc4.1 rfl) hc4.2 ?_
        refine sm_iload (q := 66) dX12_toGlove_64 rfl 4 rfl ?_
        refine sm_isub (q := 67) dX12_toGlove_66 rfl ?_
        refine sm_mmx (q := 70) dX12_toGlove_67 rfl mm_X12_328 (Nat.le_of_ble_eq_true rfl) ?_
        obtain ⟨I5, hI5, h⟩ := sm_lt_e h
        refine sm_iast (n := (sm_kd (R a0 26)).2) (q := 71) dX12_toGlove_70 rfl (Prod.ext hc4.1 rfl) hc4.2 ?_
        refine sm_memI hI5 ?_
        refine sm_aload_n (q := 72) dX12_toGlove_71 rfl rfl 0 rfl ?_
        obtain ⟨p6, hc_p6, h⟩ := sm_bd_e h
        refine sm_callVv (q := 75) (As := []) (S := []) (e_X12_aWeek hc_p6) mv_X12_346 hc3 rfl (by decide) (Nat.le_of_ble_eq_true rfl) dX12_toGlove_72 rfl ?_
        refine sm_aload_n (q := 76) dX12_toGlove_75 rfl rfl 0 rfl ?_
        refine sm_getR (r := R a0 28) (q := 79) dX12_toGlove_76 rfl fk_X12_85 hc3 (by decide) (by decide) rfl ?_
        refine sm_iload_n (q := 80) dX12_toGlove_79 rfl rfl 1 rfl ?_
        obtain ⟨hc7, h⟩ := sm_gd_e h
        refine sm_iald (n := (sm_kd (R a0 28)).2) (q := 81) dX12_toGlove_80 rfl (Prod.ext hc7.1 rfl) hc7.2 ?_
        refine sm_iload_n (q := 82) dX12_toGlove_81 rfl rfl 2 rfl ?_
        rcases sm_if_e h with ⟨hb8, h⟩ | ⟨hb8, h⟩
        · refine sm_icmp_le (tgt := 88) (q := 85) dX12_toGlove_82 (by decide) rfl (fun _ => ?_) (fun hn => absurd hb8 hn)
          refine sm_aload_n (q := 89) dX12_toGlove_88 rfl rfl 0 rfl ?_
          refine sm_aload_n (q := 90) dX12_toGlove_89 rfl rfl 0 rfl ?_
          refine sm_getR (r := R a0 37) (q := 93) dX12_toGlove_90 rfl fk_X12_98 hc3 (by decide) (by decide) rfl ?_
          refine sm_iconst (v := 0) (q := 94) dX12_toGlove_93 rfl (by decide) ?_
          obtain ⟨p9, hc_p9, h⟩ := sm_bd_e h
          refine sm_callVv (q := 97) (As := [.inr (.inl (R a0 37)), .inl (0 : Int32)]) (S := []) (e_X12_unpack hc_p9) mv_X12_400 hc3 rfl (by decide) (Nat.le_of_ble_eq_true rfl) dX12_toGlove_94 rfl ?_
          refine sm_iinc (v := (a4 + 1)) (L' := [(4, .inl (a4 + 1)), (0, .inr (.inl a0)), (1, .inl a1), (2, .inl a2), (3, .inl a3)]) (q := 100) dX12_toGlove_97 rfl 4 rfl rfl (by decide) rfl ?_
          refine sm_goto (q := 40) dX12_toGlove_100 (by decide) ?_
          refine sm_pick [1, 2, 3, 4, 0] rfl ?_
          exact ih _ _ _ _ _ _ _ h
        · refine sm_icmp_le (tgt := 88) (q := 85) dX12_toGlove_82 (by decide) rfl (fun ht => absurd ht hb8) (fun _ => ?_)
          refine sm_iload (q := 87) dX12_toGlove_85 rfl 4 rfl ?_
          refine sm_istore_n (L' := [(3, .inl a4), (0, .inr (.inl a0)), (1, .inl a1), (2, .inl a2), (4, .inl a4)]) (q := 88) dX12_toGlove_87 rfl rfl (by decide) rfl ?_
          refine sm_aload_n (q := 89) dX12_toGlove_88 rfl rfl 1 rfl ?_
          refine sm_aload_n (q := 90) dX12_toGlove_89 rfl rfl 1 rfl ?_
          refine sm_getR (r := R a0 37) (q := 93) dX12_toGlove_90 rfl fk_X12_98 hc3 (by decide) (by decide) rfl ?_
          refine sm_iconst (v := 0) (q := 94) dX12_toGlove_93 rfl (by decide) ?_
          obtain ⟨p10, hc_p10, h⟩ := sm_bd_e h
          refine sm_callVv (q := 97) (As := [.inr (.inl (R a0 37)), .inl (0 : Int32)]) (S := []) (e_X12_unpack hc_p10) mv_X12_400 hc3 rfl (by decide) (Nat.le_of_ble_eq_true rfl) dX12_toGlove_94 rfl ?_
          refine sm_iinc (v := (a4 + 1)) (L' := [(4, .inl (a4 + 1)), (3, .inl a4), (0, .inr (.inl a0)), (1, .inl a1), (2, .inl a2)]) (q := 100) dX12_toGlove_97 rfl 4 rfl rfl (by decide) rfl ?_
          refine sm_goto (q := 40) dX12_toGlove_100 (by decide) ?_
          refine sm_pick [2, 3, 4, 1, 0] rfl ?_
          exact ih _ _ _ _ _ _ _ h
      · refine sm_icmp_ne (tgt := 103) (q := 52) dX12_toGlove_49 (by decide) rfl (fun _ => ?_) (fun he => absurd he hb2)
        refine sm_iload_n (q := 104) dX12_toGlove_103 rfl rfl 3 rfl ?_
        obtain rfl := Option.some.inj h
        exact sm_iret dX12_toGlove_104 rfl
set_option maxHeartbeats 4000000 in
set_option maxRecDepth 100000 in
theorem w_X12_toGlove {l : Launch} (N : Nat) (R : Nat → Nat → Nat) : ∀ (a0 : Nat) (a1 : Int32) (I : (Nat → Nat → Int32)) (y : (Int32 × (Nat → Nat → Int32))), f_X12_toGlove N R a0 a1 I = some y → sm_W l 5 mX12_toGlove 0 [(0, .inr (.inl a0)), (1, .inl a1)] [] (I, R) (.inl (some (.inl y.1))) (y.2, R) := by
  intro a0 a1 I y h
  unfold f_X12_toGlove at h
  refine sm_aload_n (q := 1) dX12_toGlove_0 rfl rfl 0 rfl ?_
  refine sm_iconst (v := 0) (q := 2) dX12_toGlove_1 rfl (by decide) ?_
  obtain ⟨hc1, h⟩ := sm_gd_e h
  obtain ⟨I2, hI2, h⟩ := sm_lt_e h
  refine sm_putI (q := 5) dX12_toGlove_2 rfl fk_X12_152 hc1 (by decide) (by decide) ?_
  refine sm_memI hI2 ?_
  refine sm_aload_n (q := 6) dX12_toGlove_5 rfl rfl 0 rfl ?_
  refine sm_iload_n (q := 7) dX12_toGlove_6 rfl rfl 1 rfl ?_
  obtain ⟨p3, hc_p3, h⟩ := sm_bd_e h
  refine sm_callVi (q := 10) (As := [.inl a1]) (S := []) (e_X12_isPupil hc_p3) mv_X12_375 hc1 rfl (by decide) (Nat.le_of_ble_eq_true rfl) dX12_toGlove_7 rfl ?_
  rcases sm_if_e h with ⟨hb4, h⟩ | ⟨hb4, h⟩
  · refine sm_if_ne (tgt := 19) (q := 13) dX12_toGlove_10 (by decide) rfl (fun hn => absurd hb4 hn) (fun _ => ?_)
    refine sm_aload_n (q := 14) dX12_toGlove_13 rfl rfl 0 rfl ?_
    refine sm_iconst (v := 1) (q := 15) dX12_toGlove_14 rfl (by decide) ?_
    obtain ⟨p5, hc_p5, h⟩ := sm_bd_e h
    refine sm_callVi (q := 18) (As := [.inl (1 : Int32)]) (S := []) (e_X12_fail hc_p5) mv_X12_283 hc1 rfl (by decide) (Nat.le_of_ble_eq_true rfl) dX12_toGlove_15 rfl ?_
    obtain rfl := Option.some.inj h
    exact sm_iret dX12_toGlove_18 rfl
  · refine sm_if_ne (tgt := 19) (q := 13) dX12_toGlove_10 (by decide) rfl (fun _ => ?_) (fun he => absurd he hb4)
    refine sm_aload_n (q := 20) dX12_toGlove_19 rfl rfl 0 rfl ?_
    refine sm_aload_n (q := 21) dX12_toGlove_20 rfl rfl 0 rfl ?_
    refine sm_getR (r := R a0 37) (q := 24) dX12_toGlove_21 rfl fk_X12_98 hc1 (by decide) (by decide) rfl ?_
    refine sm_iconst (v := 0) (q := 25) dX12_toGlove_24 rfl (by decide) ?_
    obtain ⟨p6, hc_p6, h⟩ := sm_bd_e h
    refine sm_callVv (q := 28) (As := [.inr (.inl (R a0 37)), .inl (0 : Int32)]) (S := []) (e_X12_pack hc_p6) mv_X12_378 hc1 rfl (by decide) (Nat.le_of_ble_eq_true rfl) dX12_toGlove_25 rfl ?_
    refine sm_aload_n (q := 29) dX12_toGlove_28 rfl rfl 0 rfl ?_
    refine sm_getR (r := R a0 28) (q := 32) dX12_toGlove_29 rfl fk_X12_85 hc1 (by decide) (by decide) rfl ?_
    refine sm_iload_n (q := 33) dX12_toGlove_32 rfl rfl 1 rfl ?_
    obtain ⟨hc7, h⟩ := sm_gd_e h
    refine sm_iald (n := (sm_kd (R a0 28)).2) (q := 34) dX12_toGlove_33 rfl (Prod.ext hc7.1 rfl) hc7.2 ?_
    refine sm_istore_n (L' := [(2, .inl (p6.2 (R a0 28) (a1).toNatClampNeg)), (0, .inr (.inl a0)), (1, .inl a1)]) (q := 35) dX12_toGlove_34 rfl rfl (by decide) rfl ?_
    refine sm_iconst (v := -1) (q := 36) dX12_toGlove_35 rfl (by decide) ?_
    refine sm_istore_n (L' := [(3, .inl (-1 : Int32)), (2, .inl (p6.2 (R a0 28) (a1).toNatClampNeg)), (0, .inr (.inl a0)), (1, .inl a1)]) (q := 37) dX12_toGlove_36 rfl rfl (by decide) rfl ?_
    refine sm_iconst (v := 0) (q := 38) dX12_toGlove_37 rfl (by decide) ?_
    refine sm_istore (L' := [(4, .inl (0 : Int32)), (3, .inl (-1 : Int32)), (2, .inl (p6.2 (R a0 28) (a1).toNatClampNeg)), (0, .inr (.inl a0)), (1, .inl a1)]) (q := 40) dX12_toGlove_38 rfl (by decide) rfl ?_
    refine sm_pick [3, 4, 2, 1, 0] rfl ?_
    exact w_X12_toGlove_40 N R N _ _ _ _ _ _ _ h
theorem e_X12_toGlove {l : Launch} {N : Nat} {R : Nat → Nat → Nat} {a0 : Nat} {a1 : Int32} {I : (Nat → Nat → Int32)} {y : (Int32 × (Nat → Nat → Int32))} (h : f_X12_toGlove N R a0 a1 I = some y) : sm_E l 5 mX12_toGlove [.inr (.inl a0), .inl a1] (I, R) (.inl (some (.inl y.1))) (y.2, R) :=
  sm_meth (by decide) (Nat.le_of_ble_eq_true rfl) (w_X12_toGlove N R a0 a1 I y h)
def f_X12_fitOf_2 (N : Nat) (R : Nat → Nat → Nat) : Nat → Nat → Int32 → Int32 → Int32 → (Nat → Nat → Int32) → Option (Int32 × (Nat → Nat → Int32))
  | 0, _, _, _, _, _ => none
  | n + 1, a0, a1, a2, a3, I =>
    sm_gd (sm_kd a0 = (12, 59)) <|
    sm_gd ((sm_kd (R a0 6)).1 = 13 ∧ ¬ (a2 < 0 ∨ (sm_kd (R a0 6)).2 ≤ (a2).toNatClampNeg)) <|
    if (I (R a0 6) (a2).toNatClampNeg) ≤ a3 then (
      some (a3, I))
    else (
      (f_X12_hardOf N R a0 a2 a3 I).bind fun p4 =>
      sm_gd ((sm_kd (R a0 25)).1 = 13 ∧ ¬ (a1 < 0 ∨ (sm_kd (R a0 25)).2 ≤ (a1).toNatClampNeg)) <|
      if (p4.2 (R a0 25) (a1).toNatClampNeg) < p4.1 then (
        some (a3, p4.2))
      else (
        f_X12_fitOf_2 N R n a0 a1 a2 (a3 + 1) p4.2))
def f_X12_fitOf (N : Nat) (R : Nat → Nat → Nat) : Nat → Int32 → Int32 → (Nat → Nat → Int32) → Option (Int32 × (Nat → Nat → Int32)) := fun a0 a1 a2 I =>
  f_X12_fitOf_2 N R N a0 a1 a2 (0 : Int32) I
set_option maxHeartbeats 4000000 in
set_option maxRecDepth 100000 in
theorem w_X12_fitOf_2 {l : Launch} (N : Nat) (R : Nat → Nat → Nat) : ∀ (n : Nat) (a0 : Nat) (a1 : Int32) (a2 : Int32) (a3 : Int32) (I : (Nat → Nat → Int32)) (y : (Int32 × (Nat → Nat → Int32))), f_X12_fitOf_2 N R n a0 a1 a2 a3 I = some y → sm_W l 1 mX12_fitOf 2 [(0, .inr (.inl a0)), (1, .inl a1), (2, .inl a2), (3, .inl a3)] [] (I, R) (.inl (some (.inl y.1))) (y.2, R) := by
  intro n
  induction n with
  | zero => intro a0 a1 a2 a3 I y h; cases h
  | succ n ih =>
    intro a0 a1 a2 a3 I y h
    rw [f_X12_fitOf_2] at h
    refine sm_iload_n (q := 3) dX12_fitOf_2 rfl rfl 3 rfl ?_
    refine sm_aload_n (q := 4) dX12_fitOf_3 rfl rfl 0 rfl ?_
    obtain ⟨hc1, h⟩ := sm_gd_e h
    refine sm_getR (r := R a0 6) (q := 7) dX12_fitOf_4 rfl fk_X12_47 hc1 (by decide) (by decide) rfl ?_
    refine sm_iload_n (q := 8) dX12_fitOf_7 rfl rfl 2 rfl ?_
    obtain ⟨hc2, h⟩ := sm_gd_e h
    refine sm_iald (n := (sm_kd (R a0 6)).2) (q := 9) dX12_fitOf_8 rfl (Prod.ext hc2.1 rfl) hc2.2 ?_
    rcases sm_if_e h with ⟨hb3, h⟩ | ⟨hb3, h⟩
    · refine sm_icmp_ge (tgt := 33) (q := 12) dX12_fitOf_9 (by decide) rfl (fun _ => ?_) (fun hn => absurd hb3 hn)
      refine sm_iload_n (q := 34) dX12_fitOf_33 rfl rfl 3 rfl ?_
      obtain rfl := Option.some.inj h
      exact sm_iret dX12_fitOf_34 rfl
    · refine sm_icmp_ge (tgt := 33) (q := 12) dX12_fitOf_9 (by decide) rfl (fun ht => absurd ht hb3) (fun _ => ?_)
      refine sm_aload_n (q := 13) dX12_fitOf_12 rfl rfl 0 rfl ?_
      refine sm_iload_n (q := 14) dX12_fitOf_13 rfl rfl 2 rfl ?_
      refine sm_iload_n (q := 15) dX12_fitOf_14 rfl rfl 3 rfl ?_
      obtain ⟨p4, hc_p4, h⟩ := sm_bd_e h
      refine sm_callVi (q := 18) (As := [.inl a2, .inl a3]) (S := []) (e_X12_hardOf hc_p4) mv_X12_316 hc1 rfl (by decide) (Nat.le_of_ble_eq_true rfl) dX12_fitOf_15 rfl ?_
      refine sm_aload_n (q := 19) dX12_fitOf_18 rfl rfl 0 rfl ?_
      refine sm_getR (r := R a0 25) (q := 22) dX12_fitOf_19 rfl fk_X12_76 hc1 (by decide) (by decide) rfl ?_
      refine sm_iload_n (q := 23) dX12_fitOf_22 rfl rfl 1 rfl ?_
      obtain ⟨hc5, h⟩ := sm_gd_e h
      refine sm_iald (n := (sm_kd (R a0 25)).2) (q := 24) dX12_fitOf_23 rfl (Prod.ext hc5.1 rfl) hc5.2 ?_
      rcases sm_if_e h with ⟨hb6, h⟩ | ⟨hb6, h⟩
      · refine sm_icmp_gt (tgt := 33) (q := 27) dX12_fitOf_24 (by decide) rfl (fun _ => ?_) (fun hn => absurd hb6 hn)
        refine sm_iload_n (q := 34) dX12_fitOf_33 rfl rfl 3 rfl ?_
        obtain rfl := Option.some.inj h
        exact sm_iret dX12_fitOf_34 rfl
      · refine sm_icmp_gt (tgt := 33) (q := 27) dX12_fitOf_24 (by decide) rfl (fun ht => absurd ht hb6) (fun _ => ?_)
        refine sm_iinc (v := (a3 + 1)) (L' := [(3, .inl (a3 + 1)), (0, .inr (.inl a0)), (1, .inl a1), (2, .inl a2)]) (q := 30) dX12_fitOf_27 rfl 3 rfl rfl (by decide) rfl ?_
        refine sm_goto (q := 2) dX12_fitOf_30 (by decide) ?_
        refine sm_pick [1, 2, 3, 0] rfl ?_
        exact ih _ _ _ _ _ _ h
set_option maxHeartbeats 4000000 in
set_option maxRecDepth 100000 in
theorem w_X12_fitOf {l : Launch} (N : Nat) (R : Nat → Nat → Nat) : ∀ (a0 : Nat) (a1 : Int32) (a2 : Int32) (I : (Nat → Nat → Int32)) (y : (Int32 × (Nat → Nat → Int32))), f_X12_fitOf N R a0 a1 a2 I = some y → sm_W l 1 mX12_fitOf 0 [(0, .inr (.inl a0)), (1, .inl a1), (2, .inl a2)] [] (I, R) (.inl (some (.inl y.1))) (y.2, R) := by
  intro a0 a1 a2 I y h
  unfold f_X12_fitOf at h
  refine sm_iconst (v := 0) (q := 1) dX12_fitOf_0 rfl (by decide) ?_
  refine sm_istore_n (L' := [(3, .inl (0 : Int32)), (0, .inr (.inl a0)), (1, .inl a1), (2, .inl a2)]) (q := 2) dX12_fitOf_1 rfl rfl (by decide) rfl ?_
  refine sm_pick [1, 2, 3, 0] rfl ?_
  exact w_X12_fitOf_2 N R N _ _ _ _ _ _ h
theorem e_X12_fitOf {l : Launch} {N : Nat} {R : Nat → Nat → Nat} {a0 : Nat} {a1 : Int32} {a2 : Int32} {I : (Nat → Nat → Int32)} {y : (Int32 × (Nat → Nat → Int32))} (h : f_X12_fitOf N R a0 a1 a2 I = some y) : sm_E l 1 mX12_fitOf [.inr (.inl a0), .inl a1, .inl a2] (I, R) (.inl (some (.inl y.1))) (y.2, R) :=
  sm_meth (by decide) (Nat.le_of_ble_eq_true rfl) (w_X12_fitOf N R a0 a1 a2 I y h)
def f_X12_fits (N : Nat) (R : Nat → Nat → Nat) : Nat → Int32 → Int32 → (Nat → Nat → Int32) → Option (Int32 × (Nat → Nat → Int32)) := fun a0 a1 a2 I =>
  sm_gd (sm_kd a0 = (12, 59)) <|
  sm_lt (sm_up I a0 (sm_up (I a0) 3 (0 : Int32))) fun I2 =>
  (f_X12_isPupil N R a0 a1 I2).bind fun p3 =>
  if p3.1 = 0 then (
    (f_X12_fail N R a0 (1 : Int32) p3.2).bind fun p5 =>
    some (p5.1, p5.2))
  else (
    (f_X12_isPiece N R a0 a2 p3.2).bind fun p6 =>
    if p6.1 = 0 then (
      (f_X12_fail N R a0 (1 : Int32) p6.2).bind fun p8 =>
      some (p8.1, p8.2))
    else (
      (f_X12_fitOf N R a0 a1 a2 p6.2).bind fun p9 =>
      some (p9.1, p9.2)))
set_option maxHeartbeats 4000000 in
set_option maxRecDepth 100000 in
theorem w_X12_fits {l : Launch} (N : Nat) (R : Nat → Nat → Nat) : ∀ (a0 : Nat) (a1 : Int32) (a2 : Int32) (I : (Nat → Nat → Int32)) (y : (Int32 × (Nat → Nat → Int32))), f_X12_fits N R a0 a1 a2 I = some y → sm_W l 2 mX12_fits 0 [(0, .inr (.inl a0)), (1, .inl a1), (2, .inl a2)] [] (I, R) (.inl (some (.inl y.1))) (y.2, R) := by
  intro a0 a1 a2 I y h
  unfold f_X12_fits at h
  refine sm_aload_n (q := 1) dX12_fits_0 rfl rfl 0 rfl ?_
  refine sm_iconst (v := 0) (q := 2) dX12_fits_1 rfl (by decide) ?_
  obtain ⟨hc1, h⟩ := sm_gd_e h
  obtain ⟨I2, hI2, h⟩ := sm_lt_e h
  refine sm_putI (q := 5) dX12_fits_2 rfl fk_X12_152 hc1 (by decide) (by decide) ?_
  refine sm_memI hI2 ?_
  refine sm_aload_n (q := 6) dX12_fits_5 rfl rfl 0 rfl ?_
  refine sm_iload_n (q := 7) dX12_fits_6 rfl rfl 1 rfl ?_
  obtain ⟨p3, hc_p3, h⟩ := sm_bd_e h
  refine sm_callVi (q := 10) (As := [.inl a1]) (S := []) (e_X12_isPupil hc_p3) mv_X12_375 hc1 rfl (by decide) (Nat.le_of_ble_eq_true rfl) dX12_fits_7 rfl ?_
  rcases sm_if_e h with ⟨hb4, h⟩ | ⟨hb4, h⟩
  · refine sm_if_eq (tgt := 30) (q := 13) dX12_fits_10 (by decide) rfl (fun _ => ?_) (fun hn => absurd hb4 hn)
    refine sm_aload_n (q := 31) dX12_fits_30 rfl rfl 0 rfl ?_
    refine sm_iconst (v := 1) (q := 32) dX12_fits_31 rfl (by decide) ?_
    obtain ⟨p5, hc_p5, h⟩ := sm_bd_e h
    refine sm_callVi (q := 35) (As := [.inl (1 : Int32)]) (S := []) (e_X12_fail hc_p5) mv_X12_283 hc1 rfl (by decide) (Nat.le_of_ble_eq_true rfl) dX12_fits_32 rfl ?_
    obtain rfl := Option.some.inj h
    exact sm_iret dX12_fits_35 rfl
  · refine sm_if_eq (tgt := 30) (q := 13) dX12_fits_10 (by decide) rfl (fun ht => absurd ht hb4) (fun _ => ?_)
    refine sm_aload_n (q := 14) dX12_fits_13 rfl rfl 0 rfl ?_
    refine sm_iload_n (q := 15) dX12_fits_14 rfl rfl 2 rfl ?_
    obtain ⟨p6, hc_p6, h⟩ := sm_bd_e h
    refine sm_callVi (q := 18) (As := [.inl a2]) (S := []) (e_X12_isPiece hc_p6) mv_X12_367 hc1 rfl (by decide) (Nat.le_of_ble_eq_true rfl) dX12_fits_15 rfl ?_
    rcases sm_if_e h with ⟨hb7, h⟩ | ⟨hb7, h⟩
    · refine sm_if_eq (tgt := 30) (q := 21) dX12_fits_18 (by decide) rfl (fun _ => ?_) (fun hn => absurd hb7 hn)
      refine sm_aload_n (q := 31) dX12_fits_30 rfl rfl 0 rfl ?_
      refine sm_iconst (v := 1) (q := 32) dX12_fits_31 rfl (by decide) ?_
      obtain ⟨p8, hc_p8, h⟩ := sm_bd_e h
      refine sm_callVi (q := 35) (As := [.inl (1 : Int32)]) (S := []) (e_X12_fail hc_p8) mv_X12_283 hc1 rfl (by decide) (Nat.le_of_ble_eq_true rfl) dX12_fits_32 rfl ?_
      obtain rfl := Option.some.inj h
      exact sm_iret dX12_fits_35 rfl
    · refine sm_if_eq (tgt := 30) (q := 21) dX12_fits_18 (by decide) rfl (fun ht => absurd ht hb7) (fun _ => ?_)
      refine sm_aload_n (q := 22) dX12_fits_21 rfl rfl 0 rfl ?_
      refine sm_iload_n (q := 23) dX12_fits_22 rfl rfl 1 rfl ?_
      refine sm_iload_n (q := 24) dX12_fits_23 rfl rfl 2 rfl ?_
      obtain ⟨p9, hc_p9, h⟩ := sm_bd_e h
      refine sm_callVi (q := 27) (As := [.inl a1, .inl a2]) (S := []) (e_X12_fitOf hc_p9) mv_X12_414 hc1 rfl (by decide) (Nat.le_of_ble_eq_true rfl) dX12_fits_24 rfl ?_
      refine sm_goto (q := 35) dX12_fits_27 (by decide) ?_
      obtain rfl := Option.some.inj h
      exact sm_iret dX12_fits_35 rfl
theorem e_X12_fits {l : Launch} {N : Nat} {R : Nat → Nat → Nat} {a0 : Nat} {a1 : Int32} {a2 : Int32} {I : (Nat → Nat → Int32)} {y : (Int32 × (Nat → Nat → Int32))} (h : f_X12_fits N R a0 a1 a2 I = some y) : sm_E l 2 mX12_fits [.inr (.inl a0), .inl a1, .inl a2] (I, R) (.inl (some (.inl y.1))) (y.2, R) :=
  sm_meth (by decide) (Nat.le_of_ble_eq_true rfl) (w_X12_fits N R a0 a1 a2 I y h)
def f_X12_repertoire_23 (N : Nat) (R : Nat → Nat → Nat) : Nat → Nat → Int32 → Int32 → Int32 → (Nat → Nat → Int32) → Option (Int32 × (Nat → Nat → Int32))
  | 0, _, _, _, _, _ => none
  | n + 1, a0, a1, a2, a3, I =>
    sm_gd (sm_kd a0 = (12, 59)) <|
    sm_gd ((sm_kd (R a0 4)).1 = 13 ∧ ¬ ((0 : Int32) < 0 ∨ (sm_kd (R a0 4)).2 ≤ ((0 : Int32)).toNatClampNeg)) <|
    if (I (R a0 4) ((0 : Int32)).toNatClampNeg) ≤ a3 then (
      some (a2, I))
    else (
      (f_X12_fitOf N R a0 a1 a3 I).bind fun p4 =>
      sm_gd ((sm_kd (R a0 6)).1 = 13 ∧ ¬ (a3 < 0 ∨ (sm_kd (R a0 6)).2 ≤ (a3).toNatClampNeg)) <|
      if p4.1 = (p4.2 (R a0 6) (a3).toNatClampNeg) then (
        f_X12_repertoire_23 N R n a0 a1 (a2 ||| ((1 : Int32) <<< (a3 &&& 31))) (a3 + 1) p4.2)
      else (
        f_X12_repertoire_23 N R n a0 a1 (a2 ||| (0 : Int32)) (a3 + 1) p4.2))
def f_X12_repertoire (N : Nat) (R : Nat → Nat → Nat) : Nat → Int32 → (Nat → Nat → Int32) → Option (Int32 × (Nat → Nat → Int32)) := fun a0 a1 I =>
  sm_gd (sm_kd a0 = (12, 59)) <|
  sm_lt (sm_up I a0 (sm_up (I a0) 3 (0 : Int32))) fun I2 =>
  (f_X12_isPupil N R a0 a1 I2).bind fun p3 =>
  if p3.1 = 0 then (
    (f_X12_fail N R a0 (1 : Int32) p3.2).bind fun p5 =>
    some (p5.1, p5.2))
  else (
    f_X12_repertoire_23 N R N a0 a1 (0 : Int32) (0 : Int32) p3.2)
set_option maxHeartbeats 4000000 in
set_option maxRecDepth 100000 in
theorem w_X12_repertoire_23 {l : Launch} (N : Nat) (R : Nat → Nat → Nat) : ∀ (n : Nat) (a0 : Nat) (a1 : Int32) (a2 : Int32) (a3 : Int32) (I : (Nat → Nat → Int32)) (y : (Int32 × (Nat → Nat → Int32))), f_X12_repertoire_23 N R n a0 a1 a2 a3 I = some y → sm_W l 2 mX12_repertoire 23 [(0, .inr (.inl a0)), (1, .inl a1), (2, .inl a2), (3, .inl a3)] [] (I, R) (.inl (some (.inl y.1))) (y.2, R) := by
  intro n
  induction n with
  | zero => intro a0 a1 a2 a3 I y h; cases h
  | succ n ih =>
    intro a0 a1 a2 a3 I y h
    rw [f_X12_repertoire_23] at h
    refine sm_iload_n (q := 24) dX12_repertoire_23 rfl rfl 3 rfl ?_
    refine sm_aload_n (q := 25) dX12_repertoire_24 rfl rfl 0 rfl ?_
    obtain ⟨hc1, h⟩ := sm_gd_e h
    refine sm_getR (r := R a0 4) (q := 28) dX12_repertoire_25 rfl fk_X12_41 hc1 (by decide) (by decide) rfl ?_
    refine sm_iconst (v := 0) (q := 29) dX12_repertoire_28 rfl (by decide) ?_
    obtain ⟨hc2, h⟩ := sm_gd_e h
    refine sm_iald (n := (sm_kd (R a0 4)).2) (q := 30) dX12_repertoire_29 rfl (Prod.ext hc2.1 rfl) hc2.2 ?_
    rcases sm_if_e h with ⟨hb3, h⟩ | ⟨hb3, h⟩
    · refine sm_icmp_ge (tgt := 64) (q := 33) dX12_repertoire_30 (by decide) rfl (fun _ => ?_) (fun hn => absurd hb3 hn)
      refine sm_iload_n (q := 65) dX12_repertoire_64 rfl rfl 2 rfl ?_
      obtain rfl := Option.some.inj h
      exact sm_iret dX12_repertoire_65 rfl
    · refine sm_icmp_ge (tgt := 64) (q := 33) dX12_repertoire_30 (by decide) rfl (fun ht => absurd ht hb3) (fun _ => ?_)
      refine sm_iload_n (q := 34) dX12_repertoire_33 rfl rfl 2 rfl ?_
      refine sm_aload_n (q := 35) dX12_repertoire_34 rfl rfl 0 rfl ?_
      refine sm_iload_n (q := 36) dX12_repertoire_35 rfl rfl 1 rfl ?_
      refine sm_iload_n (q := 37) dX12_repertoire_36 rfl rfl 3 rfl ?_
      obtain ⟨p4, hc_p4, h⟩ := sm_bd_e h
      refine sm_callVi (q := 40) (As := [.inl a1, .inl a3]) (S := [.inl a2]) (e_X12_fitOf hc_p4) mv_X12_414 hc1 rfl (by decide) (Nat.le_of_ble_eq_true rfl) dX12_repertoire_37 rfl ?_
      refine sm_aload_n (q := 41) dX12_repertoire_40 rfl rfl 0 rfl ?_
      refine sm_getR (r := R a0 6) (q := 44) dX12_repertoire_41 rfl fk_X12_47 hc1 (by decide) (by decide) rfl ?_
      refine sm_iload_n (q := 45) dX12_repertoire_44 rfl rfl 3 rfl ?_
      obtain ⟨hc5, h⟩ := sm_gd_e h
      refine sm_iald (n := (sm_kd (R a0 6)).2) (q := 46) dX12_repertoire_45 rfl (Prod.ext hc5.1 rfl) hc5.2 ?_
      rcases sm_if_e h with ⟨hb6, h⟩ | ⟨hb6, h⟩
      · refine sm_icmp_ne (tgt := 55) (q := 49) dX12_repertoire_46 (by decide) rfl (fun hn => absurd hb6 hn) (fun _ => ?_)
        refine sm_iconst (v := 1) (q := 50) dX12_repertoire_49 rfl (by decide) ?_
        refine sm_iload_n (q := 51) dX12_repertoire_50 rfl rfl 3 rfl ?_
        refine sm_ishl (q := 52) dX12_repertoire_51 rfl ?_
        refine sm_goto (q := 56) dX12_repertoire_52 (by decide) ?_
        refine sm_ior (q := 57) dX12_repertoire_56 rfl ?_
        refine sm_istore_n (L' := [(2, .inl (a2 ||| ((1 : Int32) <<< (a3 &&& 31)))), (0, .inr (.inl a0)), (1, .inl a1), (3, .inl a3)]) (q := 58) dX12_repertoire_57 rfl rfl (by decide) rfl ?_
        refine sm_iinc (v := (a3 + 1)) (L' := [(3, .inl (a3 + 1)), (2, .inl (a2 ||| ((1 : Int32) <<< (a3 &&& 31)))), (0, .inr (.inl a0)), (1, .inl a1)]) (q := 61) dX12_repertoire_58 rfl 3 rfl rfl (by decide) rfl ?_
        refine sm_goto (q := 23) dX12_repertoire_61 (by decide) ?_
        refine sm_pick [2, 3, 1, 0] rfl ?_
        exact ih _ _ _ _ _ _ h
      · refine sm_icmp_ne (tgt := 55) (q := 49) dX12_repertoire_46 (by decide) rfl (fun _ => ?_) (fun he => absurd he hb6)
        refine sm_iconst (v := 0) (q := 56) dX12_repertoire_55 rfl (by decide) ?_
        refine sm_ior (q := 57) dX12_repertoire_56 rfl ?_
        refine sm_istore_n (L' := [(2, .inl (a2 ||| (0 : Int32))), (0, .inr (.inl a0)), (1, .inl a1), (3, .inl a3)]) (q := 58) dX12_repertoire_57 rfl rfl (by decide) rfl ?_
        refine sm_iinc (v := (a3 + 1)) (L' := [(3, .inl (a3 + 1)), (2, .inl (a2 ||| (0 : Int32))), (0, .inr (.inl a0)), (1, .inl a1)]) (q := 61) dX12_repertoire_58 rfl 3 rfl rfl (by decide) rfl ?_
        refine sm_goto (q := 23) dX12_repertoire_61 (by decide) ?_
        refine sm_pick [2, 3, 1, 0] rfl ?_
        exact ih _ _ _ _ _ _ h
set_option maxHeartbeats 4000000 in
set_option maxRecDepth 100000 in
theorem w_X12_repertoire {l : Launch} (N : Nat) (R : Nat → Nat → Nat) : ∀ (a0 : Nat) (a1 : Int32) (I : (Nat → Nat → Int32)) (y : (Int32 × (Nat → Nat → Int32))), f_X12_repertoire N R a0 a1 I = some y → sm_W l 2 mX12_repertoire 0 [(0, .inr (.inl a0)), (1, .inl a1)] [] (I, R) (.inl (some (.inl y.1))) (y.2, R) := by
  intro a0 a1 I y h
  unfold f_X12_repertoire at h
  refine sm_aload_n (q := 1) dX12_repertoire_0 rfl rfl 0 rfl ?_
  refine sm_iconst (v := 0) (q := 2) dX12_repertoire_1 rfl (by decide) ?_
  obtain ⟨hc1, h⟩ := sm_gd_e h
  obtain ⟨I2, hI2, h⟩ := sm_lt_e h
  refine sm_putI (q := 5) dX12_repertoire_2 rfl fk_X12_152 hc1 (by decide) (by decide) ?_
  refine sm_memI hI2 ?_
  refine sm_aload_n (q := 6) dX12_repertoire_5 rfl rfl 0 rfl ?_
  refine sm_iload_n (q := 7) dX12_repertoire_6 rfl rfl 1 rfl ?_
  obtain ⟨p3, hc_p3, h⟩ := sm_bd_e h
  refine sm_callVi (q := 10) (As := [.inl a1]) (S := []) (e_X12_isPupil hc_p3) mv_X12_375 hc1 rfl (by decide) (Nat.le_of_ble_eq_true rfl) dX12_repertoire_7 rfl ?_
  rcases sm_if_e h with ⟨hb4, h⟩ | ⟨hb4, h⟩
  · refine sm_if_ne (tgt := 19) (q := 13) dX12_repertoire_10 (by decide) rfl (fun hn => absurd hb4 hn) (fun _ => ?_)
    refine sm_aload_n (q := 14) dX12_repertoire_13 rfl rfl 0 rfl ?_
    refine sm_iconst (v := 1) (q := 15) dX12_repertoire_14 rfl (by decide) ?_
    obtain ⟨p5, hc_p5, h⟩ := sm_bd_e h
    refine sm_callVi (q := 18) (As := [.inl (1 : Int32)]) (S := []) (e_X12_fail hc_p5) mv_X12_283 hc1 rfl (by decide) (Nat.le_of_ble_eq_true rfl) dX12_repertoire_15 rfl ?_
    obtain rfl := Option.some.inj h
    exact sm_iret dX12_repertoire_18 rfl
  · refine sm_if_ne (tgt := 19) (q := 13) dX12_repertoire_10 (by decide) rfl (fun _ => ?_) (fun he => absurd he hb4)
    refine sm_iconst (v := 0) (q := 20) dX12_repertoire_19 rfl (by decide) ?_
    refine sm_istore_n (L' := [(2, .inl (0 : Int32)), (0, .inr (.inl a0)), (1, .inl a1)]) (q := 21) dX12_repertoire_20 rfl rfl (by decide) rfl ?_
    refine sm_iconst (v := 0) (q := 22) dX12_repertoire_21 rfl (by decide) ?_
    refine sm_istore_n (L' := [(3, .inl (0 : Int32)), (2, .inl (0 : Int32)), (0, .inr (.inl a0)), (1, .inl a1)]) (q := 23) dX12_repertoire_22 rfl rfl (by decide) rfl ?_
    refine sm_pick [2, 3, 1, 0] rfl ?_
    exact w_X12_repertoire_23 N R N _ _ _ _ _ _ h
theorem e_X12_repertoire {l : Launch} {N : Nat} {R : Nat → Nat → Nat} {a0 : Nat} {a1 : Int32} {I : (Nat → Nat → Int32)} {y : (Int32 × (Nat → Nat → Int32))} (h : f_X12_repertoire N R a0 a1 I = some y) : sm_E l 2 mX12_repertoire [.inr (.inl a0), .inl a1] (I, R) (.inl (some (.inl y.1))) (y.2, R) :=
  sm_meth (by decide) (Nat.le_of_ble_eq_true rfl) (w_X12_repertoire N R a0 a1 I y h)
