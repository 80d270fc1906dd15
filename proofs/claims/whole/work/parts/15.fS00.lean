def f_X7_barsOf (N : Nat) (R : Nat → Nat → Nat) : Nat → Int32 → (Nat → Nat → Int32) → Option (Int32 × (Nat → Nat → Int32)) := fun a0 a1 I =>
  if a1 < 0 then (
    some ((0 : Int32), I))
  else (
    sm_gd (sm_kd a0 = (7, 9)) <|
    if a1 < (I a0 3) then (
      sm_gd ((sm_kd (R a0 0)).1 = 13 ∧ ¬ (a1 < 0 ∨ (sm_kd (R a0 0)).2 ≤ (a1).toNatClampNeg)) <|
      some ((I (R a0 0) (a1).toNatClampNeg), I))
    else (
      some ((0 : Int32), I)))
set_option maxHeartbeats 4000000 in
set_option maxRecDepth 100000 in
theorem w_X7_barsOf {l : Launch} (N : Nat) (R : Nat → Nat → Nat) : ∀ (a0 : Nat) (a1 : Int32) (I : (Nat → Nat → Int32)) (y : (Int32 × (Nat → Nat → Int32))), f_X7_barsOf N R a0 a1 I = some y → sm_W l 0 mX7_barsOf 0 [(0, .inr (.inl a0)), (1, .inl a1)] [] (I, R) (.inl (some (.inl y.1))) (y.2, R) := by
  intro a0 a1 I y h
  unfold f_X7_barsOf at h
  refine sm_iload_n (q := 1) dX7_barsOf_0 rfl rfl 1 rfl ?_
  rcases sm_if_e h with ⟨hb1, h⟩ | ⟨hb1, h⟩
  · refine sm_if_lt (tgt := 12) (q := 4) dX7_barsOf_1 (by decide) rfl (fun _ => ?_) (fun hn => absurd hb1 hn)
    refine sm_iconst (v := 0) (q := 13) dX7_barsOf_12 rfl (by decide) ?_
    refine sm_goto (q := 22) dX7_barsOf_13 (by decide) ?_
    obtain rfl := Option.some.inj h
    exact sm_iret dX7_barsOf_22 rfl
  · refine sm_if_lt (tgt := 12) (q := 4) dX7_barsOf_1 (by decide) rfl (fun ht => absurd ht hb1) (fun _ => ?_)
    refine sm_iload_n (q := 5) dX7_barsOf_4 rfl rfl 1 rfl ?_
    refine sm_aload_n (q := 6) dX7_barsOf_5 rfl rfl 0 rfl ?_
    obtain ⟨hc2, h⟩ := sm_gd_e h
    refine sm_getI (q := 9) dX7_barsOf_6 rfl fk_X7_44 hc2 (by decide) (by decide) ?_
    rcases sm_if_e h with ⟨hb3, h⟩ | ⟨hb3, h⟩
    · refine sm_icmp_lt (tgt := 16) (q := 12) dX7_barsOf_9 (by decide) rfl (fun _ => ?_) (fun hn => absurd hb3 hn)
      refine sm_aload_n (q := 17) dX7_barsOf_16 rfl rfl 0 rfl ?_
      refine sm_getR (r := R a0 0) (q := 20) dX7_barsOf_17 rfl fk_X7_9 hc2 (by decide) (by decide) rfl ?_
      refine sm_iload_n (q := 21) dX7_barsOf_20 rfl rfl 1 rfl ?_
      obtain ⟨hc4, h⟩ := sm_gd_e h
      refine sm_iald (n := (sm_kd (R a0 0)).2) (q := 22) dX7_barsOf_21 rfl (Prod.ext hc4.1 rfl) hc4.2 ?_
      obtain rfl := Option.some.inj h
      exact sm_iret dX7_barsOf_22 rfl
    · refine sm_icmp_lt (tgt := 16) (q := 12) dX7_barsOf_9 (by decide) rfl (fun ht => absurd ht hb3) (fun _ => ?_)
      refine sm_iconst (v := 0) (q := 13) dX7_barsOf_12 rfl (by decide) ?_
      refine sm_goto (q := 22) dX7_barsOf_13 (by decide) ?_
      obtain rfl := Option.some.inj h
      exact sm_iret dX7_barsOf_22 rfl
theorem e_X7_barsOf {l : Launch} {N : Nat} {R : Nat → Nat → Nat} {a0 : Nat} {a1 : Int32} {I : (Nat → Nat → Int32)} {y : (Int32 × (Nat → Nat → Int32))} (h : f_X7_barsOf N R a0 a1 I = some y) : sm_E l 0 mX7_barsOf [.inr (.inl a0), .inl a1] (I, R) (.inl (some (.inl y.1))) (y.2, R) :=
  sm_meth (by decide) (Nat.le_of_ble_eq_true rfl) (w_X7_barsOf N R a0 a1 I y h)
def f_X7_hardOf (N : Nat) (R : Nat → Nat → Nat) : Nat → Int32 → Int32 → (Nat → Nat → Int32) → Option (Int32 × (Nat → Nat → Int32)) := fun a0 a1 a2 I =>
  if a1 < 0 then (
    some ((0 : Int32), I))
  else (
    sm_gd (sm_kd a0 = (7, 9)) <|
    if (I a0 3) ≤ a1 then (
      some ((0 : Int32), I))
    else (
      if a2 < 0 then (
        some ((0 : Int32), I))
      else (
        sm_gd ((sm_kd (R a0 0)).1 = 13 ∧ ¬ (a1 < 0 ∨ (sm_kd (R a0 0)).2 ≤ (a1).toNatClampNeg)) <|
        if a2 < (I (R a0 0) (a1).toNatClampNeg) then (
          sm_gd ((sm_kd (R a0 2)).1 = 13 ∧ ¬ (((a1 * (8 : Int32)) + a2) < 0 ∨ (sm_kd (R a0 2)).2 ≤ (((a1 * (8 : Int32)) + a2)).toNatClampNeg)) <|
          some ((I (R a0 2) (((a1 * (8 : Int32)) + a2)).toNatClampNeg), I))
        else (
          some ((0 : Int32), I)))))
set_option maxHeartbeats 4000000 in
set_option maxRecDepth 100000 in
theorem w_X7_hardOf {l : Launch} (N : Nat) (R : Nat → Nat → Nat) : ∀ (a0 : Nat) (a1 : Int32) (a2 : Int32) (I : (Nat → Nat → Int32)) (y : (Int32 × (Nat → Nat → Int32))), f_X7_hardOf N R a0 a1 a2 I = some y → sm_W l 0 mX7_hardOf 0 [(0, .inr (.inl a0)), (1, .inl a1), (2, .inl a2)] [] (I, R) (.inl (some (.inl y.1))) (y.2, R) := by
  intro a0 a1 a2 I y h
  unfold f_X7_hardOf at h
  refine sm_iload_n (q := 1) dX7_hardOf_0 rfl rfl 1 rfl ?_
  rcases sm_if_e h with ⟨hb1, h⟩ | ⟨hb1, h⟩
  · refine sm_if_lt (tgt := 26) (q := 4) dX7_hardOf_1 (by decide) rfl (fun _ => ?_) (fun hn => absurd hb1 hn)
    refine sm_iconst (v := 0) (q := 27) dX7_hardOf_26 rfl (by decide) ?_
    obtain rfl := Option.some.inj h
    exact sm_iret dX7_hardOf_27 rfl
  · refine sm_if_lt (tgt := 26) (q := 4) dX7_hardOf_1 (by decide) rfl (fun ht => absurd ht hb1) (fun _ => ?_)
    refine sm_iload_n (q := 5) dX7_hardOf_4 rfl rfl 1 rfl ?_
    refine sm_aload_n (q := 6) dX7_hardOf_5 rfl rfl 0 rfl ?_
    obtain ⟨hc2, h⟩ := sm_gd_e h
    refine sm_getI (q := 9) dX7_hardOf_6 rfl fk_X7_44 hc2 (by decide) (by decide) ?_
    rcases sm_if_e h with ⟨hb3, h⟩ | ⟨hb3, h⟩
    · refine sm_icmp_ge (tgt := 26) (q := 12) dX7_hardOf_9 (by decide) rfl (fun _ => ?_) (fun hn => absurd hb3 hn)
      refine sm_iconst (v := 0) (q := 27) dX7_hardOf_26 rfl (by decide) ?_
      obtain rfl := Option.some.inj h
      exact sm_iret dX7_hardOf_27 rfl
    · refine sm_icmp_ge (tgt := 26) (q := 12) dX7_hardOf_9 (by decide) rfl (fun ht => absurd ht hb3) (fun _ => ?_)
      refine sm_iload_n (q := 13) dX7_hardOf_12 rfl rfl 2 rfl ?_
      rcases sm_if_e h with ⟨hb4, h⟩ | ⟨hb4, h⟩
      · refine sm_if_lt (tgt := 26) (q := 16) dX7_hardOf_13 (by decide) rfl (fun _ => ?_) (fun hn => absurd hb4 hn)
        refine sm_iconst (v := 0) (q := 27) dX7_hardOf_26 rfl (by decide) ?_
        obtain rfl := Option.some.inj h
        exact sm_iret dX7_hardOf_27 rfl
      · refine sm_if_lt (tgt := 26) (q := 16) dX7_hardOf_13 (by decide) rfl (fun ht => absurd ht hb4) (fun _ => ?_)
        refine sm_iload_n (q := 17) dX7_hardOf_16 rfl rfl 2 rfl ?_
        refine sm_aload_n (q := 18) dX7_hardOf_17 rfl rfl 0 rfl ?_
        refine sm_getR (r := R a0 0) (q := 21) dX7_hardOf_18 rfl fk_X7_9 hc2 (by decide) (by decide) rfl ?_
        refine sm_iload_n (q := 22) dX7_hardOf_21 rfl rfl 1 rfl ?_
        obtain ⟨hc5, h⟩ := sm_gd_e h
        refine sm_iald (n := (sm_kd (R a0 0)).2) (q := 23) dX7_hardOf_22 rfl (Prod.ext hc5.1 rfl) hc5.2 ?_
        rcases sm_if_e h with ⟨hb6, h⟩ | ⟨hb6, h⟩
        · refine sm_icmp_lt (tgt := 28) (q := 26) dX7_hardOf_23 (by decide) rfl (fun _ => ?_) (fun hn => absurd hb6 hn)
          refine sm_aload_n (q := 29) dX7_hardOf_28 rfl rfl 0 rfl ?_
          refine sm_getR (r := R a0 2) (q := 32) dX7_hardOf_29 rfl fk_X7_18 hc2 (by decide) (by decide) rfl ?_
          refine sm_iload_n (q := 33) dX7_hardOf_32 rfl rfl 1 rfl ?_
          refine sm_bipush (v := 8) (q := 35) dX7_hardOf_33 rfl (by decide) ?_
          refine sm_imul (q := 36) dX7_hardOf_35 rfl ?_
          refine sm_iload_n (q := 37) dX7_hardOf_36 rfl rfl 2 rfl ?_
          refine sm_iadd (q := 38) dX7_hardOf_37 rfl ?_
          obtain ⟨hc7, h⟩ := sm_gd_e h
          refine sm_iald (n := (sm_kd (R a0 2)).2) (q := 39) dX7_hardOf_38 rfl (Prod.ext hc7.1 rfl) hc7.2 ?_
          obtain rfl := Option.some.inj h
          exact sm_iret dX7_hardOf_39 rfl
        · refine sm_icmp_lt (tgt := 28) (q := 26) dX7_hardOf_23 (by decide) rfl (fun ht => absurd ht hb6) (fun _ => ?_)
          refine sm_iconst (v := 0) (q := 27) dX7_hardOf_26 rfl (by decide) ?_
          obtain rfl := Option.some.inj h
          exact sm_iret dX7_hardOf_27 rfl
theorem e_X7_hardOf {l : Launch} {N : Nat} {R : Nat → Nat → Nat} {a0 : Nat} {a1 : Int32} {a2 : Int32} {I : (Nat → Nat → Int32)} {y : (Int32 × (Nat → Nat → Int32))} (h : f_X7_hardOf N R a0 a1 a2 I = some y) : sm_E l 0 mX7_hardOf [.inr (.inl a0), .inl a1, .inl a2] (I, R) (.inl (some (.inl y.1))) (y.2, R) :=
  sm_meth (by decide) (Nat.le_of_ble_eq_true rfl) (w_X7_hardOf N R a0 a1 a2 I y h)
def f_X7_barsThatFit_2 (N : Nat) (R : Nat → Nat → Nat) : Nat → Nat → Int32 → Int32 → Int32 → (Nat → Nat → Int32) → Option (Int32 × (Nat → Nat → Int32))
  | 0, _, _, _, _, _ => none
  | n + 1, a0, a1, a2, a3, I =>
    sm_gd (sm_kd a0 = (7, 9)) <|
    (f_X7_barsOf N R a0 a2 I).bind fun p2 =>
    if p2.1 ≤ a3 then (
      some (a3, p2.2))
    else (
      (f_X7_hardOf N R a0 a2 a3 p2.2).bind fun p4 =>
      if a1 < p4.1 then (
        some (a3, p4.2))
      else (
        f_X7_barsThatFit_2 N R n a0 a1 a2 (a3 + 1) p4.2))
def f_X7_barsThatFit (N : Nat) (R : Nat → Nat → Nat) : Nat → Int32 → Int32 → (Nat → Nat → Int32) → Option (Int32 × (Nat → Nat → Int32)) := fun a0 a1 a2 I =>
  f_X7_barsThatFit_2 N R N a0 a1 a2 (0 : Int32) I
set_option maxHeartbeats 4000000 in
set_option maxRecDepth 100000 in
theorem w_X7_barsThatFit_2 {l : Launch} (N : Nat) (R : Nat → Nat → Nat) : ∀ (n : Nat) (a0 : Nat) (a1 : Int32) (a2 : Int32) (a3 : Int32) (I : (Nat → Nat → Int32)) (y : (Int32 × (Nat → Nat → Int32))), f_X7_barsThatFit_2 N R n a0 a1 a2 a3 I = some y → sm_W l 1 mX7_barsThatFit 2 [(0, .inr (.inl a0)), (1, .inl a1), (2, .inl a2), (3, .inl a3)] [] (I, R) (.inl (some (.inl y.1))) (y.2, R) := by
  intro n
  induction n with
  | zero => intro a0 a1 a2 a3 I y h; cases h
  | succ n ih =>
    intro a0 a1 a2 a3 I y h
    rw [f_X7_barsThatFit_2] at h
    refine sm_iload_n (q := 3) dX7_barsThatFit_2 rfl rfl 3 rfl ?_
    refine sm_aload_n (q := 4) dX7_barsThatFit_3 rfl rfl 0 rfl ?_
    refine sm_iload_n (q := 5) dX7_barsThatFit_4 rfl rfl 2 rfl ?_
    obtain ⟨hc1, h⟩ := sm_gd_e h
    obtain ⟨p2, hc_p2, h⟩ := sm_bd_e h
    refine sm_callVi (q := 8) (As := [.inl a2]) (S := [.inl a3]) (e_X7_barsOf hc_p2) mv_X7_52 hc1 rfl (by decide) (Nat.le_of_ble_eq_true rfl) dX7_barsThatFit_5 rfl ?_
    rcases sm_if_e h with ⟨hb3, h⟩ | ⟨hb3, h⟩
    · refine sm_icmp_ge (tgt := 27) (q := 11) dX7_barsThatFit_8 (by decide) rfl (fun _ => ?_) (fun hn => absurd hb3 hn)
      refine sm_iload_n (q := 28) dX7_barsThatFit_27 rfl rfl 3 rfl ?_
      obtain rfl := Option.some.inj h
      exact sm_iret dX7_barsThatFit_28 rfl
    · refine sm_icmp_ge (tgt := 27) (q := 11) dX7_barsThatFit_8 (by decide) rfl (fun ht => absurd ht hb3) (fun _ => ?_)
      refine sm_aload_n (q := 12) dX7_barsThatFit_11 rfl rfl 0 rfl ?_
      refine sm_iload_n (q := 13) dX7_barsThatFit_12 rfl rfl 2 rfl ?_
      refine sm_iload_n (q := 14) dX7_barsThatFit_13 rfl rfl 3 rfl ?_
      obtain ⟨p4, hc_p4, h⟩ := sm_bd_e h
      refine sm_callVi (q := 17) (As := [.inl a2, .inl a3]) (S := []) (e_X7_hardOf hc_p4) mv_X7_56 hc1 rfl (by decide) (Nat.le_of_ble_eq_true rfl) dX7_barsThatFit_14 rfl ?_
      refine sm_iload_n (q := 18) dX7_barsThatFit_17 rfl rfl 1 rfl ?_
      rcases sm_if_e h with ⟨hb5, h⟩ | ⟨hb5, h⟩
      · refine sm_icmp_gt (tgt := 27) (q := 21) dX7_barsThatFit_18 (by decide) rfl (fun _ => ?_) (fun hn => absurd hb5 hn)
        refine sm_iload_n (q := 28) dX7_barsThatFit_27 rfl rfl 3 rfl ?_
        obtain rfl := Option.some.inj h
        exact sm_iret dX7_barsThatFit_28 rfl
      · refine sm_icmp_gt (tgt := 27) (q := 21) dX7_barsThatFit_18 (by decide) rfl (fun ht => absurd ht hb5) (fun _ => ?_)
        refine sm_iinc (v := (a3 + 1)) (L' := [(3, .inl (a3 + 1)), (0, .inr (.inl a0)), (1, .inl a1), (2, .inl a2)]) (q := 24) dX7_barsThatFit_21 rfl 3 rfl rfl (by decide) rfl ?_
        refine sm_goto (q := 2) dX7_barsThatFit_24 (by decide) ?_
        refine sm_pick [1, 2, 3, 0] rfl ?_
        exact ih _ _ _ _ _ _ h
set_option maxHeartbeats 4000000 in
set_option maxRecDepth 100000 in
theorem w_X7_barsThatFit {l : Launch} (N : Nat) (R : Nat → Nat → Nat) : ∀ (a0 : Nat) (a1 : Int32) (a2 : Int32) (I : (Nat → Nat → Int32)) (y : (Int32 × (Nat → Nat → Int32))), f_X7_barsThatFit N R a0 a1 a2 I = some y → sm_W l 1 mX7_barsThatFit 0 [(0, .inr (.inl a0)), (1, .inl a1), (2, .inl a2)] [] (I, R) (.inl (some (.inl y.1))) (y.2, R) := by
  intro a0 a1 a2 I y h
  unfold f_X7_barsThatFit at h
  refine sm_iconst (v := 0) (q := 1) dX7_barsThatFit_0 rfl (by decide) ?_
  refine sm_istore_n (L' := [(3, .inl (0 : Int32)), (0, .inr (.inl a0)), (1, .inl a1), (2, .inl a2)]) (q := 2) dX7_barsThatFit_1 rfl rfl (by decide) rfl ?_
  refine sm_pick [1, 2, 3, 0] rfl ?_
  exact w_X7_barsThatFit_2 N R N _ _ _ _ _ _ h
theorem e_X7_barsThatFit {l : Launch} {N : Nat} {R : Nat → Nat → Nat} {a0 : Nat} {a1 : Int32} {a2 : Int32} {I : (Nat → Nat → Int32)} {y : (Int32 × (Nat → Nat → Int32))} (h : f_X7_barsThatFit N R a0 a1 a2 I = some y) : sm_E l 1 mX7_barsThatFit [.inr (.inl a0), .inl a1, .inl a2] (I, R) (.inl (some (.inl y.1))) (y.2, R) :=
  sm_meth (by decide) (Nat.le_of_ble_eq_true rfl) (w_X7_barsThatFit N R a0 a1 a2 I y h)
def f_X1_mostWith (N : Nat) (R : Nat → Nat → Nat) : Nat → Int32 → Int32 → Int32 → (Nat → Nat → Int32) → Option (Int32 × (Nat → Nat → Int32)) := fun a0 a1 a2 a3 I =>
  sm_gd (sm_kd a0 = (1, 2)) <|
  sm_gd ((sm_kd (R a0 1)).1 = 13 ∧ ¬ (((a1 * (6 : Int32)) + a2) < 0 ∨ (sm_kd (R a0 1)).2 ≤ (((a1 * (6 : Int32)) + a2)).toNatClampNeg)) <|
  sm_gd ((sm_kd (R a0 0)).1 = 13 ∧ ¬ ((((a1 + (1 : Int32)) * (64 : Int32)) + (a3 ||| ((1 : Int32) <<< (a2 &&& 31)))) < 0 ∨ (sm_kd (R a0 0)).2 ≤ ((((a1 + (1 : Int32)) * (64 : Int32)) + (a3 ||| ((1 : Int32) <<< (a2 &&& 31))))).toNatClampNeg)) <|
  some (((I (R a0 1) (((a1 * (6 : Int32)) + a2)).toNatClampNeg) + (I (R a0 0) ((((a1 + (1 : Int32)) * (64 : Int32)) + (a3 ||| ((1 : Int32) <<< (a2 &&& 31))))).toNatClampNeg)), I)
set_option maxHeartbeats 4000000 in
set_option maxRecDepth 100000 in
theorem w_X1_mostWith {l : Launch} (N : Nat) (R : Nat → Nat → Nat) : ∀ (a0 : Nat) (a1 : Int32) (a2 : Int32) (a3 : Int32) (I : (Nat → Nat → Int32)) (y : (Int32 × (Nat → Nat → Int32))), f_X1_mostWith N R a0 a1 a2 a3 I = some y → sm_W l 0 mX1_mostWith 0 [(0, .inr (.inl a0)), (1, .inl a1), (2, .inl a2), (3, .inl a3)] [] (I, R) (.inl (some (.inl y.1))) (y.2, R) := by
  intro a0 a1 a2 a3 I y h
  unfold f_X1_mostWith at h
  refine sm_aload_n (q := 1) dX1_mostWith_0 rfl rfl 0 rfl ?_
  obtain ⟨hc1, h⟩ := sm_gd_e h
  refine sm_getR (r := R a0 1) (q := 4) dX1_mostWith_1 rfl fk_X1_15 hc1 (by decide) (by decide) rfl ?_
  refine sm_iload_n (q := 5) dX1_mostWith_4 rfl rfl 1 rfl ?_
  refine sm_bipush (v := 6) (q := 7) dX1_mostWith_5 rfl (by decide) ?_
  refine sm_imul (q := 8) dX1_mostWith_7 rfl ?_
  refine sm_iload_n (q := 9) dX1_mostWith_8 rfl rfl 2 rfl ?_
  refine sm_iadd (q := 10) dX1_mostWith_9 rfl ?_
  obtain ⟨hc2, h⟩ := sm_gd_e h
  refine sm_iald (n := (sm_kd (R a0 1)).2) (q := 11) dX1_mostWith_10 rfl (Prod.ext hc2.1 rfl) hc2.2 ?_
  refine sm_aload_n (q := 12) dX1_mostWith_11 rfl rfl 0 rfl ?_
  refine sm_getR (r := R a0 0) (q := 15) dX1_mostWith_12 rfl fk_X1_11 hc1 (by decide) (by decide) rfl ?_
  refine sm_iload_n (q := 16) dX1_mostWith_15 rfl rfl 1 rfl ?_
  refine sm_iconst (v := 1) (q := 17) dX1_mostWith_16 rfl (by decide) ?_
  refine sm_iadd (q := 18) dX1_mostWith_17 rfl ?_
  refine sm_bipush (v := 64) (q := 20) dX1_mostWith_18 rfl (by decide) ?_
  refine sm_imul (q := 21) dX1_mostWith_20 rfl ?_
  refine sm_iload_n (q := 22) dX1_mostWith_21 rfl rfl 3 rfl ?_
  refine sm_iconst (v := 1) (q := 23) dX1_mostWith_22 rfl (by decide) ?_
  refine sm_iload_n (q := 24) dX1_mostWith_23 rfl rfl 2 rfl ?_
  refine sm_ishl (q := 25) dX1_mostWith_24 rfl ?_
  refine sm_ior (q := 26) dX1_mostWith_25 rfl ?_
  refine sm_iadd (q := 27) dX1_mostWith_26 rfl ?_
  obtain ⟨hc3, h⟩ := sm_gd_e h
  refine sm_iald (n := (sm_kd (R a0 0)).2) (q := 28) dX1_mostWith_27 rfl (Prod.ext hc3.1 rfl) hc3.2 ?_
  refine sm_iadd (q := 29) dX1_mostWith_28 rfl ?_
  obtain rfl := Option.some.inj h
  exact sm_iret dX1_mostWith_29 rfl
theorem e_X1_mostWith {l : Launch} {N : Nat} {R : Nat → Nat → Nat} {a0 : Nat} {a1 : Int32} {a2 : Int32} {a3 : Int32} {I : (Nat → Nat → Int32)} {y : (Int32 × (Nat → Nat → Int32))} (h : f_X1_mostWith N R a0 a1 a2 a3 I = some y) : sm_E l 0 mX1_mostWith [.inr (.inl a0), .inl a1, .inl a2, .inl a3] (I, R) (.inl (some (.inl y.1))) (y.2, R) :=
  sm_meth (by decide) (Nat.le_of_ble_eq_true rfl) (w_X1_mostWith N R a0 a1 a2 a3 I y h)
def f_X1_mostOf_18 (N : Nat) (R : Nat → Nat → Nat) : Nat → Nat → Int32 → Int32 → Int32 → Int32 → Int32 → (Nat → Nat → Int32) → Option (Int32 × (Nat → Nat → Int32))
  | 0, _, _, _, _, _, _, _ => none
  | n + 1, a0, a1, a2, a3, a4, a5, I =>
    if a1 ≤ a5 then (
      some (a4, I))
    else (
      if ((a3 >>> (a5 &&& 31)) &&& (1 : Int32)) = 0 then (
        sm_gd (sm_kd a0 = (1, 2)) <|
        (f_X1_mostWith N R a0 a2 a5 a3 I).bind fun p4 =>
        f_X1_mostOf_18 N R n a0 a1 a2 a3 (sm_mx a4 p4.1) (a5 + 1) p4.2)
      else (
        f_X1_mostOf_18 N R n a0 a1 a2 a3 a4 (a5 + 1) I))
def f_X1_mostOf (N : Nat) (R : Nat → Nat → Nat) : Nat → Int32 → Int32 → Int32 → (Nat → Nat → Int32) → Option (Int32 × (Nat → Nat → Int32)) := fun a0 a1 a2 a3 I =>
  sm_gd (sm_kd a0 = (1, 2)) <|
  sm_gd ((sm_kd (R a0 0)).1 = 13 ∧ ¬ ((((a2 + (1 : Int32)) * (64 : Int32)) + a3) < 0 ∨ (sm_kd (R a0 0)).2 ≤ ((((a2 + (1 : Int32)) * (64 : Int32)) + a3)).toNatClampNeg)) <|
  f_X1_mostOf_18 N R N a0 a1 a2 a3 (I (R a0 0) ((((a2 + (1 : Int32)) * (64 : Int32)) + a3)).toNatClampNeg) (0 : Int32) I
set_option maxHeartbeats 4000000 in
set_option maxRecDepth 100000 in
theorem w_X1_mostOf_18 {l : Launch} (N : Nat) (R : Nat → Nat → Nat) : ∀ (n : Nat) (a0 : Nat) (a1 : Int32) (a2 : Int32) (a3 : Int32) (a4 : Int32) (a5 : Int32) (I : (Nat → Nat → Int32)) (y : (Int32 × (Nat → Nat → Int32))), f_X1_mostOf_18 N R n a0 a1 a2 a3 a4 a5 I = some y → sm_W l 1 mX1_mostOf 18 [(0, .inr (.inl a0)), (1, .inl a1), (2, .inl a2), (3, .inl a3), (4, .inl a4), (5, .inl a5)] [] (I, R) (.inl (some (.inl y.1))) (y.2, R) := by
  intro n
  induction n with
  | zero => intro a0 a1 a2 a3 a4 a5 I y h; cases h
  | succ n ih =>
    intro a0 a1 a2 a3 a4 a5 I y h
    rw [f_X1_mostOf_18] at h
    refine sm_iload (q := 20) dX1_mostOf_18 rfl 5 rfl ?_
    refine sm_iload_n (q := 21) dX1_mostOf_20 rfl rfl 1 rfl ?_
    rcases sm_if_e h with ⟨hb1, h⟩ | ⟨hb1, h⟩
    · refine sm_icmp_ge (tgt := 54) (q := 24) dX1_mostOf_21 (by decide) rfl (fun _ => ?_) (fun hn => absurd hb1 hn)
      refine sm_iload (q := 56) dX1_mostOf_54 rfl 4 rfl ?_
      obtain rfl := Option.some.inj h
      exact sm_iret dX1_mostOf_56 rfl
    · refine sm_icmp_ge (tgt := 54) (q := 24) dX1_mostOf_21 (by decide) rfl (fun ht => absurd ht hb1) (fun _ => ?_)
      refine sm_iload_n (q := 25) dX1_mostOf_24 rfl rfl 3 rfl ?_
      refine sm_iload (q := 27) dX1_mostOf_25 rfl 5 rfl ?_
      refine sm_ishr (q := 28) dX1_mostOf_27 rfl ?_
      refine sm_iconst (v := 1) (q := 29) dX1_mostOf_28 rfl (by decide) ?_
      refine sm_iand (q := 30) dX1_mostOf_29 rfl ?_
      rcases sm_if_e h with ⟨hb2, h⟩ | ⟨hb2, h⟩
      · refine sm_if_ne (tgt := 48) (q := 33) dX1_mostOf_30 (by decide) rfl (fun hn => absurd hb2 hn) (fun _ => ?_)
        refine sm_iload (q := 35) dX1_mostOf_33 rfl 4 rfl ?_
        refine sm_aload_n (q := 36) dX1_mostOf_35 rfl rfl 0 rfl ?_
        refine sm_iload_n (q := 37) dX1_mostOf_36 rfl rfl 2 rfl ?_
        refine sm_iload (q := 39) dX1_mostOf_37 rfl 5 rfl ?_
        refine sm_iload_n (q := 40) dX1_mostOf_39 rfl rfl 3 rfl ?_
        obtain ⟨hc3, h⟩ := sm_gd_e h
        obtain ⟨p4, hc_p4, h⟩ := sm_bd_e h
        refine sm_callVi (q := 43) (As := [.inl a2, .inl a5, .inl a3]) (S := [.inl a4]) (e_X1_mostWith hc_p4) mv_X1_50 hc3 rfl (by decide) (Nat.le_of_ble_eq_true rfl) dX1_mostOf_40 rfl ?_
        refine sm_mmx (q := 46) dX1_mostOf_43 rfl mm_X1_53 (Nat.le_of_ble_eq_true rfl) ?_
        refine sm_istore (L' := [(4, .inl (sm_mx a4 p4.1)), (0, .inr (.inl a0)), (1, .inl a1), (2, .inl a2), (3, .inl a3), (5, .inl a5)]) (q := 48) dX1_mostOf_46 rfl (by decide) rfl ?_
        refine sm_iinc (v := (a5 + 1)) (L' := [(5, .inl (a5 + 1)), (4, .inl (sm_mx a4 p4.1)), (0, .inr (.inl a0)), (1, .inl a1), (2, .inl a2), (3, .inl a3)]) (q := 51) dX1_mostOf_48 rfl 5 rfl rfl (by decide) rfl ?_
        refine sm_goto (q := 18) dX1_mostOf_51 (by decide) ?_
        refine sm_pick [2, 3, 4, 5, 1, 0] rfl ?_
        exact ih _ _ _ _ _ _ _ _ h
      · refine sm_if_ne (tgt := 48) (q := 33) dX1_mostOf_30 (by decide) rfl (fun _ => ?_) (fun he => absurd he hb2)
        refine sm_iinc (v := (a5 + 1)) (L' := [(5, .inl (a5 + 1)), (0, .inr (.inl a0)), (1, .inl a1), (2, .inl a2), (3, .inl a3), (4, .inl a4)]) (q := 51) dX1_mostOf_48 rfl 5 rfl rfl (by decide) rfl ?_
        refine sm_goto (q := 18) dX1_mostOf_51 (by decide) ?_
        refine sm_pick [1, 2, 3, 4, 5, 0] rfl ?_
        exact ih _ _ _ _ _ _ _ _ h
set_option maxHeartbeats 4000000 in
set_option maxRecDepth 100000 in
theorem w_X1_mostOf {l : Launch} (N : Nat) (R : Nat → Nat → Nat) : ∀ (a0 : Nat) (a1 : Int32) (a2 : Int32) (a3 : Int32) (I : (Nat → Nat → Int32)) (y : (Int32 × (Nat → Nat → Int32))), f_X1_mostOf N R a0 a1 a2 a3 I = some y → sm_W l 1 mX1_mostOf 0 [(0, .inr (.inl a0)), (1, .inl a1), (2, .inl a2), (3, .inl a3)] [] (I, R) (.inl (some (.inl y.1))) (y.2, R) := by
  intro a0 a1 a2 a3 I y h
  unfold f_X1_mostOf at h
  refine sm_aload_n (q := 1) dX1_mostOf_0 rfl rfl 0 rfl ?_
  obtain ⟨hc1, h⟩ := sm_gd_e h
  refine sm_getR (r := R a0 0) (q := 4) dX1_mostOf_1 rfl fk_X1_11 hc1 (by decide) (by decide) rfl ?_
  refine sm_iload_n (q := 5) dX1_mostOf_4 rfl rfl 2 rfl ?_
  refine sm_iconst (v := 1) (q := 6) dX1_mostOf_5 rfl (by decide) ?_
  refine sm_iadd (q := 7) dX1_mostOf_6 rfl ?_
  refine sm_bipush (v := 64) (q := 9) dX1_mostOf_7 rfl (by decide) ?_
  refine sm_imul (q := 10) dX1_mostOf_9 rfl ?_
  refine sm_iload_n (q := 11) dX1_mostOf_10 rfl rfl 3 rfl ?_
  refine sm_iadd (q := 12) dX1_mostOf_11 rfl ?_
  obtain ⟨hc2, h⟩ := sm_gd_e h
  refine sm_iald (n := (sm_kd (R a0 0)).2) (q := 13) dX1_mostOf_12 rfl (Prod.ext hc2.1 rfl) hc2.2 ?_
  refine sm_istore (L' := [(4, .inl (I (R a0 0) ((((a2 + (1 : Int32)) * (64 : Int32)) + a3)).toNatClampNeg)), (0, .inr (.inl a0)), (1, .inl a1), (2, .inl a2), (3, .inl a3)]) (q := 15) dX1_mostOf_13 rfl (by decide) rfl ?_
  refine sm_iconst (v := 0) (q := 16) dX1_mostOf_15 rfl (by decide) ?_
  refine sm_istore (L' := [(5, .inl (0 : Int32)), (4, .inl (I (R a0 0) ((((a2 + (1 : Int32)) * (64 : Int32)) + a3)).toNatClampNeg)), (0, .inr (.inl a0)), (1, .inl a1), (2, .inl a2), (3, .inl a3)]) (q := 18) dX1_mostOf_16 rfl (by decide) rfl ?_
  refine sm_pick [2, 3, 4, 5, 1, 0] rfl ?_
  exact w_X1_mostOf_18 N R N _ _ _ _ _ _ _ _ h
theorem e_X1_mostOf {l : Launch} {N : Nat} {R : Nat → Nat → Nat} {a0 : Nat} {a1 : Int32} {a2 : Int32} {a3 : Int32} {I : (Nat → Nat → Int32)} {y : (Int32 × (Nat → Nat → Int32))} (h : f_X1_mostOf N R a0 a1 a2 a3 I = some y) : sm_E l 1 mX1_mostOf [.inr (.inl a0), .inl a1, .inl a2, .inl a3] (I, R) (.inl (some (.inl y.1))) (y.2, R) :=
  sm_meth (by decide) (Nat.le_of_ble_eq_true rfl) (w_X1_mostOf N R a0 a1 a2 a3 I y h)
def f_X1_weigh_93 (N : Nat) (R : Nat → Nat → Nat) (k_38 : Nat → Nat → Int32 → (Nat → Nat → Int32) → Option (Unit × (Nat → Nat → Int32))) : Nat → Nat → Nat → Int32 → Int32 → (Nat → Nat → Int32) → Option (Unit × (Nat → Nat → Int32))
  | 0, _, _, _, _, _ => none
  | n + 1, a0, a1, a3, a4, I =>
    if (64 : Int32) ≤ a4 then (
      k_38 a0 a1 (a3 + (-1)) I)
    else (
      sm_gd (sm_kd a0 = (1, 2)) <|
      sm_gd (sm_kd a1 = (7, 9)) <|
      (f_X1_mostOf N R a0 (I a1 3) a3 a4 I).bind fun p4 =>
      sm_gd ((sm_kd (R a0 0)).1 = 13 ∧ ¬ (((a3 * (64 : Int32)) + a4) < 0 ∨ (sm_kd (R a0 0)).2 ≤ (((a3 * (64 : Int32)) + a4)).toNatClampNeg)) <|
      sm_lt (sm_up p4.2 (R a0 0) (sm_up (p4.2 (R a0 0)) (((a3 * (64 : Int32)) + a4)).toNatClampNeg p4.1)) fun I6 =>
      f_X1_weigh_93 N R k_38 n a0 a1 a3 (a4 + 1) I6)
def f_X1_weigh_45 (N : Nat) (R : Nat → Nat → Nat) (k_38 : Nat → Nat → Int32 → (Nat → Nat → Int32) → Option (Unit × (Nat → Nat → Int32))) : Nat → Nat → Nat → Int32 → Int32 → (Nat → Nat → Int32) → Option (Unit × (Nat → Nat → Int32))
  | 0, _, _, _, _, _ => none
  | n + 1, a0, a1, a3, a4, I =>
    sm_gd (sm_kd a1 = (7, 9)) <|
    if (I a1 3) ≤ a4 then (
      f_X1_weigh_93 N R k_38 N a0 a1 a3 (0 : Int32) I)
    else (
      sm_gd (sm_kd a0 = (1, 2)) <|
      sm_gd (sm_kd (R a1 5) = (10, 4)) <|
      sm_gd ((sm_kd (R (R a1 5) 0)).1 = 16 ∧ ¬ (a3 < 0 ∨ (sm_kd (R (R a1 5) 0)).2 ≤ (a3).toNatClampNeg)) <|
      sm_gd (sm_kd (R (R (R a1 5) 0) (a3).toNatClampNeg) = (4, 6)) <|
      (f_X7_barsThatFit N R a1 (I (R (R (R a1 5) 0) (a3).toNatClampNeg) 0) a4 I).bind fun p7 =>
      sm_gd ((sm_kd (R a0 1)).1 = 13 ∧ ¬ (((a3 * (6 : Int32)) + a4) < 0 ∨ (sm_kd (R a0 1)).2 ≤ (((a3 * (6 : Int32)) + a4)).toNatClampNeg)) <|
      sm_lt (sm_up p7.2 (R a0 1) (sm_up (p7.2 (R a0 1)) (((a3 * (6 : Int32)) + a4)).toNatClampNeg p7.1)) fun I9 =>
      f_X1_weigh_45 N R k_38 n a0 a1 a3 (a4 + 1) I9)
def f_X1_weigh_38 (N : Nat) (R : Nat → Nat → Nat) : Nat → Nat → Nat → Int32 → (Nat → Nat → Int32) → Option (Unit × (Nat → Nat → Int32))
  | 0, _, _, _, _ => none
  | n + 1, a0, a1, a3, I =>
    if a3 < 0 then (
      some ((), I))
    else (
      f_X1_weigh_45 N R (fun z0 z1 z2 J => f_X1_weigh_38 N R n z0 z1 z2 J) N a0 a1 a3 (0 : Int32) I)
def f_X1_weigh_10 (N : Nat) (R : Nat → Nat → Nat) : Nat → Nat → Nat → Int32 → Int32 → (Nat → Nat → Int32) → Option (Unit × (Nat → Nat → Int32))
  | 0, _, _, _, _, _ => none
  | n + 1, a0, a1, a2, a3, I =>
    if (64 : Int32) ≤ a3 then (
      f_X1_weigh_38 N R N a0 a1 (a2 - (1 : Int32)) I)
    else (
      sm_gd (sm_kd a0 = (1, 2)) <|
      sm_gd ((sm_kd (R a0 0)).1 = 13 ∧ ¬ (((a2 * (64 : Int32)) + a3) < 0 ∨ (sm_kd (R a0 0)).2 ≤ (((a2 * (64 : Int32)) + a3)).toNatClampNeg)) <|
      sm_lt (sm_up I (R a0 0) (sm_up (I (R a0 0)) (((a2 * (64 : Int32)) + a3)).toNatClampNeg (0 : Int32))) fun I4 =>
      f_X1_weigh_10 N R n a0 a1 a2 (a3 + 1) I4)
def f_X1_weigh (N : Nat) (R : Nat → Nat → Nat) : Nat → Nat → (Nat → Nat → Int32) → Option (Unit × (Nat → Nat → Int32)) := fun a0 a1 I =>
  sm_gd (sm_kd a1 = (7, 9)) <|
  sm_gd (sm_kd (R a1 5) = (10, 4)) <|
  f_X1_weigh_10 N R N a0 a1 (I (R a1 5) 1) (0 : Int32) I
set_option maxHeartbeats 4000000 in
set_option maxRecDepth 100000 in
theorem w_X1_weigh_93 {l : Launch} (N : Nat) (R : Nat → Nat → Nat) (k_38 : Nat → Nat → Int32 → (Nat → Nat → Int32) → Option (Unit × (Nat → Nat → Int32))) (hk_38 : ∀ (a0 : Nat) (a1 : Nat) (a3 : Int32) (I : (Nat → Nat → Int32)) (y : (Unit × (Nat → Nat → Int32))), k_38 a0 a1 a3 I = some y → sm_W l 2 mX1_weigh 38 [(0, .inr (.inl a0)), (1, .inr (.inl a1)), (3, .inl a3)] [] (I, R) (.inl none) (y.2, R)) : ∀ (n : Nat) (a0 : Nat) (a1 : Nat) (a3 : Int32) (a4 : Int32) (I : (Nat → Nat → Int32)) (y : (Unit × (Nat → Nat → Int32))), f_X1_weigh_93 N R k_38 n a0 a1 a3 a4 I = some y → sm_W l 2 mX1_weigh 93 [(0, .inr (.inl a0)), (1, .inr (.inl a1)), (3, .inl a3), (4, .inl a4)] [] (I, R) (.inl none) (y.2, R) := by
  intro n
  induction n with
  | zero => intro a0 a1 a3 a4 I y h; cases h
  | succ n ih =>
    intro a0 a1 a3 a4 I y h
    rw [f_X1_weigh_93] at h
    refine sm_iload (q := 95) dX1_weigh_93 rfl 3 rfl ?_
    refine sm_bipush (v := 64) (q := 97) dX1_weigh_95 rfl (by decide) ?_
    rcases sm_if_e h with ⟨hb1, h⟩ | ⟨hb1, h⟩
    · refine sm_icmp_ge (tgt := 129) (q := 100) dX1_weigh_97 (by decide) rfl (fun _ => ?_) (fun hn => absurd hb1 hn)
      refine sm_iinc (v := (a3 + (-1))) (L' := [(3, .inl (a3 + (-1))), (0, .inr (.inl a0)), (1, .inr (.inl a1)), (4, .inl a4)]) (q := 132) dX1_weigh_129 rfl 2 rfl rfl (by decide) rfl ?_
      refine sm_goto (q := 38) dX1_weigh_132 (by decide) ?_
      refine sm_pick [1, 2, 0] rfl ?_
      exact hk_38 _ _ _ _ _ h
    · refine sm_icmp_ge (tgt := 129) (q := 100) dX1_weigh_97 (by decide) rfl (fun ht => absurd ht hb1) (fun _ => ?_)
      refine sm_aload_n (q := 101) dX1_weigh_100 rfl rfl 0 rfl ?_
      obtain ⟨hc2, h⟩ := sm_gd_e h
      refine sm_getR (r := R a0 0) (q := 104) dX1_weigh_101 rfl fk_X1_11 hc2 (by decide) (by decide) rfl ?_
      refine sm_iload_n (q := 105) dX1_weigh_104 rfl rfl 2 rfl ?_
      refine sm_bipush (v := 64) (q := 107) dX1_weigh_105 rfl (by decide) ?_
      refine sm_imul (q := 108) dX1_weigh_107 rfl ?_
      refine sm_iload (q := 110) dX1_weigh_108 rfl 3 rfl ?_
      refine sm_iadd (q := 111) dX1_weigh_110 rfl ?_
      refine sm_aload_n (q := 112) dX1_weigh_111 rfl rfl 0 rfl ?_
      refine sm_aload_n (q := 113) dX1_weigh_112 rfl rfl 1 rfl ?_
      obtain ⟨hc3, h⟩ := sm_gd_e h
      refine sm_getI (q := 116) dX1_weigh_113 rfl fk_X1_30 hc3 (by decide) (by decide) ?_
      refine sm_iload_n (q := 117) dX1_weigh_116 rfl rfl 2 rfl ?_
      refine sm_iload (q := 119) dX1_weigh_117 rfl 3 rfl ?_
      obtain ⟨p4, hc_p4, h⟩ := sm_bd_e h
      refine sm_callVi (q := 122) (As := [.inl (I a1 3), .inl a3, .inl a4]) (S := [.inl ((a3 * (64 : Int32)) + a4), .inr (.inl (R a0 0))]) (e_X1_mostOf hc_p4) mv_X1_46 hc2 rfl (by decide) (Nat.le_of_ble_eq_true rfl) dX1_weigh_119 rfl ?_
      obtain ⟨hc5, h⟩ := sm_gd_e h
      obtain ⟨I6, hI6, h⟩ := sm_lt_e h
      refine sm_iast (n := (sm_kd (R a0 0)).2) (q := 123) dX1_weigh_122 rfl (Prod.ext hc5.1 rfl) hc5.2 ?_
      refine sm_memI hI6 ?_
      refine sm_iinc (v := (a4 + 1)) (L' := [(4, .inl (a4 + 1)), (0, .inr (.inl a0)), (1, .inr (.inl a1)), (3, .inl a3)]) (q := 126) dX1_weigh_123 rfl 3 rfl rfl (by decide) rfl ?_
      refine sm_goto (q := 93) dX1_weigh_126 (by decide) ?_
      refine sm_pick [1, 2, 3, 0] rfl ?_
      exact ih _ _ _ _ _ _ h
set_option maxHeartbeats 4000000 in
set_option maxRecDepth 100000 in
theorem w_X1_weigh_45 {l : Launch} (N : Nat) (R : Nat → Nat → Nat) (k_38 : Nat → Nat → Int32 → (Nat → Nat → Int32) → Option (Unit × (Nat → Nat → Int32))) (hk_38 : ∀ (a0 : Nat) (a1 : Nat) (a3 : Int32) (I : (Nat → Nat → Int32)) (y : (Unit × (Nat → Nat → Int32))), k_38 a0 a1 a3 I = some y → sm_W l 2 mX1_weigh 38 [(0, .inr (.inl a0)), (1, .inr (.inl a1)), (3, .inl a3)] [] (I, R) (.inl none) (y.2, R)) : ∀ (n : Nat) (a0 : Nat) (a1 : Nat) (a3 : Int32) (a4 : Int32) (I : (Nat → Nat → Int32)) (y : (Unit × (Nat → Nat → Int32))), f_X1_weigh_45 N R k_38 n a0 a1 a3 a4 I = some y → sm_W l 2 mX1_weigh 45 [(0, .inr (.inl a0)), (1, .inr (.inl a1)), (3, .inl a3), (4, .inl a4)] [] (I, R) (.inl none) (y.2, R) := by
  intro n
  induction n with
  | zero => intro a0 a1 a3 a4 I y h; cases h
  | succ n ih =>
    intro a0 a1 a3 a4 I y h
    rw [f_X1_weigh_45] at h
    refine sm_iload (q := 47) dX1_weigh_45 rfl 3 rfl ?_
    refine sm_aload_n (q := 48) dX1_weigh_47 rfl rfl 1 rfl ?_
    obtain ⟨hc1, h⟩ := sm_gd_e h
    refine sm_getI (q := 51) dX1_weigh_48 rfl fk_X1_30 hc1 (by decide) (by decide) ?_
    rcases sm_if_e h with ⟨hb2, h⟩ | ⟨hb2, h⟩
    · refine sm_icmp_ge (tgt := 90) (q := 54) dX1_weigh_51 (by decide) rfl (fun _ => ?_) (fun hn => absurd hb2 hn)
      refine sm_iconst (v := 0) (q := 91) dX1_weigh_90 rfl (by decide) ?_
      refine sm_istore (L' := [(4, .inl (0 : Int32)), (0, .inr (.inl a0)), (1, .inr (.inl a1)), (3, .inl a3)]) (q := 93) dX1_weigh_91 rfl (by decide) rfl ?_
      refine sm_pick [1, 2, 3, 0] rfl ?_
      exact w_X1_weigh_93 N R k_38 hk_38 N _ _ _ _ _ _ h
    · refine sm_icmp_ge (tgt := 90) (q := 54) dX1_weigh_51 (by decide) rfl (fun ht => absurd ht hb2) (fun _ => ?_)
      refine sm_aload_n (q := 55) dX1_weigh_54 rfl rfl 0 rfl ?_
      obtain ⟨hc3, h⟩ := sm_gd_e h
      refine sm_getR (r := R a0 1) (q := 58) dX1_weigh_55 rfl fk_X1_15 hc3 (by decide) (by decide) rfl ?_
      refine sm_iload_n (q := 59) dX1_weigh_58 rfl rfl 2 rfl ?_
      refine sm_bipush (v := 6) (q := 61) dX1_weigh_59 rfl (by decide) ?_
      refine sm_imul (q := 62) dX1_weigh_61 rfl ?_
      refine sm_iload (q := 64) dX1_weigh_62 rfl 3 rfl ?_
      refine sm_iadd (q := 65) dX1_weigh_64 rfl ?_
      refine sm_aload_n (q := 66) dX1_weigh_65 rfl rfl 1 rfl ?_
      refine sm_aload_n (q := 67) dX1_weigh_66 rfl rfl 1 rfl ?_
      refine sm_getR (r := R a1 5) (q := 70) dX1_weigh_67 rfl fk_X1_18 hc1 (by decide) (by decide) rfl ?_
      obtain ⟨hc4, h⟩ := sm_gd_e h
      refine sm_getR (r := R (R a1 5) 0) (q := 73) dX1_weigh_70 rfl fk_X1_33 hc4 (by decide) (by decide) rfl ?_
      refine sm_iload_n (q := 74) dX1_weigh_73 rfl rfl 2 rfl ?_
      obtain ⟨hc5, h⟩ := sm_gd_e h
      refine sm_aald (t := 3) (n := (sm_kd (R (R a1 5) 0)).2) (q := 75) dX1_weigh_74 rfl (Prod.ext hc5.1 rfl) (Or.inl ⟨rfl, rfl⟩) hc5.2 rfl ?_
      obtain ⟨hc6, h⟩ := sm_gd_e h
      refine sm_getI (q := 78) dX1_weigh_75 rfl fk_X1_37 hc6 (by decide) (by decide) ?_
      refine sm_iload (q := 80) dX1_weigh_78 rfl 3 rfl ?_
      obtain ⟨p7, hc_p7, h⟩ := sm_bd_e h
      refine sm_callVi (q := 83) (As := [.inl (I (R (R (R a1 5) 0) (a3).toNatClampNeg) 0), .inl a4]) (S := [.inl ((a3 * (6 : Int32)) + a4), .inr (.inl (R a0 1))]) (e_X7_barsThatFit hc_p7) mv_X1_42 hc1 rfl (by decide) (Nat.le_of_ble_eq_true rfl) dX1_weigh_80 rfl ?_
      obtain ⟨hc8, h⟩ := sm_gd_e h
      obtain ⟨I9, hI9, h⟩ := sm_lt_e h
      refine sm_iast (n := (sm_kd (R a0 1)).2) (q := 84) dX1_weigh_83 rfl (Prod.ext hc8.1 rfl) hc8.2 ?_
      refine sm_memI hI9 ?_
      refine sm_iinc (v := (a4 + 1)) (L' := [(4, .inl (a4 + 1)), (0, .inr (.inl a0)), (1, .inr (.inl a1)), (3, .inl a3)]) (q := 87) dX1_weigh_84 rfl 3 rfl rfl (by decide) rfl ?_
      refine sm_goto (q := 45) dX1_weigh_87 (by decide) ?_
      refine sm_pick [1, 2, 3, 0] rfl ?_
      exact ih _ _ _ _ _ _ h
set_option maxHeartbeats 4000000 in
set_option maxRecDepth 100000 in
theorem w_X1_weigh_38 {l : Launch} (N : Nat) (R : Nat → Nat → Nat) : ∀ (n : Nat) (a0 : Nat) (a1 : Nat) (a3 : Int32) (I : (Nat → Nat → Int32)) (y : (Unit × (Nat → Nat → Int32))), f_X1_weigh_38 N R n a0 a1 a3 I = some y → sm_W l 2 mX1_weigh 38 [(0, .inr (.inl a0)), (1, .inr (.inl a1)), (3, .inl a3)] [] (I, R) (.inl none) (y.2, R) := by
  intro n
  induction n with
  | zero => intro a0 a1 a3 I y h; cases h
  | succ n ih =>
    intro a0 a1 a3 I y h
    rw [f_X1_weigh_38] at h
    refine sm_iload_n (q := 39) dX1_weigh_38 rfl rfl 2 rfl ?_
    rcases sm_if_e h with ⟨hb1, h⟩ | ⟨hb1, h⟩
    · refine sm_if_lt (tgt := 135) (q := 42) dX1_weigh_39 (by decide) rfl (fun _ => ?_) (fun hn => absurd hb1 hn)
      obtain rfl := Option.some.inj h
      exact sm_vret dX1_weigh_135 rfl
    · refine sm_if_lt (tgt := 135) (q := 42) dX1_weigh_39 (by decide) rfl (fun ht => absurd ht hb1) (fun _ => ?_)
      refine sm_iconst (v := 0) (q := 43) dX1_weigh_42 rfl (by decide) ?_
      refine sm_istore (L' := [(4, .inl (0 : Int32)), (0, .inr (.inl a0)), (1, .inr (.inl a1)), (3, .inl a3)]) (q := 45) dX1_weigh_43 rfl (by decide) rfl ?_
      refine sm_pick [1, 2, 3, 0] rfl ?_
      exact w_X1_weigh_45 N R (fun z0 z1 z2 J => f_X1_weigh_38 N R n z0 z1 z2 J) (fun z0 z1 z2 J y h => ih z0 z1 z2 J y h) N _ _ _ _ _ _ h
set_option maxHeartbeats 4000000 in
set_option maxRecDepth 100000 in
theorem w_X1_weigh_10 {l : Launch} (N : Nat) (R : Nat → Nat → Nat) : ∀ (n : Nat) (a0 : Nat) (a1 : Nat) (a2 : Int32) (a3 : Int32) (I : (Nat → Nat → Int32)) (y : (Unit × (Nat → Nat → Int32))), f_X1_weigh_10 N R n a0 a1 a2 a3 I = some y → sm_W l 2 mX1_weigh 10 [(0, .inr (.inl a0)), (1, .inr (.inl a1)), (2, .inl a2), (3, .inl a3)] [] (I, R) (.inl none) (y.2, R) := by
  intro n
  induction n with
  | zero => intro a0 a1 a2 a3 I y h; cases h
  | succ n ih =>
    intro a0 a1 a2 a3 I y h
    rw [f_X1_weigh_10] at h
    refine sm_iload_n (q := 11) dX1_weigh_10 rfl rfl 3 rfl ?_
    refine sm_bipush (v := 64) (q := 13) dX1_weigh_11 rfl (by decide) ?_
    rcases sm_if_e h with ⟨hb1, h⟩ | ⟨hb1, h⟩
    · refine sm_icmp_ge (tgt := 34) (q := 16) dX1_weigh_13 (by decide) rfl (fun _ => ?_) (fun hn => absurd hb1 hn)
      refine sm_iload_n (q := 35) dX1_weigh_34 rfl rfl 2 rfl ?_
      refine sm_iconst (v := 1) (q := 36) dX1_weigh_35 rfl (by decide) ?_
      refine sm_isub (q := 37) dX1_weigh_36 rfl ?_
      refine sm_istore_n (L' := [(3, .inl (a2 - (1 : Int32))), (0, .inr (.inl a0)), (1, .inr (.inl a1)), (2, .inl a2)]) (q := 38) dX1_weigh_37 rfl rfl (by decide) rfl ?_
      refine sm_pick [1, 2, 0] rfl ?_
      exact w_X1_weigh_38 N R N _ _ _ _ _ h
    · refine sm_icmp_ge (tgt := 34) (q := 16) dX1_weigh_13 (by decide) rfl (fun ht => absurd ht hb1) (fun _ => ?_)
      refine sm_aload_n (q := 17) dX1_weigh_16 rfl rfl 0 rfl ?_
      obtain ⟨hc2, h⟩ := sm_gd_e h
      refine sm_getR (r := R a0 0) (q := 20) dX1_weigh_17 rfl fk_X1_11 hc2 (by decide) (by decide) rfl ?_
      refine sm_iload_n (q := 21) dX1_weigh_20 rfl rfl 2 rfl ?_
      refine sm_bipush (v := 64) (q := 23) dX1_weigh_21 rfl (by decide) ?_
      refine sm_imul (q := 24) dX1_weigh_23 rfl ?_
      refine sm_iload_n (q := 25) dX1_weigh_24 rfl rfl 3 rfl ?_
      refine sm_iadd (q := 26) dX1_weigh_25 rfl ?_
      refine sm_iconst (v := 0) (q := 27) dX1_weigh_26 rfl (by decide) ?_
      obtain ⟨hc3, h⟩ := sm_gd_e h
      obtain ⟨I4, hI4, h⟩ := sm_lt_e h
      refine sm_iast (n := (sm_kd (R a0 0)).2) (q := 28) dX1_weigh_27 rfl (Prod.ext hc3.1 rfl) hc3.2 ?_
      refine sm_memI hI4 ?_
      refine sm_iinc (v := (a3 + 1)) (L' := [(3, .inl (a3 + 1)), (0, .inr (.inl a0)), (1, .inr (.inl a1)), (2, .inl a2)]) (q := 31) dX1_weigh_28 rfl 3 rfl rfl (by decide) rfl ?_
      refine sm_goto (q := 10) dX1_weigh_31 (by decide) ?_
      refine sm_pick [1, 2, 3, 0] rfl ?_
      exact ih _ _ _ _ _ _ h
set_option maxHeartbeats 4000000 in
set_option maxRecDepth 100000 in
theorem w_X1_weigh {l : Launch} (N : Nat) (R : Nat → Nat → Nat) : ∀ (a0 : Nat) (a1 : Nat) (I : (Nat → Nat → Int32)) (y : (Unit × (Nat → Nat → Int32))), f_X1_weigh N R a0 a1 I = some y → sm_W l 2 mX1_weigh 0 [(0, .inr (.inl a0)), (1, .inr (.inl a1))] [] (I, R) (.inl none) (y.2, R) := by
  intro a0 a1 I y h
  unfold f_X1_weigh at h
  refine sm_aload_n (q := 1) dX1_weigh_0 rfl rfl 1 rfl ?_
  obtain ⟨hc1, h⟩ := sm_gd_e h
  refine sm_getR (r := R a1 5) (q := 4) dX1_weigh_1 rfl fk_X1_18 hc1 (by decide) (by decide) rfl ?_
  obtain ⟨hc2, h⟩ := sm_gd_e h
  refine sm_getI (q := 7) dX1_weigh_4 rfl fk_X1_24 hc2 (by decide) (by decide) ?_
  refine sm_istore_n (L' := [(2, .inl (I (R a1 5) 1)), (0, .inr (.inl a0)), (1, .inr (.inl a1))]) (q := 8) dX1_weigh_7 rfl rfl (by decide) rfl ?_
  refine sm_iconst (v := 0) (q := 9) dX1_weigh_8 rfl (by decide) ?_
  refine sm_istore_n (L' := [(3, .inl (0 : Int32)), (2, .inl (I (R a1 5) 1)), (0, .inr (.inl a0)), (1, .inr (.inl a1))]) (q := 10) dX1_weigh_9 rfl rfl (by decide) rfl ?_
  refine sm_pick [2, 3, 1, 0] rfl ?_
  exact w_X1_weigh_10 N R N _ _ _ _ _ _ h
theorem e_X1_weigh {l : Launch} {N : Nat} {R : Nat → Nat → Nat} {a0 : Nat} {a1 : Nat} {I : (Nat → Nat → Int32)} {y : (Unit × (Nat → Nat → Int32))} (h : f_X1_weigh N R a0 a1 I = some y) : sm_E l 2 mX1_weigh [.inr (.inl a0), .inr (.inl a1)] (I, R) (.inl none) (y.2, R) :=
  sm_meth (by decide) (Nat.le_of_ble_eq_true rfl) (w_X1_weigh N R a0 a1 I y h)
def f_X1_most (N : Nat) (R : Nat → Nat → Nat) : Nat → (Nat → Nat → Int32) → Option (Int32 × (Nat → Nat → Int32)) := fun a0 I =>
  sm_gd (sm_kd a0 = (1, 2)) <|
  sm_gd ((sm_kd (R a0 0)).1 = 13 ∧ ¬ ((0 : Int32) < 0 ∨ (sm_kd (R a0 0)).2 ≤ ((0 : Int32)).toNatClampNeg)) <|
  some ((I (R a0 0) ((0 : Int32)).toNatClampNeg), I)
set_option maxHeartbeats 4000000 in
set_option maxRecDepth 100000 in
theorem w_X1_most {l : Launch} (N : Nat) (R : Nat → Nat → Nat) : ∀ (a0 : Nat) (I : (Nat → Nat → Int32)) (y : (Int32 × (Nat → Nat → Int32))), f_X1_most N R a0 I = some y → sm_W l 0 mX1_most 0 [(0, .inr (.inl a0))] [] (I, R) (.inl (some (.inl y.1))) (y.2, R) := by
  intro a0 I y h
  unfold f_X1_most at h
  refine sm_aload_n (q := 1) dX1_most_0 rfl rfl 0 rfl ?_
  obtain ⟨hc1, h⟩ := sm_gd_e h
  refine sm_getR (r := R a0 0) (q := 4) dX1_most_1 rfl fk_X1_11 hc1 (by decide) (by decide) rfl ?_
  refine sm_iconst (v := 0) (q := 5) dX1_most_4 rfl (by decide) ?_
  obtain ⟨hc2, h⟩ := sm_gd_e h
  refine sm_iald (n := (sm_kd (R a0 0)).2) (q := 6) dX1_most_5 rfl (Prod.ext hc2.1 rfl) hc2.2 ?_
  obtain rfl := Option.some.inj h
  exact sm_iret dX1_most_6 rfl
theorem e_X1_most {l : Launch} {N : Nat} {R : Nat → Nat → Nat} {a0 : Nat} {I : (Nat → Nat → Int32)} {y : (Int32 × (Nat → Nat → Int32))} (h : f_X1_most N R a0 I = some y) : sm_E l 0 mX1_most [.inr (.inl a0)] (I, R) (.inl (some (.inl y.1))) (y.2, R) :=
  sm_meth (by decide) (Nat.le_of_ble_eq_true rfl) (w_X1_most N R a0 I y h)
def f_X1_firstOfMost_23 (N : Nat) (R : Nat → Nat → Nat) (k_3 : Nat → Int32 → Int32 → Int32 → Int32 → (Nat → Nat → Int32) → Option (Int32 × (Nat → Nat → Int32))) : Nat → Int32 → Int32 → Int32 → Int32 → Int32 → (Nat → Nat → Int32) → Option (Int32 × (Nat → Nat → Int32)) := fun a0 a1 a2 a3 a4 b0 I =>
  if b0 = 0 then (
    k_3 a0 a1 a2 a3 (a4 + 1) I)
  else (
    sm_gd (sm_kd a0 = (1, 2)) <|
    (f_X1_mostWith N R a0 a2 a4 a3 I).bind fun p3 =>
    sm_gd ((sm_kd (R a0 0)).1 = 13 ∧ ¬ (((a2 * (64 : Int32)) + a3) < 0 ∨ (sm_kd (R a0 0)).2 ≤ (((a2 * (64 : Int32)) + a3)).toNatClampNeg)) <|
    if p3.1 = (p3.2 (R a0 0) (((a2 * (64 : Int32)) + a3)).toNatClampNeg) then (
      some (a4, p3.2))
    else (
      k_3 a0 a1 a2 a3 (a4 + 1) p3.2))
def f_X1_firstOfMost_3 (N : Nat) (R : Nat → Nat → Nat) : Nat → Nat → Int32 → Int32 → Int32 → Int32 → (Nat → Nat → Int32) → Option (Int32 × (Nat → Nat → Int32))
  | 0, _, _, _, _, _, _ => none
  | n + 1, a0, a1, a2, a3, a4, I =>
    if a1 ≤ a4 then (
      some ((-1 : Int32), I))
    else (
      if ((a3 >>> (a4 &&& 31)) &&& (1 : Int32)) = 0 then (
        f_X1_firstOfMost_23 N R (fun z0 z1 z2 z3 z4 J => f_X1_firstOfMost_3 N R n z0 z1 z2 z3 z4 J) a0 a1 a2 a3 a4 (1 : Int32) I)
      else (
        f_X1_firstOfMost_23 N R (fun z0 z1 z2 z3 z4 J => f_X1_firstOfMost_3 N R n z0 z1 z2 z3 z4 J) a0 a1 a2 a3 a4 (0 : Int32) I))
def f_X1_firstOfMost (N : Nat) (R : Nat → Nat → Nat) : Nat → Int32 → Int32 → Int32 → (Nat → Nat → Int32) → Option (Int32 × (Nat → Nat → Int32)) := fun a0 a1 a2 a3 I =>
  f_X1_firstOfMost_3 N R N a0 a1 a2 a3 (0 : Int32) I
set_option maxHeartbeats 4000000 in
set_option maxRecDepth 100000 in
theorem w_X1_firstOfMost_23 {l : Launch} (N : Nat) (R : Nat → Nat → Nat) (k_3 : Nat → Int32 → Int32 → Int32 → Int32 → (Nat → Nat → Int32) → Option (Int32 × (Nat → Nat → Int32))) (hk_3 : ∀ (a0 : Nat) (a1 : Int32) (a2 : Int32) (a3 : Int32) (a4 : Int32) (I : (Nat → Nat → Int32)) (y : (Int32 × (Nat → Nat → Int32))), k_3 a0 a1 a2 a3 a4 I = some y → sm_W l 1 mX1_firstOfMost 3 [(0, .inr (.inl a0)), (1, .inl a1), (2, .inl a2), (3, .inl a3), (4, .inl a4)] [] (I, R) (.inl (some (.inl y.1))) (y.2, R)) : ∀ (a0 : Nat) (a1 : Int32) (a2 : Int32) (a3 : Int32) (a4 : Int32) (b0 : Int32) (I : (Nat → Nat → Int32)) (y : (Int32 × (Nat → Nat → Int32))), f_X1_firstOfMost_23 N R k_3 a0 a1 a2 a3 a4 b0 I = some y → sm_W l 1 mX1_firstOfMost 23 [(0, .inr (.inl a0)), (1, .inl a1), (2, .inl a2), (3, .inl a3), (4, .inl a4)] [.inl b0] (I, R) (.inl (some (.inl y.1))) (y.2, R) := by
  intro a0 a1 a2 a3 a4 b0 I y h
  unfold f_X1_firstOfMost_23 at h
  refine sm_istore (L' := [(5, .inl b0), (0, .inr (.inl a0)), (1, .inl a1), (2, .inl a2), (3, .inl a3), (4, .inl a4)]) (q := 25) dX1_firstOfMost_23 rfl (by decide) rfl ?_
  refine sm_iload (q := 27) dX1_firstOfMost_25 rfl 0 rfl ?_
  rcases sm_if_e h with ⟨hb1, h⟩ | ⟨hb1, h⟩
  · refine sm_if_eq (tgt := 55) (q := 30) dX1_firstOfMost_27 (by decide) rfl (fun _ => ?_) (fun hn => absurd hb1 hn)
    refine sm_iinc (v := (a4 + 1)) (L' := [(4, .inl (a4 + 1)), (5, .inl b0), (0, .inr (.inl a0)), (1, .inl a1), (2, .inl a2), (3, .inl a3)]) (q := 58) dX1_firstOfMost_55 rfl 5 rfl rfl (by decide) rfl ?_
    refine sm_goto (q := 3) dX1_firstOfMost_58 (by decide) ?_
    refine sm_pick [2, 3, 4, 5, 0] rfl ?_
    exact hk_3 _ _ _ _ _ _ _ h
  · refine sm_if_eq (tgt := 55) (q := 30) dX1_firstOfMost_27 (by decide) rfl (fun ht => absurd ht hb1) (fun _ => ?_)
    refine sm_aload_n (q := 31) dX1_firstOfMost_30 rfl rfl 1 rfl ?_
    refine sm_iload_n (q := 32) dX1_firstOfMost_31 rfl rfl 3 rfl ?_
    refine sm_iload (q := 34) dX1_firstOfMost_32 rfl 5 rfl ?_
    refine sm_iload_n (q := 35) dX1_firstOfMost_34 rfl rfl 4 rfl ?_
    obtain ⟨hc2, h⟩ := sm_gd_e h
    obtain ⟨p3, hc_p3, h⟩ := sm_bd_e h
    refine sm_callVi (q := 38) (As := [.inl a2, .inl a4, .inl a3]) (S := []) (e_X1_mostWith hc_p3) mv_X1_50 hc2 rfl (by decide) (Nat.le_of_ble_eq_true rfl) dX1_firstOfMost_35 rfl ?_
    refine sm_aload_n (q := 39) dX1_firstOfMost_38 rfl rfl 1 rfl ?_
    refine sm_getR (r := R a0 0) (q := 42) dX1_firstOfMost_39 rfl fk_X1_11 hc2 (by decide) (by decide) rfl ?_
    refine sm_iload_n (q := 43) dX1_firstOfMost_42 rfl rfl 3 rfl ?_
    refine sm_bipush (v := 64) (q := 45) dX1_firstOfMost_43 rfl (by decide) ?_
    refine sm_imul (q := 46) dX1_firstOfMost_45 rfl ?_
    refine sm_iload_n (q := 47) dX1_firstOfMost_46 rfl rfl 4 rfl ?_
    refine sm_iadd (q := 48) dX1_firstOfMost_47 rfl ?_
    obtain ⟨hc4, h⟩ := sm_gd_e h
    refine sm_iald (n := (sm_kd (R a0 0)).2) (q := 49) dX1_firstOfMost_48 rfl (Prod.ext hc4.1 rfl) hc4.2 ?_
    rcases sm_if_e h with ⟨hb5, h⟩ | ⟨hb5, h⟩
    · refine sm_icmp_ne (tgt := 55) (q := 52) dX1_firstOfMost_49 (by decide) rfl (fun hn => absurd hb5 hn) (fun _ => ?_)
      refine sm_iload (q := 54) dX1_firstOfMost_52 rfl 5 rfl ?_
      obtain rfl := Option.some.inj h
      exact sm_iret dX1_firstOfMost_54 rfl
    · refine sm_icmp_ne (tgt := 55) (q := 52) dX1_firstOfMost_49 (by decide) rfl (fun _ => ?_) (fun he => absurd he hb5)
      refine sm_iinc (v := (a4 + 1)) (L' := [(4, .inl (a4 + 1)), (5, .inl b0), (0, .inr (.inl a0)), (1, .inl a1), (2, .inl a2), (3, .inl a3)]) (q := 58) dX1_firstOfMost_55 rfl 5 rfl rfl (by decide) rfl ?_
      refine sm_goto (q := 3) dX1_firstOfMost_58 (by decide) ?_
      refine sm_pick [2, 3, 4, 5, 0] rfl ?_
      exact hk_3 _ _ _ _ _ _ _ h
set_option maxHeartbeats 4000000 in
set_option maxRecDepth 100000 in
theorem w_X1_firstOfMost_3 {l : Launch} (N : Nat) (R : Nat → Nat → Nat) : ∀ (n : Nat) (a0 : Nat) (a1 : Int32) (a2 : Int32) (a3 : Int32) (a4 : Int32) (I : (Nat → Nat → Int32)) (y : (Int32 × (Nat → Nat → Int32))), f_X1_firstOfMost_3 N R n a0 a1 a2 a3 a4 I = some y → sm_W l 1 mX1_firstOfMost 3 [(0, .inr (.inl a0)), (1, .inl a1), (2, .inl a2), (3, .inl a3), (4, .inl a4)] [] (I, R) (.inl (some (.inl y.1))) (y.2, R) := by
  intro n
  induction n with
  | zero => intro a0 a1 a2 a3 a4 I y h; cases h
  | succ n ih =>
    intro a0 a1 a2 a3 a4 I y h
    rw [f_X1_firstOfMost_3] at h
    refine sm_iload (q := 5) dX1_firstOfMost_3 rfl 4 rfl ?_
    refine sm_iload_n (q := 6) dX1_firstOfMost_5 rfl rfl 1 rfl ?_
    rcases sm_if_e h with ⟨hb1, h⟩ | ⟨hb1, h⟩
    · refine sm_icmp_ge (tgt := 61) (q := 9) dX1_firstOfMost_6 (by decide) rfl (fun _ => ?_) (fun hn => absurd hb1 hn)
      refine sm_iconst (v := -1) (q := 62) dX1_firstOfMost_61 rfl (by decide) ?_
      obtain rfl := Option.some.inj h
      exact sm_iret dX1_firstOfMost_62 rfl
    · refine sm_icmp_ge (tgt := 61) (q := 9) dX1_firstOfMost_6 (by decide) rfl (fun ht => absurd ht hb1) (fun _ => ?_)
      refine sm_iload_n (q := 10) dX1_firstOfMost_9 rfl rfl 3 rfl ?_
      refine sm_iload (q := 12) dX1_firstOfMost_10 rfl 4 rfl ?_
      refine sm_ishr (q := 13) dX1_firstOfMost_12 rfl ?_
      refine sm_iconst (v := 1) (q := 14) dX1_firstOfMost_13 rfl (by decide) ?_
      refine sm_iand (q := 15) dX1_firstOfMost_14 rfl ?_
      rcases sm_if_e h with ⟨hb2, h⟩ | ⟨hb2, h⟩
      · refine sm_if_ne (tgt := 22) (q := 18) dX1_firstOfMost_15 (by decide) rfl (fun hn => absurd hb2 hn) (fun _ => ?_)
        refine sm_iconst (v := 1) (q := 19) dX1_firstOfMost_18 rfl (by decide) ?_
        refine sm_goto (q := 23) dX1_firstOfMost_19 (by decide) ?_
        refine sm_pick [0, 1, 2, 3, 4] rfl ?_
        exact w_X1_firstOfMost_23 N R (fun z0 z1 z2 z3 z4 J => f_X1_firstOfMost_3 N R n z0 z1 z2 z3 z4 J) (fun z0 z1 z2 z3 z4 J y h => ih z0 z1 z2 z3 z4 J y h) _ _ _ _ _ _ _ _ h
      · refine sm_if_ne (tgt := 22) (q := 18) dX1_firstOfMost_15 (by decide) rfl (fun _ => ?_) (fun he => absurd he hb2)
        refine sm_iconst (v := 0) (q := 23) dX1_firstOfMost_22 rfl (by decide) ?_
        refine sm_pick [0, 1, 2, 3, 4] rfl ?_
        exact w_X1_firstOfMost_23 N R (fun z0 z1 z2 z3 z4 J => f_X1_firstOfMost_3 N R n z0 z1 z2 z3 z4 J) (fun z0 z1 z2 z3 z4 J y h => ih z0 z1 z2 z3 z4 J y h) _ _ _ _ _ _ _ _ h
set_option maxHeartbeats 4000000 in
set_option maxRecDepth 100000 in
theorem w_X1_firstOfMost {l : Launch} (N : Nat) (R : Nat → Nat → Nat) : ∀ (a0 : Nat) (a1 : Int32) (a2 : Int32) (a3 : Int32) (I : (Nat → Nat → Int32)) (y : (Int32 × (Nat → Nat → Int32))), f_X1_firstOfMost N R a0 a1 a2 a3 I = some y → sm_W l 1 mX1_firstOfMost 0 [(0, .inr (.inl a0)), (1, .inl a1), (2, .inl a2), (3, .inl a3)] [] (I, R) (.inl (some (.inl y.1))) (y.2, R) := by
  intro a0 a1 a2 a3 I y h
  unfold f_X1_firstOfMost at h
  refine sm_iconst (v := 0) (q := 1) dX1_firstOfMost_0 rfl (by decide) ?_
  refine sm_istore (L' := [(4, .inl (0 : Int32)), (0, .inr (.inl a0)), (1, .inl a1), (2, .inl a2), (3, .inl a3)]) (q := 3) dX1_firstOfMost_1 rfl (by decide) rfl ?_
  refine sm_pick [1, 2, 3, 4, 0] rfl ?_
  exact w_X1_firstOfMost_3 N R N _ _ _ _ _ _ _ h
theorem e_X1_firstOfMost {l : Launch} {N : Nat} {R : Nat → Nat → Nat} {a0 : Nat} {a1 : Int32} {a2 : Int32} {a3 : Int32} {I : (Nat → Nat → Int32)} {y : (Int32 × (Nat → Nat → Int32))} (h : f_X1_firstOfMost N R a0 a1 a2 a3 I = some y) : sm_E l 1 mX1_firstOfMost [.inr (.inl a0), .inl a1, .inl a2, .inl a3] (I, R) (.inl (some (.inl y.1))) (y.2, R) :=
  sm_meth (by decide) (Nat.le_of_ble_eq_true rfl) (w_X1_firstOfMost N R a0 a1 a2 a3 I y h)
def f_X1_pieceFor_8 (N : Nat) (R : Nat → Nat → Nat) : Nat → Nat → Nat → Int32 → Int32 → Int32 → Int32 → (Nat → Nat → Int32) → Option (Int32 × (Nat → Nat → Int32))
  | 0, _, _, _, _, _, _, _ => none
  | n + 1, a0, a1, a2, a3, a4, a5, I =>
    if a2 < a5 then (
      some (a4, I))
    else (
      if (7 : Int32) ≤ a5 then (
        some (a4, I))
      else (
        sm_gd (sm_kd a1 = (7, 9)) <|
        sm_gd (sm_kd a0 = (1, 2)) <|
        (f_X1_firstOfMost N R a0 (I a1 3) a5 a3 I).bind fun p5 =>
        if p5.1 = (-1 : Int32) then (
          f_X1_pieceFor_8 N R n a0 a1 a2 a3 p5.1 (a5 + 1) p5.2)
        else (
          f_X1_pieceFor_8 N R n a0 a1 a2 (a3 ||| ((1 : Int32) <<< (p5.1 &&& 31))) p5.1 (a5 + 1) p5.2)))
def f_X1_pieceFor (N : Nat) (R : Nat → Nat → Nat) : Nat → Nat → Int32 → (Nat → Nat → Int32) → Option (Int32 × (Nat → Nat → Int32)) := fun a0 a1 a2 I =>
  f_X1_pieceFor_8 N R N a0 a1 a2 (0 : Int32) (-1 : Int32) (0 : Int32) I
set_option maxHeartbeats 4000000 in
set_option maxRecDepth 100000 in
theorem w_X1_pieceFor_8 {l : Launch} (N : Nat) (R : Nat → Nat → Nat) : ∀ (n : Nat) (a0 : Nat) (a1 : Nat) (a2 : Int32) (a3 : Int32) (a4 : Int32) (a5 : Int32) (I : (Nat → Nat → Int32)) (y : (Int32 × (Nat → Nat → Int32))), f_X1_pieceFor_8 N R n a0 a1 a2 a3 a4 a5 I = some y → sm_W l 2 mX1_pieceFor 8 [(0, .inr (.inl a0)), (1, .inr (.inl a1)), (2, .inl a2), (3, .inl a3), (4, .inl a4), (5, .inl a5)] [] (I, R) (.inl (some (.inl y.1))) (y.2, R) := by
  intro n
  induction n with
  | zero => intro a0 a1 a2 a3 a4 a5 I y h; cases h
  | succ n ih =>
    intro a0 a1 a2 a3 a4 a5 I y h
    rw [f_X1_pieceFor_8] at h
    refine sm_iload (q := 10) dX1_pieceFor_8 rfl 5 rfl ?_
    refine sm_iload_n (q := 11) dX1_pieceFor_10 rfl rfl 2 rfl ?_
    rcases sm_if_e h with ⟨hb1, h⟩ | ⟨hb1, h⟩
    · refine sm_icmp_gt (tgt := 57) (q := 14) dX1_pieceFor_11 (by decide) rfl (fun _ => ?_) (fun hn => absurd hb1 hn)
      refine sm_iload (q := 59) dX1_pieceFor_57 rfl 4 rfl ?_
      obtain rfl := Option.some.inj h
      exact sm_iret dX1_pieceFor_59 rfl
    · refine sm_icmp_gt (tgt := 57) (q := 14) dX1_pieceFor_11 (by decide) rfl (fun ht => absurd ht hb1) (fun _ => ?_)
      refine sm_iload (q := 16) dX1_pieceFor_14 rfl 5 rfl ?_
      refine sm_bipush (v := 7) (q := 18) dX1_pieceFor_16 rfl (by decide) ?_
      rcases sm_if_e h with ⟨hb2, h⟩ | ⟨hb2, h⟩
      · refine sm_icmp_ge (tgt := 57) (q := 21) dX1_pieceFor_18 (by decide) rfl (fun _ => ?_) (fun hn => absurd hb2 hn)
        refine sm_iload (q := 59) dX1_pieceFor_57 rfl 4 rfl ?_
        obtain rfl := Option.some.inj h
        exact sm_iret dX1_pieceFor_59 rfl
      · refine sm_icmp_ge (tgt := 57) (q := 21) dX1_pieceFor_18 (by decide) rfl (fun ht => absurd ht hb2) (fun _ => ?_)
        refine sm_aload_n (q := 22) dX1_pieceFor_21 rfl rfl 0 rfl ?_
        refine sm_aload_n (q := 23) dX1_pieceFor_22 rfl rfl 1 rfl ?_
        obtain ⟨hc3, h⟩ := sm_gd_e h
        refine sm_getI (q := 26) dX1_pieceFor_23 rfl fk_X1_30 hc3 (by decide) (by decide) ?_
        refine sm_iload (q := 28) dX1_pieceFor_26 rfl 5 rfl ?_
        refine sm_iload_n (q := 29) dX1_pieceFor_28 rfl rfl 3 rfl ?_
        obtain ⟨hc4, h⟩ := sm_gd_e h
        obtain ⟨p5, hc_p5, h⟩ := sm_bd_e h
        refine sm_callVi (q := 32) (As := [.inl (I a1 3), .inl a5, .inl a3]) (S := []) (e_X1_firstOfMost hc_p5) mv_X1_58 hc4 rfl (by decide) (Nat.le_of_ble_eq_true rfl) dX1_pieceFor_29 rfl ?_
        refine sm_istore (L' := [(4, .inl p5.1), (0, .inr (.inl a0)), (1, .inr (.inl a1)), (2, .inl a2), (3, .inl a3), (5, .inl a5)]) (q := 34) dX1_pieceFor_32 rfl (by decide) rfl ?_
        refine sm_iload (q := 36) dX1_pieceFor_34 rfl 0 rfl ?_
        refine sm_iconst (v := -1) (q := 37) dX1_pieceFor_36 rfl (by decide) ?_
        rcases sm_if_e h with ⟨hb6, h⟩ | ⟨hb6, h⟩
        · refine sm_icmp_ne (tgt := 44) (q := 40) dX1_pieceFor_37 (by decide) rfl (fun hn => absurd hb6 hn) (fun _ => ?_)
          refine sm_iload_n (q := 41) dX1_pieceFor_40 rfl rfl 4 rfl ?_
          refine sm_goto (q := 50) dX1_pieceFor_41 (by decide) ?_
          refine sm_istore_n (L' := [(3, .inl a3), (4, .inl p5.1), (0, .inr (.inl a0)), (1, .inr (.inl a1)), (2, .inl a2), (5, .inl a5)]) (q := 51) dX1_pieceFor_50 rfl rfl (by decide) rfl ?_
          refine sm_iinc (v := (a5 + 1)) (L' := [(5, .inl (a5 + 1)), (3, .inl a3), (4, .inl p5.1), (0, .inr (.inl a0)), (1, .inr (.inl a1)), (2, .inl a2)]) (q := 54) dX1_pieceFor_51 rfl 5 rfl rfl (by decide) rfl ?_
          refine sm_goto (q := 8) dX1_pieceFor_54 (by decide) ?_
          refine sm_pick [3, 4, 5, 1, 2, 0] rfl ?_
          exact ih _ _ _ _ _ _ _ _ h
        · refine sm_icmp_ne (tgt := 44) (q := 40) dX1_pieceFor_37 (by decide) rfl (fun _ => ?_) (fun he => absurd he hb6)
          refine sm_iload_n (q := 45) dX1_pieceFor_44 rfl rfl 4 rfl ?_
          refine sm_iconst (v := 1) (q := 46) dX1_pieceFor_45 rfl (by decide) ?_
          refine sm_iload (q := 48) dX1_pieceFor_46 rfl 0 rfl ?_
          refine sm_ishl (q := 49) dX1_pieceFor_48 rfl ?_
          refine sm_ior (q := 50) dX1_pieceFor_49 rfl ?_
          refine sm_istore_n (L' := [(3, .inl (a3 ||| ((1 : Int32) <<< (p5.1 &&& 31)))), (4, .inl p5.1), (0, .inr (.inl a0)), (1, .inr (.inl a1)), (2, .inl a2), (5, .inl a5)]) (q := 51) dX1_pieceFor_50 rfl rfl (by decide) rfl ?_
          refine sm_iinc (v := (a5 + 1)) (L' := [(5, .inl (a5 + 1)), (3, .inl (a3 ||| ((1 : Int32) <<< (p5.1 &&& 31)))), (4, .inl p5.1), (0, .inr (.inl a0)), (1, .inr (.inl a1)), (2, .inl a2)]) (q := 54) dX1_pieceFor_51 rfl 5 rfl rfl (by decide) rfl ?_
          refine sm_goto (q := 8) dX1_pieceFor_54 (by decide) ?_
          refine sm_pick [3, 4, 5, 1, 2, 0] rfl ?_
          exact ih _ _ _ _ _ _ _ _ h
set_option maxHeartbeats 4000000 in
set_option maxRecDepth 100000 in
theorem w_X1_pieceFor {l : Launch} (N : Nat) (R : Nat → Nat → Nat) : ∀ (a0 : Nat) (a1 : Nat) (a2 : Int32) (I : (Nat → Nat → Int32)) (y : (Int32 × (Nat → Nat → Int32))), f_X1_pieceFor N R a0 a1 a2 I = some y → sm_W l 2 mX1_pieceFor 0 [(0, .inr (.inl a0)), (1, .inr (.inl a1)), (2, .inl a2)] [] (I, R) (.inl (some (.inl y.1))) (y.2, R) := by
  intro a0 a1 a2 I y h
  unfold f_X1_pieceFor at h
  refine sm_iconst (v := 0) (q := 1) dX1_pieceFor_0 rfl (by decide) ?_
  refine sm_istore_n (L' := [(3, .inl (0 : Int32)), (0, .inr (.inl a0)), (1, .inr (.inl a1)), (2, .inl a2)]) (q := 2) dX1_pieceFor_1 rfl rfl (by decide) rfl ?_
  refine sm_iconst (v := -1) (q := 3) dX1_pieceFor_2 rfl (by decide) ?_
  refine sm_istore (L' := [(4, .inl (-1 : Int32)), (3, .inl (0 : Int32)), (0, .inr (.inl a0)), (1, .inr (.inl a1)), (2, .inl a2)]) (q := 5) dX1_pieceFor_3 rfl (by decide) rfl ?_
  refine sm_iconst (v := 0) (q := 6) dX1_pieceFor_5 rfl (by decide) ?_
  refine sm_istore (L' := [(5, .inl (0 : Int32)), (4, .inl (-1 : Int32)), (3, .inl (0 : Int32)), (0, .inr (.inl a0)), (1, .inr (.inl a1)), (2, .inl a2)]) (q := 8) dX1_pieceFor_6 rfl (by decide) rfl ?_
  refine sm_pick [3, 4, 5, 2, 1, 0] rfl ?_
  exact w_X1_pieceFor_8 N R N _ _ _ _ _ _ _ _ h
theorem e_X1_pieceFor {l : Launch} {N : Nat} {R : Nat → Nat → Nat} {a0 : Nat} {a1 : Nat} {a2 : Int32} {I : (Nat → Nat → Int32)} {y : (Int32 × (Nat → Nat → Int32))} (h : f_X1_pieceFor N R a0 a1 a2 I = some y) : sm_E l 2 mX1_pieceFor [.inr (.inl a0), .inr (.inl a1), .inl a2] (I, R) (.inl (some (.inl y.1))) (y.2, R) :=
  sm_meth (by decide) (Nat.le_of_ble_eq_true rfl) (w_X1_pieceFor N R a0 a1 a2 I y h)
def f_X7_nextHard (N : Nat) (R : Nat → Nat → Nat) : Nat → Nat → (Nat → Nat → Int32) → Option (Int32 × (Nat → Nat → Int32)) := fun a0 a1 I =>
  sm_gd (sm_kd a1 = (4, 6)) <|
  sm_gd (sm_kd a0 = (7, 9)) <|
  (f_X7_hardOf N R a0 (I a1 2) (I a1 3) I).bind fun p3 =>
  some (p3.1, p3.2)
set_option maxHeartbeats 4000000 in
set_option maxRecDepth 100000 in
theorem w_X7_nextHard {l : Launch} (N : Nat) (R : Nat → Nat → Nat) : ∀ (a0 : Nat) (a1 : Nat) (I : (Nat → Nat → Int32)) (y : (Int32 × (Nat → Nat → Int32))), f_X7_nextHard N R a0 a1 I = some y → sm_W l 1 mX7_nextHard 0 [(0, .inr (.inl a0)), (1, .inr (.inl a1))] [] (I, R) (.inl (some (.inl y.1))) (y.2, R) := by
  intro a0 a1 I y h
  unfold f_X7_nextHard at h
  refine sm_aload_n (q := 1) dX7_nextHard_0 rfl rfl 0 rfl ?_
  refine sm_aload_n (q := 2) dX7_nextHard_1 rfl rfl 1 rfl ?_
  obtain ⟨hc1, h⟩ := sm_gd_e h
  refine sm_getI (q := 5) dX7_nextHard_2 rfl fk_X7_75 hc1 (by decide) (by decide) ?_
  refine sm_aload_n (q := 6) dX7_nextHard_5 rfl rfl 1 rfl ?_
  refine sm_getI (q := 9) dX7_nextHard_6 rfl fk_X7_71 hc1 (by decide) (by decide) ?_
  obtain ⟨hc2, h⟩ := sm_gd_e h
  obtain ⟨p3, hc_p3, h⟩ := sm_bd_e h
  refine sm_callVi (q := 12) (As := [.inl (I a1 2), .inl (I a1 3)]) (S := []) (e_X7_hardOf hc_p3) mv_X7_56 hc2 rfl (by decide) (Nat.le_of_ble_eq_true rfl) dX7_nextHard_9 rfl ?_
  obtain rfl := Option.some.inj h
  exact sm_iret dX7_nextHard_12 rfl
theorem e_X7_nextHard {l : Launch} {N : Nat} {R : Nat → Nat → Nat} {a0 : Nat} {a1 : Nat} {I : (Nat → Nat → Int32)} {y : (Int32 × (Nat → Nat → Int32))} (h : f_X7_nextHard N R a0 a1 I = some y) : sm_E l 1 mX7_nextHard [.inr (.inl a0), .inr (.inl a1)] (I, R) (.inl (some (.inl y.1))) (y.2, R) :=
  sm_meth (by decide) (Nat.le_of_ble_eq_true rfl) (w_X7_nextHard N R a0 a1 I y h)
def f_X7_practise_118 (N : Nat) (R : Nat → Nat → Nat) : Nat → Int32 → (Nat → Nat → Int32) → Option (Unit × (Nat → Nat → Int32)) := fun a1 a2 I =>
  sm_gd (sm_kd a1 = (4, 6)) <|
  if (I a1 5) = (1 : Int32) then (
    sm_lt (sm_up I a1 (sm_up (I a1) 0 (sm_mn (99 : Int32) ((I a1 0) + (a2 + a2))))) fun I3 =>
    some ((), I3))
  else (
    sm_lt (sm_up I a1 (sm_up (I a1) 0 (sm_mn (99 : Int32) ((I a1 0) + a2)))) fun I4 =>
    some ((), I4))
def f_X7_practise (N : Nat) (R : Nat → Nat → Nat) : Nat → Nat → (Nat → Nat → Int32) → Option (Unit × (Nat → Nat → Int32)) := fun a0 a1 I =>
  sm_gd (sm_kd a1 = (4, 6)) <|
  if (I a1 0) < (99 : Int32) then (
    sm_gd (sm_kd a0 = (7, 9)) <|
    sm_gd (sm_kd (R a0 4) = (6, 4)) <|
    if (I (R a0 4) 2) = 0 then (
      f_X7_practise_118 N R a1 ((5 : Int32) - ((I a1 1) / (2 : Int32))) I)
    else (
      sm_gd ((sm_kd (R a0 6)).1 = 13 ∧ ¬ ((0 : Int32) < 0 ∨ (sm_kd (R a0 6)).2 ≤ ((0 : Int32)).toNatClampNeg)) <|
      sm_lt (sm_up I (R a0 6) (sm_up (I (R a0 6)) ((0 : Int32)).toNatClampNeg (I a1 0))) fun I7 =>
      sm_gd ((sm_kd (R a0 6)).1 = 13 ∧ ¬ ((1 : Int32) < 0 ∨ (sm_kd (R a0 6)).2 ≤ ((1 : Int32)).toNatClampNeg)) <|
      sm_lt (sm_up I7 (R a0 6) (sm_up (I7 (R a0 6)) ((1 : Int32)).toNatClampNeg (I7 a1 1))) fun I9 =>
      (f_X7_nextHard N R a0 a1 I9).bind fun p10 =>
      sm_gd ((sm_kd (R a0 6)).1 = 13 ∧ ¬ ((2 : Int32) < 0 ∨ (sm_kd (R a0 6)).2 ≤ ((2 : Int32)).toNatClampNeg)) <|
      sm_lt (sm_up p10.2 (R a0 6) (sm_up (p10.2 (R a0 6)) ((2 : Int32)).toNatClampNeg p10.1)) fun I12 =>
      sm_gd ((sm_kd (R a0 6)).1 = 13 ∧ ¬ ((3 : Int32) < 0 ∨ (sm_kd (R a0 6)).2 ≤ ((3 : Int32)).toNatClampNeg)) <|
      sm_lt (sm_up I12 (R a0 6) (sm_up (I12 (R a0 6)) ((3 : Int32)).toNatClampNeg (I12 a1 3))) fun I14 =>
      (f_X7_barsOf N R a0 (I14 a1 2) I14).bind fun p15 =>
      sm_gd ((sm_kd (R a0 6)).1 = 13 ∧ ¬ ((4 : Int32) < 0 ∨ (sm_kd (R a0 6)).2 ≤ ((4 : Int32)).toNatClampNeg)) <|
      sm_lt (sm_up p15.2 (R a0 6) (sm_up (p15.2 (R a0 6)) ((4 : Int32)).toNatClampNeg p15.1)) fun I17 =>
      (f_J6_bitCount_0f7a4 N R (I17 a1 4) I17).bind fun p18 =>
      sm_gd ((sm_kd (R a0 6)).1 = 13 ∧ ¬ ((5 : Int32) < 0 ∨ (sm_kd (R a0 6)).2 ≤ ((5 : Int32)).toNatClampNeg)) <|
      sm_lt (sm_up p18.2 (R a0 6) (sm_up (p18.2 (R a0 6)) ((5 : Int32)).toNatClampNeg p18.1)) fun I20 =>
      (f_X6_value N R (R a0 4) (R a0 6) I20).bind fun p21 =>
      f_X7_practise_118 N R a1 (sm_mx (0 : Int32) (sm_mn (20 : Int32) p21.1)) p21.2))
  else (
    some ((), I))
set_option maxHeartbeats 4000000 in
set_option maxRecDepth 100000 in
theorem w_X7_practise_118 {l : Launch} (N : Nat) (R : Nat → Nat → Nat) : ∀ (a1 : Nat) (a2 : Int32) (I : (Nat → Nat → Int32)) (y : (Unit × (Nat → Nat → Int32))), f_X7_practise_118 N R a1 a2 I = some y → sm_W l 2 mX7_practise 118 [(1, .inr (.inl a1)), (2, .inl a2)] [] (I, R) (.inl none) (y.2, R) := by
  intro a1 a2 I y h
  unfold f_X7_practise_118 at h
  refine sm_aload_n (q := 119) dX7_practise_118 rfl rfl 0 rfl ?_
  obtain ⟨hc1, h⟩ := sm_gd_e h
  refine sm_getI (q := 122) dX7_practise_119 rfl fk_X7_107 hc1 (by decide) (by decide) ?_
  refine sm_iconst (v := 1) (q := 123) dX7_practise_122 rfl (by decide) ?_
  rcases sm_if_e h with ⟨hb2, h⟩ | ⟨hb2, h⟩
  · refine sm_icmp_ne (tgt := 132) (q := 126) dX7_practise_123 (by decide) rfl (fun hn => absurd hb2 hn) (fun _ => ?_)
    refine sm_iload_n (q := 127) dX7_practise_126 rfl rfl 1 rfl ?_
    refine sm_iload_n (q := 128) dX7_practise_127 rfl rfl 1 rfl ?_
    refine sm_iadd (q := 129) dX7_practise_128 rfl ?_
    refine sm_goto (q := 133) dX7_practise_129 (by decide) ?_
    refine sm_istore_n (L' := [(3, .inl (a2 + a2)), (1, .inr (.inl a1)), (2, .inl a2)]) (q := 134) dX7_practise_133 rfl rfl (by decide) rfl ?_
    refine sm_aload_n (q := 135) dX7_practise_134 rfl rfl 1 rfl ?_
    refine sm_bipush (v := 99) (q := 137) dX7_practise_135 rfl (by decide) ?_
    refine sm_aload_n (q := 138) dX7_practise_137 rfl rfl 1 rfl ?_
    refine sm_getI (q := 141) dX7_practise_138 rfl fk_X7_78 hc1 (by decide) (by decide) ?_
    refine sm_iload_n (q := 142) dX7_practise_141 rfl rfl 0 rfl ?_
    refine sm_iadd (q := 143) dX7_practise_142 rfl ?_
    refine sm_mmn (q := 146) dX7_practise_143 rfl mm_X7_104 (Nat.le_of_ble_eq_true rfl) ?_
    obtain ⟨I3, hI3, h⟩ := sm_lt_e h
    refine sm_putI (q := 149) dX7_practise_146 rfl fk_X7_78 hc1 (by decide) (by decide) ?_
    refine sm_memI hI3 ?_
    obtain rfl := Option.some.inj h
    exact sm_vret dX7_practise_149 rfl
  · refine sm_icmp_ne (tgt := 132) (q := 126) dX7_practise_123 (by decide) rfl (fun _ => ?_) (fun he => absurd he hb2)
    refine sm_iload_n (q := 133) dX7_practise_132 rfl rfl 1 rfl ?_
    refine sm_istore_n (L' := [(3, .inl a2), (1, .inr (.inl a1)), (2, .inl a2)]) (q := 134) dX7_practise_133 rfl rfl (by decide) rfl ?_
    refine sm_aload_n (q := 135) dX7_practise_134 rfl rfl 1 rfl ?_
    refine sm_bipush (v := 99) (q := 137) dX7_practise_135 rfl (by decide) ?_
    refine sm_aload_n (q := 138) dX7_practise_137 rfl rfl 1 rfl ?_
    refine sm_getI (q := 141) dX7_practise_138 rfl fk_X7_78 hc1 (by decide) (by decide) ?_
    refine sm_iload_n (q := 142) dX7_practise_141 rfl rfl 0 rfl ?_
    refine sm_iadd (q := 143) dX7_practise_142 rfl ?_
    refine sm_mmn (q := 146) dX7_practise_143 rfl mm_X7_104 (Nat.le_of_ble_eq_true rfl) ?_
    obtain ⟨I4, hI4, h⟩ := sm_lt_e h
    refine sm_putI (q := 149) dX7_practise_146 rfl fk_X7_78 hc1 (by decide) (by decide) ?_
    refine sm_memI hI4 ?_
    obtain rfl := Option.some.inj h
    exact sm_vret dX7_practise_149 rfl
set_option maxHeartbeats 4000000 in
set_option maxRecDepth 100000 in
theorem w_X7_practise {l : Launch} (N : Nat) (R : Nat → Nat → Nat) : ∀ (a0 : Nat) (a1 : Nat) (I : (Nat → Nat → Int32)) (y : (Unit × (Nat → Nat → Int32))), f_X7_practise N R a0 a1 I = some y → sm_W l 2 mX7_practise 0 [(0, .inr (.inl a0)), (1, .inr (.inl a1))] [] (I, R) (.inl none) (y.2, R) := by
  intro a0 a1 I y h
  unfold f_X7_practise at h
  refine sm_aload_n (q := 1) dX7_practise_0 rfl rfl 1 rfl ?_
  obtain ⟨hc1, h⟩ := sm_gd_e h
  refine sm_getI (q := 4) dX7_practise_1 rfl fk_X7_78 hc1 (by decide) (by decide) ?_
  refine sm_bipush (v := 99) (q := 6) dX7_practise_4 rfl (by decide) ?_
  rcases sm_if_e h with ⟨hb2, h⟩ | ⟨hb2, h⟩
  · refine sm_icmp_lt (tgt := 10) (q := 9) dX7_practise_6 (by decide) rfl (fun _ => ?_) (fun hn => absurd hb2 hn)
    refine sm_iconst (v := 5) (q := 11) dX7_practise_10 rfl (by decide) ?_
    refine sm_aload_n (q := 12) dX7_practise_11 rfl rfl 1 rfl ?_
    refine sm_getI (q := 15) dX7_practise_12 rfl fk_X7_81 hc1 (by decide) (by decide) ?_
    refine sm_iconst (v := 2) (q := 16) dX7_practise_15 rfl (by decide) ?_
    refine sm_idiv (q := 17) dX7_practise_16 rfl (by decide) ?_
    refine sm_isub (q := 18) dX7_practise_17 rfl ?_
    refine sm_istore_n (L' := [(2, .inl ((5 : Int32) - ((I a1 1) / (2 : Int32)))), (0, .inr (.inl a0)), (1, .inr (.inl a1))]) (q := 19) dX7_practise_18 rfl rfl (by decide) rfl ?_
    refine sm_aload_n (q := 20) dX7_practise_19 rfl rfl 1 rfl ?_
    obtain ⟨hc3, h⟩ := sm_gd_e h
    refine sm_getR (r := R a0 4) (q := 23) dX7_practise_20 rfl fk_X7_24 hc3 (by decide) (by decide) rfl ?_
    obtain ⟨hc4, h⟩ := sm_gd_e h
    refine sm_getI (q := 26) dX7_practise_23 rfl fk_X7_84 hc4 (by decide) (by decide) ?_
    rcases sm_if_e h with ⟨hb5, h⟩ | ⟨hb5, h⟩
    · refine sm_if_eq (tgt := 118) (q := 29) dX7_practise_26 (by decide) rfl (fun _ => ?_) (fun hn => absurd hb5 hn)
      refine sm_pick [2, 0] rfl ?_
      exact w_X7_practise_118 N R _ _ _ _ h
    · refine sm_if_eq (tgt := 118) (q := 29) dX7_practise_26 (by decide) rfl (fun ht => absurd ht hb5) (fun _ => ?_)
      refine sm_aload_n (q := 30) dX7_practise_29 rfl rfl 1 rfl ?_
      refine sm_getR (r := R a0 6) (q := 33) dX7_practise_30 rfl fk_X7_35 hc3 (by decide) (by decide) rfl ?_
      refine sm_iconst (v := 0) (q := 34) dX7_practise_33 rfl (by decide) ?_
      refine sm_aload_n (q := 35) dX7_practise_34 rfl rfl 2 rfl ?_
      refine sm_getI (q := 38) dX7_practise_35 rfl fk_X7_78 hc1 (by decide) (by decide) ?_
      obtain ⟨hc6, h⟩ := sm_gd_e h
      obtain ⟨I7, hI7, h⟩ := sm_lt_e h
      refine sm_iast (n := (sm_kd (R a0 6)).2) (q := 39) dX7_practise_38 rfl (Prod.ext hc6.1 rfl) hc6.2 ?_
      refine sm_memI hI7 ?_
      refine sm_aload_n (q := 40) dX7_practise_39 rfl rfl 1 rfl ?_
      refine sm_getR (r := R a0 6) (q := 43) dX7_practise_40 rfl fk_X7_35 hc3 (by decide) (by decide) rfl ?_
      refine sm_iconst (v := 1) (q := 44) dX7_practise_43 rfl (by decide) ?_
      refine sm_aload_n (q := 45) dX7_practise_44 rfl rfl 2 rfl ?_
      refine sm_getI (q := 48) dX7_practise_45 rfl fk_X7_81 hc1 (by decide) (by decide) ?_
      obtain ⟨hc8, h⟩ := sm_gd_e h
      obtain ⟨I9, hI9, h⟩ := sm_lt_e h
      refine sm_iast (n := (sm_kd (R a0 6)).2) (q := 49) dX7_practise_48 rfl (Prod.ext hc8.1 rfl) hc8.2 ?_
      refine sm_memI hI9 ?_
      refine sm_aload_n (q := 50) dX7_practise_49 rfl rfl 1 rfl ?_
      refine sm_getR (r := R a0 6) (q := 53) dX7_practise_50 rfl fk_X7_35 hc3 (by decide) (by decide) rfl ?_
      refine sm_iconst (v := 2) (q := 54) dX7_practise_53 rfl (by decide) ?_
      refine sm_aload_n (q := 55) dX7_practise_54 rfl rfl 1 rfl ?_
      refine sm_aload_n (q := 56) dX7_practise_55 rfl rfl 2 rfl ?_
      obtain ⟨p10, hc_p10, h⟩ := sm_bd_e h
      refine sm_callVi (q := 59) (As := [.inr (.inl a1)]) (S := [.inl (2 : Int32), .inr (.inl (R a0 6))]) (e_X7_nextHard hc_p10) mv_X7_88 hc3 rfl (by decide) (Nat.le_of_ble_eq_true rfl) dX7_practise_56 rfl ?_
      obtain ⟨hc11, h⟩ := sm_gd_e h
      obtain ⟨I12, hI12, h⟩ := sm_lt_e h
      refine sm_iast (n := (sm_kd (R a0 6)).2) (q := 60) dX7_practise_59 rfl (Prod.ext hc11.1 rfl) hc11.2 ?_
      refine sm_memI hI12 ?_
      refine sm_aload_n (q := 61) dX7_practise_60 rfl rfl 1 rfl ?_
      refine sm_getR (r := R a0 6) (q := 64) dX7_practise_61 rfl fk_X7_35 hc3 (by decide) (by decide) rfl ?_
      refine sm_iconst (v := 3) (q := 65) dX7_practise_64 rfl (by decide) ?_
      refine sm_aload_n (q := 66) dX7_practise_65 rfl rfl 2 rfl ?_
      refine sm_getI (q := 69) dX7_practise_66 rfl fk_X7_71 hc1 (by decide) (by decide) ?_
      obtain ⟨hc13, h⟩ := sm_gd_e h
      obtain ⟨I14, hI14, h⟩ := sm_lt_e h
      refine sm_iast (n := (sm_kd (R a0 6)).2) (q := 70) dX7_practise_69 rfl (Prod.ext hc13.1 rfl) hc13.2 ?_
      refine sm_memI hI14 ?_
      refine sm_aload_n (q := 71) dX7_practise_70 rfl rfl 1 rfl ?_
      refine sm_getR (r := R a0 6) (q := 74) dX7_practise_71 rfl fk_X7_35 hc3 (by decide) (by decide) rfl ?_
      refine sm_iconst (v := 4) (q := 75) dX7_practise_74 rfl (by decide) ?_
      refine sm_aload_n (q := 76) dX7_practise_75 rfl rfl 1 rfl ?_
      refine sm_aload_n (q := 77) dX7_practise_76 rfl rfl 2 rfl ?_
      refine sm_getI (q := 80) dX7_practise_77 rfl fk_X7_75 hc1 (by decide) (by decide) ?_
      obtain ⟨p15, hc_p15, h⟩ := sm_bd_e h
      refine sm_callVi (q := 83) (As := [.inl (I14 a1 2)]) (S := [.inl (4 : Int32), .inr (.inl (R a0 6))]) (e_X7_barsOf hc_p15) mv_X7_52 hc3 rfl (by decide) (Nat.le_of_ble_eq_true rfl) dX7_practise_80 rfl ?_
      obtain ⟨hc16, h⟩ := sm_gd_e h
      obtain ⟨I17, hI17, h⟩ := sm_lt_e h
      refine sm_iast (n := (sm_kd (R a0 6)).2) (q := 84) dX7_practise_83 rfl (Prod.ext hc16.1 rfl) hc16.2 ?_
      refine sm_memI hI17 ?_
      refine sm_aload_n (q := 85) dX7_practise_84 rfl rfl 1 rfl ?_
      refine sm_getR (r := R a0 6) (q := 88) dX7_practise_85 rfl fk_X7_35 hc3 (by decide) (by decide) rfl ?_
      refine sm_iconst (v := 5) (q := 89) dX7_practise_88 rfl (by decide) ?_
      refine sm_aload_n (q := 90) dX7_practise_89 rfl rfl 2 rfl ?_
      refine sm_getI (q := 93) dX7_practise_90 rfl fk_X7_92 hc1 (by decide) (by decide) ?_
      obtain ⟨p18, hc_p18, h⟩ := sm_bd_e h
      refine sm_callSi (q := 96) (As := [.inl (I17 a1 4)]) (S := [.inl (5 : Int32), .inr (.inl (R a0 6))]) (e_J6_bitCount_0f7a4 hc_p18) ms_X7_95 rfl (by decide) (Nat.le_of_ble_eq_true rfl) dX7_practise_93 rfl ?_
      obtain ⟨hc19, h⟩ := sm_gd_e h
      obtain ⟨I20, hI20, h⟩ := sm_lt_e h
      refine sm_iast (n := (sm_kd (R a0 6)).2) (q := 97) dX7_practise_96 rfl (Prod.ext hc19.1 rfl) hc19.2 ?_
      refine sm_memI hI20 ?_
      refine sm_iconst (v := 0) (q := 98) dX7_practise_97 rfl (by decide) ?_
      refine sm_bipush (v := 20) (q := 100) dX7_practise_98 rfl (by decide) ?_
      refine sm_aload_n (q := 101) dX7_practise_100 rfl rfl 1 rfl ?_
      refine sm_getR (r := R a0 4) (q := 104) dX7_practise_101 rfl fk_X7_24 hc3 (by decide) (by decide) rfl ?_
      refine sm_aload_n (q := 105) dX7_practise_104 rfl rfl 1 rfl ?_
      refine sm_getR (r := R a0 6) (q := 108) dX7_practise_105 rfl fk_X7_35 hc3 (by decide) (by decide) rfl ?_
      obtain ⟨p21, hc_p21, h⟩ := sm_bd_e h
      refine sm_callVi (q := 111) (As := [.inr (.inl (R a0 6))]) (S := [.inl (20 : Int32), .inl (0 : Int32)]) (e_X6_value hc_p21) mv_X7_100 hc4 rfl (by decide) (Nat.le_of_ble_eq_true rfl) dX7_practise_108 rfl ?_
      refine sm_mmn (q := 114) dX7_practise_111 rfl mm_X7_104 (Nat.le_of_ble_eq_true rfl) ?_
      refine sm_mmx (q := 117) dX7_practise_114 rfl mm_X7_60 (Nat.le_of_ble_eq_true rfl) ?_
      refine sm_istore_n (L' := [(2, .inl (sm_mx (0 : Int32) (sm_mn (20 : Int32) p21.1))), (0, .inr (.inl a0)), (1, .inr (.inl a1))]) (q := 118) dX7_practise_117 rfl rfl (by decide) rfl ?_
      refine sm_pick [2, 0] rfl ?_
      exact w_X7_practise_118 N R _ _ _ _ h
  · refine sm_icmp_lt (tgt := 10) (q := 9) dX7_practise_6 (by decide) rfl (fun ht => absurd ht hb2) (fun _ => ?_)
    obtain rfl := Option.some.inj h
    exact sm_vret dX7_practise_9 rfl
theorem e_X7_practise {l : Launch} {N : Nat} {R : Nat → Nat → Nat} {a0 : Nat} {a1 : Nat} {I : (Nat → Nat → Int32)} {y : (Unit × (Nat → Nat → Int32))} (h : f_X7_practise N R a0 a1 I = some y) : sm_E l 2 mX7_practise [.inr (.inl a0), .inr (.inl a1)] (I, R) (.inl none) (y.2, R) :=
  sm_meth (by decide) (Nat.le_of_ble_eq_true rfl) (w_X7_practise N R a0 a1 I y h)
def f_X7_goThrough (N : Nat) (R : Nat → Nat → Nat) : Nat → Nat → Int32 → (Nat → Nat → Int32) → Option (Unit × (Nat → Nat → Int32)) := fun a0 a1 a2 I =>
  sm_gd (sm_kd a0 = (7, 9)) <|
  (f_X7_practise N R a0 a1 I).bind fun p2 =>
  sm_gd (sm_kd a1 = (4, 6)) <|
  (f_X4_addSore N R a1 (2 : Int32) p2.2).bind fun p4 =>
  sm_lt (sm_up p4.2 a1 (sm_up (p4.2 a1) 4 ((p4.2 a1 4) ||| ((1 : Int32) <<< ((a2 - (1 : Int32)) &&& 31))))) fun I5 =>
  some ((), I5)
set_option maxHeartbeats 4000000 in
set_option maxRecDepth 100000 in
theorem w_X7_goThrough {l : Launch} (N : Nat) (R : Nat → Nat → Nat) : ∀ (a0 : Nat) (a1 : Nat) (a2 : Int32) (I : (Nat → Nat → Int32)) (y : (Unit × (Nat → Nat → Int32))), f_X7_goThrough N R a0 a1 a2 I = some y → sm_W l 3 mX7_goThrough 0 [(0, .inr (.inl a0)), (1, .inr (.inl a1)), (2, .inl a2)] [] (I, R) (.inl none) (y.2, R) := by
  intro a0 a1 a2 I y h
  unfold f_X7_goThrough at h
  refine sm_aload_n (q := 1) dX7_goThrough_0 rfl rfl 0 rfl ?_
  refine sm_aload_n (q := 2) dX7_goThrough_1 rfl rfl 1 rfl ?_
  obtain ⟨hc1, h⟩ := sm_gd_e h
  obtain ⟨p2, hc_p2, h⟩ := sm_bd_e h
  refine sm_callVv (q := 5) (As := [.inr (.inl a1)]) (S := []) (e_X7_practise hc_p2) mv_X7_121 hc1 rfl (by decide) (Nat.le_of_ble_eq_true rfl) dX7_goThrough_2 rfl ?_
  refine sm_aload_n (q := 6) dX7_goThrough_5 rfl rfl 1 rfl ?_
  refine sm_iconst (v := 2) (q := 7) dX7_goThrough_6 rfl (by decide) ?_
  obtain ⟨hc3, h⟩ := sm_gd_e h
  obtain ⟨p4, hc_p4, h⟩ := sm_bd_e h
  refine sm_callVv (q := 10) (As := [.inl (2 : Int32)]) (S := []) (e_X4_addSore hc_p4) mv_X7_128 hc3 rfl (by decide) (Nat.le_of_ble_eq_true rfl) dX7_goThrough_7 rfl ?_
  refine sm_aload_n (q := 11) dX7_goThrough_10 rfl rfl 1 rfl ?_
  refine sm_dup (q := 12) dX7_goThrough_11 rfl rfl ?_
  refine sm_getI (q := 15) dX7_goThrough_12 rfl fk_X7_92 hc3 (by decide) (by decide) ?_
  refine sm_iconst (v := 1) (q := 16) dX7_goThrough_15 rfl (by decide) ?_
  refine sm_iload_n (q := 17) dX7_goThrough_16 rfl rfl 2 rfl ?_
  refine sm_iconst (v := 1) (q := 18) dX7_goThrough_17 rfl (by decide) ?_
  refine sm_isub (q := 19) dX7_goThrough_18 rfl ?_
  refine sm_ishl (q := 20) dX7_goThrough_19 rfl ?_
  refine sm_ior (q := 21) dX7_goThrough_20 rfl ?_
  obtain ⟨I5, hI5, h⟩ := sm_lt_e h
  refine sm_putI (q := 24) dX7_goThrough_21 rfl fk_X7_92 hc3 (by decide) (by decide) ?_
  refine sm_memI hI5 ?_
  obtain rfl := Option.some.inj h
  exact sm_vret dX7_goThrough_24 rfl
theorem e_X7_goThrough {l : Launch} {N : Nat} {R : Nat → Nat → Nat} {a0 : Nat} {a1 : Nat} {a2 : Int32} {I : (Nat → Nat → Int32)} {y : (Unit × (Nat → Nat → Int32))} (h : f_X7_goThrough N R a0 a1 a2 I = some y) : sm_E l 3 mX7_goThrough [.inr (.inl a0), .inr (.inl a1), .inl a2] (I, R) (.inl none) (y.2, R) :=
  sm_meth (by decide) (Nat.le_of_ble_eq_true rfl) (w_X7_goThrough N R a0 a1 a2 I y h)
def f_X7_isStudy (N : Nat) (R : Nat → Nat → Nat) : Nat → Int32 → (Nat → Nat → Int32) → Option (Int32 × (Nat → Nat → Int32)) := fun a0 a1 I =>
  if a1 < 0 then (
    some ((0 : Int32), I))
  else (
    sm_gd (sm_kd a0 = (7, 9)) <|
    if (I a0 3) ≤ a1 then (
      some ((0 : Int32), I))
    else (
      sm_gd ((sm_kd (R a0 1)).1 = 13 ∧ ¬ (a1 < 0 ∨ (sm_kd (R a0 1)).2 ≤ (a1).toNatClampNeg)) <|
      if (I (R a0 1) (a1).toNatClampNeg) = (1 : Int32) then (
        some ((1 : Int32), I))
      else (
        some ((0 : Int32), I))))
set_option maxHeartbeats 4000000 in
set_option maxRecDepth 100000 in
theorem w_X7_isStudy {l : Launch} (N : Nat) (R : Nat → Nat → Nat) : ∀ (a0 : Nat) (a1 : Int32) (I : (Nat → Nat → Int32)) (y : (Int32 × (Nat → Nat → Int32))), f_X7_isStudy N R a0 a1 I = some y → sm_W l 0 mX7_isStudy 0 [(0, .inr (.inl a0)), (1, .inl a1)] [] (I, R) (.inl (some (.inl y.1))) (y.2, R) := by
  intro a0 a1 I y h
  unfold f_X7_isStudy at h
  refine sm_iload_n (q := 1) dX7_isStudy_0 rfl rfl 1 rfl ?_
  rcases sm_if_e h with ⟨hb1, h⟩ | ⟨hb1, h⟩
  · refine sm_if_lt (tgt := 26) (q := 4) dX7_isStudy_1 (by decide) rfl (fun _ => ?_) (fun hn => absurd hb1 hn)
    refine sm_iconst (v := 0) (q := 27) dX7_isStudy_26 rfl (by decide) ?_
    obtain rfl := Option.some.inj h
    exact sm_zret dX7_isStudy_27 rfl (by decide)
  · refine sm_if_lt (tgt := 26) (q := 4) dX7_isStudy_1 (by decide) rfl (fun ht => absurd ht hb1) (fun _ => ?_)
    refine sm_iload_n (q := 5) dX7_isStudy_4 rfl rfl 1 rfl ?_
    refine sm_aload_n (q := 6) dX7_isStudy_5 rfl rfl 0 rfl ?_
    obtain ⟨hc2, h⟩ := sm_gd_e h
    refine sm_getI (q := 9) dX7_isStudy_6 rfl fk_X7_44 hc2 (by decide) (by decide) ?_
    rcases sm_if_e h with ⟨hb3, h⟩ | ⟨hb3, h⟩
    · refine sm_icmp_ge (tgt := 26) (q := 12) dX7_isStudy_9 (by decide) rfl (fun _ => ?_) (fun hn => absurd hb3 hn)
      refine sm_iconst (v := 0) (q := 27) dX7_isStudy_26 rfl (by decide) ?_
      obtain rfl := Option.some.inj h
      exact sm_zret dX7_isStudy_27 rfl (by decide)
    · refine sm_icmp_ge (tgt := 26) (q := 12) dX7_isStudy_9 (by decide) rfl (fun ht => absurd ht hb3) (fun _ => ?_)
      refine sm_aload_n (q := 13) dX7_isStudy_12 rfl rfl 0 rfl ?_
      refine sm_getR (r := R a0 1) (q := 16) dX7_isStudy_13 rfl fk_X7_15 hc2 (by decide) (by decide) rfl ?_
      refine sm_iload_n (q := 17) dX7_isStudy_16 rfl rfl 1 rfl ?_
      obtain ⟨hc4, h⟩ := sm_gd_e h
      refine sm_iald (n := (sm_kd (R a0 1)).2) (q := 18) dX7_isStudy_17 rfl (Prod.ext hc4.1 rfl) hc4.2 ?_
      refine sm_iconst (v := 1) (q := 19) dX7_isStudy_18 rfl (by decide) ?_
      rcases sm_if_e h with ⟨hb5, h⟩ | ⟨hb5, h⟩
      · refine sm_icmp_ne (tgt := 26) (q := 22) dX7_isStudy_19 (by decide) rfl (fun hn => absurd hb5 hn) (fun _ => ?_)
        refine sm_iconst (v := 1) (q := 23) dX7_isStudy_22 rfl (by decide) ?_
        refine sm_goto (q := 27) dX7_isStudy_23 (by decide) ?_
        obtain rfl := Option.some.inj h
        exact sm_zret dX7_isStudy_27 rfl (by decide)
      · refine sm_icmp_ne (tgt := 26) (q := 22) dX7_isStudy_19 (by decide) rfl (fun _ => ?_) (fun he => absurd he hb5)
        refine sm_iconst (v := 0) (q := 27) dX7_isStudy_26 rfl (by decide) ?_
        obtain rfl := Option.some.inj h
        exact sm_zret dX7_isStudy_27 rfl (by decide)
theorem e_X7_isStudy {l : Launch} {N : Nat} {R : Nat → Nat → Nat} {a0 : Nat} {a1 : Int32} {I : (Nat → Nat → Int32)} {y : (Int32 × (Nat → Nat → Int32))} (h : f_X7_isStudy N R a0 a1 I = some y) : sm_E l 0 mX7_isStudy [.inr (.inl a0), .inl a1] (I, R) (.inl (some (.inl y.1))) (y.2, R) :=
  sm_meth (by decide) (Nat.le_of_ble_eq_true rfl) (w_X7_isStudy N R a0 a1 I y h)
def f_X7_isDone (N : Nat) (R : Nat → Nat → Nat) : Nat → Nat → (Nat → Nat → Int32) → Option (Int32 × (Nat → Nat → Int32)) := fun a0 a1 I =>
  sm_gd (sm_kd a1 = (4, 6)) <|
  sm_gd (sm_kd a0 = (7, 9)) <|
  (f_X7_barsOf N R a0 (I a1 2) I).bind fun p3 =>
  if (I a1 3) < p3.1 then (
    some ((0 : Int32), p3.2))
  else (
    some ((1 : Int32), p3.2))
set_option maxHeartbeats 4000000 in
set_option maxRecDepth 100000 in
theorem w_X7_isDone {l : Launch} (N : Nat) (R : Nat → Nat → Nat) : ∀ (a0 : Nat) (a1 : Nat) (I : (Nat → Nat → Int32)) (y : (Int32 × (Nat → Nat → Int32))), f_X7_isDone N R a0 a1 I = some y → sm_W l 1 mX7_isDone 0 [(0, .inr (.inl a0)), (1, .inr (.inl a1))] [] (I, R) (.inl (some (.inl y.1))) (y.2, R) := by
  intro a0 a1 I y h
  unfold f_X7_isDone at h
  refine sm_aload_n (q := 1) dX7_isDone_0 rfl rfl 1 rfl ?_
  obtain ⟨hc1, h⟩ := sm_gd_e h
  refine sm_getI (q := 4) dX7_isDone_1 rfl fk_X7_71 hc1 (by decide) (by decide) ?_
  refine sm_aload_n (q := 5) dX7_isDone_4 rfl rfl 0 rfl ?_
  refine sm_aload_n (q := 6) dX7_isDone_5 rfl rfl 1 rfl ?_
  refine sm_getI (q := 9) dX7_isDone_6 rfl fk_X7_75 hc1 (by decide) (by decide) ?_
  obtain ⟨hc2, h⟩ := sm_gd_e h
  obtain ⟨p3, hc_p3, h⟩ := sm_bd_e h
  refine sm_callVi (q := 12) (As := [.inl (I a1 2)]) (S := [.inl (I a1 3)]) (e_X7_barsOf hc_p3) mv_X7_52 hc2 rfl (by decide) (Nat.le_of_ble_eq_true rfl) dX7_isDone_9 rfl ?_
  rcases sm_if_e h with ⟨hb4, h⟩ | ⟨hb4, h⟩
  · refine sm_icmp_lt (tgt := 19) (q := 15) dX7_isDone_12 (by decide) rfl (fun _ => ?_) (fun hn => absurd hb4 hn)
    refine sm_iconst (v := 0) (q := 20) dX7_isDone_19 rfl (by decide) ?_
    obtain rfl := Option.some.inj h
    exact sm_zret dX7_isDone_20 rfl (by decide)
  · refine sm_icmp_lt (tgt := 19) (q := 15) dX7_isDone_12 (by decide) rfl (fun ht => absurd ht hb4) (fun _ => ?_)
    refine sm_iconst (v := 1) (q := 16) dX7_isDone_15 rfl (by decide) ?_
    refine sm_goto (q := 20) dX7_isDone_16 (by decide) ?_
    obtain rfl := Option.some.inj h
    exact sm_zret dX7_isDone_20 rfl (by decide)
theorem e_X7_isDone {l : Launch} {N : Nat} {R : Nat → Nat → Nat} {a0 : Nat} {a1 : Nat} {I : (Nat → Nat → Int32)} {y : (Int32 × (Nat → Nat → Int32))} (h : f_X7_isDone N R a0 a1 I = some y) : sm_E l 1 mX7_isDone [.inr (.inl a0), .inr (.inl a1)] (I, R) (.inl (some (.inl y.1))) (y.2, R) :=
  sm_meth (by decide) (Nat.le_of_ble_eq_true rfl) (w_X7_isDone N R a0 a1 I y h)
def f_X7_haveLesson_20 (N : Nat) (R : Nat → Nat → Nat) : Nat → Nat → Nat → Int32 → Int32 → (Nat → Nat → Int32) → Option (Unit × (Nat → Nat → Int32))
  | 0, _, _, _, _, _ => none
  | n + 1, a0, a1, a2, a3, I =>
    if a2 ≤ a3 then (
      some ((), I))
    else (
      sm_gd (sm_kd a0 = (7, 9)) <|
      (f_X7_isDone N R a0 a1 I).bind fun p3 =>
      if p3.1 = 0 then (
        sm_gd (sm_kd a1 = (4, 6)) <|
        (f_X7_nextHard N R a0 a1 p3.2).bind fun p6 =>
        if (p3.2 a1 0) < p6.1 then (
          some ((), p6.2))
        else (
          sm_lt (sm_up p6.2 a1 (sm_up (p6.2 a1) 3 ((p6.2 a1 3) + (1 : Int32)))) fun I8 =>
          f_X7_haveLesson_20 N R n a0 a1 a2 (a3 + 1) I8))
      else (
        some ((), p3.2)))
def f_X7_haveLesson (N : Nat) (R : Nat → Nat → Nat) : Nat → Nat → (Nat → Nat → Int32) → Option (Unit × (Nat → Nat → Int32)) := fun a0 a1 I =>
  sm_gd (sm_kd a1 = (4, 6)) <|
  sm_gd (sm_kd a0 = (7, 9)) <|
  (f_X7_isStudy N R a0 (I a1 2) I).bind fun p3 =>
  if p3.1 = 0 then (
    f_X7_haveLesson_20 N R N a0 a1 (1 : Int32) (0 : Int32) p3.2)
  else (
    f_X7_haveLesson_20 N R N a0 a1 (8 : Int32) (0 : Int32) p3.2)
set_option maxHeartbeats 4000000 in
set_option maxRecDepth 100000 in
theorem w_X7_haveLesson_20 {l : Launch} (N : Nat) (R : Nat → Nat → Nat) : ∀ (n : Nat) (a0 : Nat) (a1 : Nat) (a2 : Int32) (a3 : Int32) (I : (Nat → Nat → Int32)) (y : (Unit × (Nat → Nat → Int32))), f_X7_haveLesson_20 N R n a0 a1 a2 a3 I = some y → sm_W l 2 mX7_haveLesson 20 [(0, .inr (.inl a0)), (1, .inr (.inl a1)), (2, .inl a2), (3, .inl a3)] [] (I, R) (.inl none) (y.2, R) := by
  intro n
  induction n with
  | zero => intro a0 a1 a2 a3 I y h; cases h
  | succ n ih =>
    intro a0 a1 a2 a3 I y h
    rw [f_X7_haveLesson_20] at h
    refine sm_iload_n (q := 21) dX7_haveLesson_20 rfl rfl 3 rfl ?_
    refine sm_iload_n (q := 22) dX7_haveLesson_21 rfl rfl 2 rfl ?_
    rcases sm_if_e h with ⟨hb1, h⟩ | ⟨hb1, h⟩
    · refine sm_icmp_ge (tgt := 61) (q := 25) dX7_haveLesson_22 (by decide) rfl (fun _ => ?_) (fun hn => absurd hb1 hn)
      obtain rfl := Option.some.inj h
      exact sm_vret dX7_haveLesson_61 rfl
    · refine sm_icmp_ge (tgt := 61) (q := 25) dX7_haveLesson_22 (by decide) rfl (fun ht => absurd ht hb1) (fun _ => ?_)
      refine sm_aload_n (q := 26) dX7_haveLesson_25 rfl rfl 0 rfl ?_
      refine sm_aload_n (q := 27) dX7_haveLesson_26 rfl rfl 1 rfl ?_
      obtain ⟨hc2, h⟩ := sm_gd_e h
      obtain ⟨p3, hc_p3, h⟩ := sm_bd_e h
      refine sm_callVi (q := 30) (As := [.inr (.inl a1)]) (S := []) (e_X7_isDone hc_p3) mv_X7_114 hc2 rfl (by decide) (Nat.le_of_ble_eq_true rfl) dX7_haveLesson_27 rfl ?_
      rcases sm_if_e h with ⟨hb4, h⟩ | ⟨hb4, h⟩
      · refine sm_if_ne (tgt := 61) (q := 33) dX7_haveLesson_30 (by decide) rfl (fun hn => absurd hb4 hn) (fun _ => ?_)
        refine sm_aload_n (q := 34) dX7_haveLesson_33 rfl rfl 1 rfl ?_
        obtain ⟨hc5, h⟩ := sm_gd_e h
        refine sm_getI (q := 37) dX7_haveLesson_34 rfl fk_X7_78 hc5 (by decide) (by decide) ?_
        refine sm_aload_n (q := 38) dX7_haveLesson_37 rfl rfl 0 rfl ?_
        refine sm_aload_n (q := 39) dX7_haveLesson_38 rfl rfl 1 rfl ?_
        obtain ⟨p6, hc_p6, h⟩ := sm_bd_e h
        refine sm_callVi (q := 42) (As := [.inr (.inl a1)]) (S := [.inl (p3.2 a1 0)]) (e_X7_nextHard hc_p6) mv_X7_88 hc2 rfl (by decide) (Nat.le_of_ble_eq_true rfl) dX7_haveLesson_39 rfl ?_
        rcases sm_if_e h with ⟨hb7, h⟩ | ⟨hb7, h⟩
        · refine sm_icmp_lt (tgt := 61) (q := 45) dX7_haveLesson_42 (by decide) rfl (fun _ => ?_) (fun hn => absurd hb7 hn)
          obtain rfl := Option.some.inj h
          exact sm_vret dX7_haveLesson_61 rfl
        · refine sm_icmp_lt (tgt := 61) (q := 45) dX7_haveLesson_42 (by decide) rfl (fun ht => absurd ht hb7) (fun _ => ?_)
          refine sm_aload_n (q := 46) dX7_haveLesson_45 rfl rfl 1 rfl ?_
          refine sm_dup (q := 47) dX7_haveLesson_46 rfl rfl ?_
          refine sm_getI (q := 50) dX7_haveLesson_47 rfl fk_X7_71 hc5 (by decide) (by decide) ?_
          refine sm_iconst (v := 1) (q := 51) dX7_haveLesson_50 rfl (by decide) ?_
          refine sm_iadd (q := 52) dX7_haveLesson_51 rfl ?_
          obtain ⟨I8, hI8, h⟩ := sm_lt_e h
          refine sm_putI (q := 55) dX7_haveLesson_52 rfl fk_X7_71 hc5 (by decide) (by decide) ?_
          refine sm_memI hI8 ?_
          refine sm_iinc (v := (a3 + 1)) (L' := [(3, .inl (a3 + 1)), (0, .inr (.inl a0)), (1, .inr (.inl a1)), (2, .inl a2)]) (q := 58) dX7_haveLesson_55 rfl 3 rfl rfl (by decide) rfl ?_
          refine sm_goto (q := 20) dX7_haveLesson_58 (by decide) ?_
          refine sm_pick [1, 2, 3, 0] rfl ?_
          exact ih _ _ _ _ _ _ h
      · refine sm_if_ne (tgt := 61) (q := 33) dX7_haveLesson_30 (by decide) rfl (fun _ => ?_) (fun he => absurd he hb4)
        obtain rfl := Option.some.inj h
        exact sm_vret dX7_haveLesson_61 rfl
set_option maxHeartbeats 4000000 in
set_option maxRecDepth 100000 in
theorem w_X7_haveLesson {l : Launch} (N : Nat) (R : Nat → Nat → Nat) : ∀ (a0 : Nat) (a1 : Nat) (I : (Nat → Nat → Int32)) (y : (Unit × (Nat → Nat → Int32))), f_X7_haveLesson N R a0 a1 I = some y → sm_W l 2 mX7_haveLesson 0 [(0, .inr (.inl a0)), (1, .inr (.inl a1))] [] (I, R) (.inl none) (y.2, R) := by
  intro a0 a1 I y h
  unfold f_X7_haveLesson at h
  refine sm_aload_n (q := 1) dX7_haveLesson_0 rfl rfl 0 rfl ?_
  refine sm_aload_n (q := 2) dX7_haveLesson_1 rfl rfl 1 rfl ?_
  obtain ⟨hc1, h⟩ := sm_gd_e h
  refine sm_getI (q := 5) dX7_haveLesson_2 rfl fk_X7_75 hc1 (by decide) (by decide) ?_
  obtain ⟨hc2, h⟩ := sm_gd_e h
  obtain ⟨p3, hc_p3, h⟩ := sm_bd_e h
  refine sm_callVi (q := 8) (As := [.inl (I a1 2)]) (S := []) (e_X7_isStudy hc_p3) mv_X7_110 hc2 rfl (by decide) (Nat.le_of_ble_eq_true rfl) dX7_haveLesson_5 rfl ?_
  rcases sm_if_e h with ⟨hb4, h⟩ | ⟨hb4, h⟩
  · refine sm_if_eq (tgt := 16) (q := 11) dX7_haveLesson_8 (by decide) rfl (fun _ => ?_) (fun hn => absurd hb4 hn)
    refine sm_iconst (v := 1) (q := 17) dX7_haveLesson_16 rfl (by decide) ?_
    refine sm_istore_n (L' := [(2, .inl (1 : Int32)), (0, .inr (.inl a0)), (1, .inr (.inl a1))]) (q := 18) dX7_haveLesson_17 rfl rfl (by decide) rfl ?_
    refine sm_iconst (v := 0) (q := 19) dX7_haveLesson_18 rfl (by decide) ?_
    refine sm_istore_n (L' := [(3, .inl (0 : Int32)), (2, .inl (1 : Int32)), (0, .inr (.inl a0)), (1, .inr (.inl a1))]) (q := 20) dX7_haveLesson_19 rfl rfl (by decide) rfl ?_
    refine sm_pick [2, 3, 1, 0] rfl ?_
    exact w_X7_haveLesson_20 N R N _ _ _ _ _ _ h
  · refine sm_if_eq (tgt := 16) (q := 11) dX7_haveLesson_8 (by decide) rfl (fun ht => absurd ht hb4) (fun _ => ?_)
    refine sm_bipush (v := 8) (q := 13) dX7_haveLesson_11 rfl (by decide) ?_
    refine sm_goto (q := 17) dX7_haveLesson_13 (by decide) ?_
    refine sm_istore_n (L' := [(2, .inl (8 : Int32)), (0, .inr (.inl a0)), (1, .inr (.inl a1))]) (q := 18) dX7_haveLesson_17 rfl rfl (by decide) rfl ?_
    refine sm_iconst (v := 0) (q := 19) dX7_haveLesson_18 rfl (by decide) ?_
    refine sm_istore_n (L' := [(3, .inl (0 : Int32)), (2, .inl (8 : Int32)), (0, .inr (.inl a0)), (1, .inr (.inl a1))]) (q := 20) dX7_haveLesson_19 rfl rfl (by decide) rfl ?_
    refine sm_pick [2, 3, 1, 0] rfl ?_
    exact w_X7_haveLesson_20 N R N _ _ _ _ _ _ h
theorem e_X7_haveLesson {l : Launch} {N : Nat} {R : Nat → Nat → Nat} {a0 : Nat} {a1 : Nat} {I : (Nat → Nat → Int32)} {y : (Unit × (Nat → Nat → Int32))} (h : f_X7_haveLesson N R a0 a1 I = some y) : sm_E l 2 mX7_haveLesson [.inr (.inl a0), .inr (.inl a1)] (I, R) (.inl none) (y.2, R) :=
  sm_meth (by decide) (Nat.le_of_ble_eq_true rfl) (w_X7_haveLesson N R a0 a1 I y h)
def f_X7_passWeeks_2 (N : Nat) (R : Nat → Nat → Nat) : Nat → Nat → Nat → Int32 → Int32 → (Nat → Nat → Int32) → Option (Unit × (Nat → Nat → Int32))
  | 0, _, _, _, _, _ => none
  | n + 1, a0, a1, a2, a3, I =>
    if a2 ≤ a3 then (
      some ((), I))
    else (
      sm_gd (sm_kd a1 = (4, 6)) <|
      (f_X4_isAwayIn N R a1 (1 : Int32) I).bind fun p3 =>
      if p3.1 = 0 then (
        sm_gd (sm_kd a0 = (7, 9)) <|
        (f_X7_practise N R a0 a1 p3.2).bind fun p6 =>
        (f_X7_haveLesson N R a0 a1 p6.2).bind fun p7 =>
        (f_X4_addSore N R a1 (-1 : Int32) p7.2).bind fun p8 =>
        sm_lt (sm_up p8.2 a1 (sm_up (p8.2 a1) 4 (sm_us (p8.2 a1 4) (1 : Int32)))) fun I9 =>
        f_X7_passWeeks_2 N R n a0 a1 a2 (a3 + 1) I9)
      else (
        sm_lt (sm_up p3.2 a1 (sm_up (p3.2 a1) 4 (sm_us (p3.2 a1 4) (1 : Int32)))) fun I10 =>
        f_X7_passWeeks_2 N R n a0 a1 a2 (a3 + 1) I10))
def f_X7_passWeeks (N : Nat) (R : Nat → Nat → Nat) : Nat → Nat → Int32 → (Nat → Nat → Int32) → Option (Unit × (Nat → Nat → Int32)) := fun a0 a1 a2 I =>
  f_X7_passWeeks_2 N R N a0 a1 a2 (0 : Int32) I
set_option maxHeartbeats 4000000 in
set_option maxRecDepth 100000 in
theorem w_X7_passWeeks_2 {l : Launch} (N : Nat) (R : Nat → Nat → Nat) : ∀ (n : Nat) (a0 : Nat) (a1 : Nat) (a2 : Int32) (a3 : Int32) (I : (Nat → Nat → Int32)) (y : (Unit × (Nat → Nat → Int32))), f_X7_passWeeks_2 N R n a0 a1 a2 a3 I = some y → sm_W l 3 mX7_passWeeks 2 [(0, .inr (.inl a0)), (1, .inr (.inl a1)), (2, .inl a2), (3, .inl a3)] [] (I, R) (.inl none) (y.2, R) := by
  intro n
  induction n with
  | zero => intro a0 a1 a2 a3 I y h; cases h
  | succ n ih =>
    intro a0 a1 a2 a3 I y h
    rw [f_X7_passWeeks_2] at h
    refine sm_iload_n (q := 3) dX7_passWeeks_2 rfl rfl 3 rfl ?_
    refine sm_iload_n (q := 4) dX7_passWeeks_3 rfl rfl 2 rfl ?_
    rcases sm_if_e h with ⟨hb1, h⟩ | ⟨hb1, h⟩
    · refine sm_icmp_ge (tgt := 46) (q := 7) dX7_passWeeks_4 (by decide) rfl (fun _ => ?_) (fun hn => absurd hb1 hn)
      obtain rfl := Option.some.inj h
      exact sm_vret dX7_passWeeks_46 rfl
    · refine sm_icmp_ge (tgt := 46) (q := 7) dX7_passWeeks_4 (by decide) rfl (fun ht => absurd ht hb1) (fun _ => ?_)
      refine sm_aload_n (q := 8) dX7_passWeeks_7 rfl rfl 1 rfl ?_
      refine sm_iconst (v := 1) (q := 9) dX7_passWeeks_8 rfl (by decide) ?_
      obtain ⟨hc2, h⟩ := sm_gd_e h
      obtain ⟨p3, hc_p3, h⟩ := sm_bd_e h
      refine sm_callVi (q := 12) (As := [.inl (1 : Int32)]) (S := []) (e_X4_isAwayIn hc_p3) mv_X7_118 hc2 rfl (by decide) (Nat.le_of_ble_eq_true rfl) dX7_passWeeks_9 rfl ?_
      rcases sm_if_e h with ⟨hb4, h⟩ | ⟨hb4, h⟩
      · refine sm_if_ne (tgt := 30) (q := 15) dX7_passWeeks_12 (by decide) rfl (fun hn => absurd hb4 hn) (fun _ => ?_)
        refine sm_aload_n (q := 16) dX7_passWeeks_15 rfl rfl 0 rfl ?_
        refine sm_aload_n (q := 17) dX7_passWeeks_16 rfl rfl 1 rfl ?_
        obtain ⟨hc5, h⟩ := sm_gd_e h
        obtain ⟨p6, hc_p6, h⟩ := sm_bd_e h
        refine sm_callVv (q := 20) (As := [.inr (.inl a1)]) (S := []) (e_X7_practise hc_p6) mv_X7_121 hc5 rfl (by decide) (Nat.le_of_ble_eq_true rfl) dX7_passWeeks_17 rfl ?_
        refine sm_aload_n (q := 21) dX7_passWeeks_20 rfl rfl 0 rfl ?_
        refine sm_aload_n (q := 22) dX7_passWeeks_21 rfl rfl 1 rfl ?_
        obtain ⟨p7, hc_p7, h⟩ := sm_bd_e h
        refine sm_callVv (q := 25) (As := [.inr (.inl a1)]) (S := []) (e_X7_haveLesson hc_p7) mv_X7_125 hc5 rfl (by decide) (Nat.le_of_ble_eq_true rfl) dX7_passWeeks_22 rfl ?_
        refine sm_aload_n (q := 26) dX7_passWeeks_25 rfl rfl 1 rfl ?_
        refine sm_iconst (v := -1) (q := 27) dX7_passWeeks_26 rfl (by decide) ?_
        obtain ⟨p8, hc_p8, h⟩ := sm_bd_e h
        refine sm_callVv (q := 30) (As := [.inl (-1 : Int32)]) (S := []) (e_X4_addSore hc_p8) mv_X7_128 hc2 rfl (by decide) (Nat.le_of_ble_eq_true rfl) dX7_passWeeks_27 rfl ?_
        refine sm_aload_n (q := 31) dX7_passWeeks_30 rfl rfl 1 rfl ?_
        refine sm_aload_n (q := 32) dX7_passWeeks_31 rfl rfl 1 rfl ?_
        refine sm_getI (q := 35) dX7_passWeeks_32 rfl fk_X7_92 hc2 (by decide) (by decide) ?_
        refine sm_iconst (v := 1) (q := 36) dX7_passWeeks_35 rfl (by decide) ?_
        refine sm_iushr (v := (sm_us (p8.2 a1 4) (1 : Int32))) (q := 37) dX7_passWeeks_36 rfl rfl ?_
        obtain ⟨I9, hI9, h⟩ := sm_lt_e h
        refine sm_putI (q := 40) dX7_passWeeks_37 rfl fk_X7_92 hc2 (by decide) (by decide) ?_
        refine sm_memI hI9 ?_
        refine sm_iinc (v := (a3 + 1)) (L' := [(3, .inl (a3 + 1)), (0, .inr (.inl a0)), (1, .inr (.inl a1)), (2, .inl a2)]) (q := 43) dX7_passWeeks_40 rfl 3 rfl rfl (by decide) rfl ?_
        refine sm_goto (q := 2) dX7_passWeeks_43 (by decide) ?_
        refine sm_pick [1, 2, 3, 0] rfl ?_
        exact ih _ _ _ _ _ _ h
      · refine sm_if_ne (tgt := 30) (q := 15) dX7_passWeeks_12 (by decide) rfl (fun _ => ?_) (fun he => absurd he hb4)
        refine sm_aload_n (q := 31) dX7_passWeeks_30 rfl rfl 1 rfl ?_
        refine sm_aload_n (q := 32) dX7_passWeeks_31 rfl rfl 1 rfl ?_
        refine sm_getI (q := 35) dX7_passWeeks_32 rfl fk_X7_92 hc2 (by decide) (by decide) ?_
        refine sm_iconst (v := 1) (q := 36) dX7_passWeeks_35 rfl (by decide) ?_
        refine sm_iushr (v := (sm_us (p3.2 a1 4) (1 : Int32))) (q := 37) dX7_passWeeks_36 rfl rfl ?_
        obtain ⟨I10, hI10, h⟩ := sm_lt_e h
        refine sm_putI (q := 40) dX7_passWeeks_37 rfl fk_X7_92 hc2 (by decide) (by decide) ?_
        refine sm_memI hI10 ?_
        refine sm_iinc (v := (a3 + 1)) (L' := [(3, .inl (a3 + 1)), (0, .inr (.inl a0)), (1, .inr (.inl a1)), (2, .inl a2)]) (q := 43) dX7_passWeeks_40 rfl 3 rfl rfl (by decide) rfl ?_
        refine sm_goto (q := 2) dX7_passWeeks_43 (by decide) ?_
        refine sm_pick [1, 2, 3, 0] rfl ?_
        exact ih _ _ _ _ _ _ h
set_option maxHeartbeats 4000000 in
set_option maxRecDepth 100000 in
theorem w_X7_passWeeks {l : Launch} (N : Nat) (R : Nat → Nat → Nat) : ∀ (a0 : Nat) (a1 : Nat) (a2 : Int32) (I : (Nat → Nat → Int32)) (y : (Unit × (Nat → Nat → Int32))), f_X7_passWeeks N R a0 a1 a2 I = some y → sm_W l 3 mX7_passWeeks 0 [(0, .inr (.inl a0)), (1, .inr (.inl a1)), (2, .inl a2)] [] (I, R) (.inl none) (y.2, R) := by
  intro a0 a1 a2 I y h
  unfold f_X7_passWeeks at h
  refine sm_iconst (v := 0) (q := 1) dX7_passWeeks_0 rfl (by decide) ?_
  refine sm_istore_n (L' := [(3, .inl (0 : Int32)), (0, .inr (.inl a0)), (1, .inr (.inl a1)), (2, .inl a2)]) (q := 2) dX7_passWeeks_1 rfl rfl (by decide) rfl ?_
  refine sm_pick [1, 2, 3, 0] rfl ?_
  exact w_X7_passWeeks_2 N R N _ _ _ _ _ _ h
theorem e_X7_passWeeks {l : Launch} {N : Nat} {R : Nat → Nat → Nat} {a0 : Nat} {a1 : Nat} {a2 : Int32} {I : (Nat → Nat → Int32)} {y : (Unit × (Nat → Nat → Int32))} (h : f_X7_passWeeks N R a0 a1 a2 I = some y) : sm_E l 3 mX7_passWeeks [.inr (.inl a0), .inr (.inl a1), .inl a2] (I, R) (.inl none) (y.2, R) :=
  sm_meth (by decide) (Nat.le_of_ble_eq_true rfl) (w_X7_passWeeks N R a0 a1 a2 I y h)
def f_X2_gainOf_38 (N : Nat) (R : Nat → Nat → Nat) : Nat → Nat → Nat → (Nat → Nat → Int32) → Option (Int32 × (Nat → Nat → Int32)) := fun a0 a1 a2 I =>
  sm_gd (sm_kd a0 = (2, 3)) <|
  sm_gd (sm_kd a1 = (7, 9)) <|
  (f_X7_passWeeks N R a1 (R a0 2) (10 : Int32) I).bind fun p3 =>
  sm_gd (sm_kd (R a0 2) = (4, 6)) <|
  sm_gd (sm_kd a2 = (4, 6)) <|
  some (((p3.2 (R a0 2) 3) - (p3.2 a2 3)), p3.2)
def f_X2_gainOf (N : Nat) (R : Nat → Nat → Nat) : Nat → Nat → Nat → Int32 → (Nat → Nat → Int32) → Option (Int32 × (Nat → Nat → Int32)) := fun a0 a1 a2 a3 I =>
  sm_gd (sm_kd a0 = (2, 3)) <|
  sm_gd (sm_kd (R a0 2) = (4, 6)) <|
  (f_X4_become N R (R a0 2) a2 I).bind fun p3 =>
  if a3 = (1 : Int32) then (
    sm_gd (sm_kd a1 = (7, 9)) <|
    (f_X7_goThrough N R a1 (R a0 2) (1 : Int32) p3.2).bind fun p6 =>
    f_X2_gainOf_38 N R a0 a1 a2 p6.2)
  else (
    if a3 = (2 : Int32) then (
      (f_X4_addSore N R (R a0 2) (2 : Int32) p3.2).bind fun p8 =>
      f_X2_gainOf_38 N R a0 a1 a2 p8.2)
    else (
      f_X2_gainOf_38 N R a0 a1 a2 p3.2))
set_option maxHeartbeats 4000000 in
set_option maxRecDepth 100000 in
theorem w_X2_gainOf_38 {l : Launch} (N : Nat) (R : Nat → Nat → Nat) : ∀ (a0 : Nat) (a1 : Nat) (a2 : Nat) (I : (Nat → Nat → Int32)) (y : (Int32 × (Nat → Nat → Int32))), f_X2_gainOf_38 N R a0 a1 a2 I = some y → sm_W l 4 mX2_gainOf 38 [(0, .inr (.inl a0)), (1, .inr (.inl a1)), (2, .inr (.inl a2))] [] (I, R) (.inl (some (.inl y.1))) (y.2, R) := by
  intro a0 a1 a2 I y h
  unfold f_X2_gainOf_38 at h
  refine sm_aload_n (q := 39) dX2_gainOf_38 rfl rfl 1 rfl ?_
  refine sm_aload_n (q := 40) dX2_gainOf_39 rfl rfl 0 rfl ?_
  obtain ⟨hc1, h⟩ := sm_gd_e h
  refine sm_getR (r := R a0 2) (q := 43) dX2_gainOf_40 rfl fk_X2_22 hc1 (by decide) (by decide) rfl ?_
  refine sm_bipush (v := 10) (q := 45) dX2_gainOf_43 rfl (by decide) ?_
  obtain ⟨hc2, h⟩ := sm_gd_e h
  obtain ⟨p3, hc_p3, h⟩ := sm_bd_e h
  refine sm_callVv (q := 48) (As := [.inr (.inl (R a0 2)), .inl (10 : Int32)]) (S := []) (e_X7_passWeeks hc_p3) mv_X2_66 hc2 rfl (by decide) (Nat.le_of_ble_eq_true rfl) dX2_gainOf_45 rfl ?_
  refine sm_aload_n (q := 49) dX2_gainOf_48 rfl rfl 0 rfl ?_
  refine sm_getR (r := R a0 2) (q := 52) dX2_gainOf_49 rfl fk_X2_22 hc1 (by decide) (by decide) rfl ?_
  obtain ⟨hc4, h⟩ := sm_gd_e h
  refine sm_getI (q := 55) dX2_gainOf_52 rfl fk_X2_69 hc4 (by decide) (by decide) ?_
  refine sm_aload_n (q := 56) dX2_gainOf_55 rfl rfl 2 rfl ?_
  obtain ⟨hc5, h⟩ := sm_gd_e h
  refine sm_getI (q := 59) dX2_gainOf_56 rfl fk_X2_69 hc5 (by decide) (by decide) ?_
  refine sm_isub (q := 60) dX2_gainOf_59 rfl ?_
  obtain rfl := Option.some.inj h
  exact sm_iret dX2_gainOf_60 rfl
set_option maxHeartbeats 4000000 in
set_option maxRecDepth 100000 in
theorem w_X2_gainOf {l : Launch} (N : Nat) (R : Nat → Nat → Nat) : ∀ (a0 : Nat) (a1 : Nat) (a2 : Nat) (a3 : Int32) (I : (Nat → Nat → Int32)) (y : (Int32 × (Nat → Nat → Int32))), f_X2_gainOf N R a0 a1 a2 a3 I = some y → sm_W l 4 mX2_gainOf 0 [(0, .inr (.inl a0)), (1, .inr (.inl a1)), (2, .inr (.inl a2)), (3, .inl a3)] [] (I, R) (.inl (some (.inl y.1))) (y.2, R) := by
  intro a0 a1 a2 a3 I y h
  unfold f_X2_gainOf at h
  refine sm_aload_n (q := 1) dX2_gainOf_0 rfl rfl 0 rfl ?_
  obtain ⟨hc1, h⟩ := sm_gd_e h
  refine sm_getR (r := R a0 2) (q := 4) dX2_gainOf_1 rfl fk_X2_22 hc1 (by decide) (by decide) rfl ?_
  refine sm_aload_n (q := 5) dX2_gainOf_4 rfl rfl 2 rfl ?_
  obtain ⟨hc2, h⟩ := sm_gd_e h
  obtain ⟨p3, hc_p3, h⟩ := sm_bd_e h
  refine sm_callVv (q := 8) (As := [.inr (.inl a2)]) (S := []) (e_X4_become hc_p3) mv_X2_54 hc2 rfl (by decide) (Nat.le_of_ble_eq_true rfl) dX2_gainOf_5 rfl ?_
  refine sm_iload_n (q := 9) dX2_gainOf_8 rfl rfl 3 rfl ?_
  refine sm_iconst (v := 1) (q := 10) dX2_gainOf_9 rfl (by decide) ?_
  rcases sm_if_e h with ⟨hb4, h⟩ | ⟨hb4, h⟩
  · refine sm_icmp_ne (tgt := 25) (q := 13) dX2_gainOf_10 (by decide) rfl (fun hn => absurd hb4 hn) (fun _ => ?_)
    refine sm_aload_n (q := 14) dX2_gainOf_13 rfl rfl 1 rfl ?_
    refine sm_aload_n (q := 15) dX2_gainOf_14 rfl rfl 0 rfl ?_
    refine sm_getR (r := R a0 2) (q := 18) dX2_gainOf_15 rfl fk_X2_22 hc1 (by decide) (by decide) rfl ?_
    refine sm_iconst (v := 1) (q := 19) dX2_gainOf_18 rfl (by decide) ?_
    obtain ⟨hc5, h⟩ := sm_gd_e h
    obtain ⟨p6, hc_p6, h⟩ := sm_bd_e h
    refine sm_callVv (q := 22) (As := [.inr (.inl (R a0 2)), .inl (1 : Int32)]) (S := []) (e_X7_goThrough hc_p6) mv_X2_58 hc5 rfl (by decide) (Nat.le_of_ble_eq_true rfl) dX2_gainOf_19 rfl ?_
    refine sm_goto (q := 38) dX2_gainOf_22 (by decide) ?_
    refine sm_pick [0, 1, 2] rfl ?_
    exact w_X2_gainOf_38 N R _ _ _ _ _ h
  · refine sm_icmp_ne (tgt := 25) (q := 13) dX2_gainOf_10 (by decide) rfl (fun _ => ?_) (fun he => absurd he hb4)
    refine sm_iload_n (q := 26) dX2_gainOf_25 rfl rfl 3 rfl ?_
    refine sm_iconst (v := 2) (q := 27) dX2_gainOf_26 rfl (by decide) ?_
    rcases sm_if_e h with ⟨hb7, h⟩ | ⟨hb7, h⟩
    · refine sm_icmp_ne (tgt := 38) (q := 30) dX2_gainOf_27 (by decide) rfl (fun hn => absurd hb7 hn) (fun _ => ?_)
      refine sm_aload_n (q := 31) dX2_gainOf_30 rfl rfl 0 rfl ?_
      refine sm_getR (r := R a0 2) (q := 34) dX2_gainOf_31 rfl fk_X2_22 hc1 (by decide) (by decide) rfl ?_
      refine sm_iconst (v := 2) (q := 35) dX2_gainOf_34 rfl (by decide) ?_
      obtain ⟨p8, hc_p8, h⟩ := sm_bd_e h
      refine sm_callVv (q := 38) (As := [.inl (2 : Int32)]) (S := []) (e_X4_addSore hc_p8) mv_X2_62 hc2 rfl (by decide) (Nat.le_of_ble_eq_true rfl) dX2_gainOf_35 rfl ?_
      refine sm_pick [0, 1, 2] rfl ?_
      exact w_X2_gainOf_38 N R _ _ _ _ _ h
    · refine sm_icmp_ne (tgt := 38) (q := 30) dX2_gainOf_27 (by decide) rfl (fun _ => ?_) (fun he => absurd he hb7)
      refine sm_pick [0, 1, 2] rfl ?_
      exact w_X2_gainOf_38 N R _ _ _ _ _ h
theorem e_X2_gainOf {l : Launch} {N : Nat} {R : Nat → Nat → Nat} {a0 : Nat} {a1 : Nat} {a2 : Nat} {a3 : Int32} {I : (Nat → Nat → Int32)} {y : (Int32 × (Nat → Nat → Int32))} (h : f_X2_gainOf N R a0 a1 a2 a3 I = some y) : sm_E l 4 mX2_gainOf [.inr (.inl a0), .inr (.inl a1), .inr (.inl a2), .inl a3] (I, R) (.inl (some (.inl y.1))) (y.2, R) :=
  sm_meth (by decide) (Nat.le_of_ble_eq_true rfl) (w_X2_gainOf N R a0 a1 a2 a3 I y h)
def f_X2_weighSide (N : Nat) (R : Nat → Nat → Nat) : Nat → Nat → Int32 → Int32 → Int32 → (Nat → Nat → Int32) → Option (Unit × (Nat → Nat → Int32)) := fun a0 a1 a2 a3 a4 I =>
  sm_gd (sm_kd a1 = (7, 9)) <|
  sm_gd (sm_kd (R a1 5) = (10, 4)) <|
  sm_gd ((sm_kd (R (R a1 5) 0)).1 = 16 ∧ ¬ (a3 < 0 ∨ (sm_kd (R (R a1 5) 0)).2 ≤ (a3).toNatClampNeg)) <|
  sm_gd (sm_kd a0 = (2, 3)) <|
  (f_X10_couldGo N R (R a1 5) (R (R (R a1 5) 0) (a3).toNatClampNeg) (1 : Int32) I).bind fun p5 =>
  sm_gd ((sm_kd (R a0 0)).1 = 15 ∧ ¬ (a2 < 0 ∨ (sm_kd (R a0 0)).2 ≤ (a2).toNatClampNeg)) <|
  sm_gd (p5.1 = 0 ∨ p5.1 = 1) <|
  sm_lt (sm_up p5.2 (R a0 0) (sm_up (p5.2 (R a0 0)) (a2).toNatClampNeg p5.1)) fun I7 =>
  (f_X2_gainOf N R a0 a1 (R (R (R a1 5) 0) (a3).toNatClampNeg) (0 : Int32) I7).bind fun p9 =>
  (f_X2_gainOf N R a0 a1 (R (R (R a1 5) 0) (a3).toNatClampNeg) (1 : Int32) p9.2).bind fun p10 =>
  sm_gd ((sm_kd (R a0 1)).1 = 13 ∧ ¬ ((a2 * (4 : Int32)) < 0 ∨ (sm_kd (R a0 1)).2 ≤ ((a2 * (4 : Int32))).toNatClampNeg)) <|
  sm_lt (sm_up p10.2 (R a0 1) (sm_up (p10.2 (R a0 1)) ((a2 * (4 : Int32))).toNatClampNeg p9.1)) fun I12 =>
  sm_gd ((sm_kd (R a0 1)).1 = 13 ∧ ¬ (((a2 * (4 : Int32)) + (1 : Int32)) < 0 ∨ (sm_kd (R a0 1)).2 ≤ (((a2 * (4 : Int32)) + (1 : Int32))).toNatClampNeg)) <|
  sm_lt (sm_up I12 (R a0 1) (sm_up (I12 (R a0 1)) (((a2 * (4 : Int32)) + (1 : Int32))).toNatClampNeg p9.1)) fun I14 =>
  sm_gd ((sm_kd (R a0 1)).1 = 13 ∧ ¬ (((a2 * (4 : Int32)) + (2 : Int32)) < 0 ∨ (sm_kd (R a0 1)).2 ≤ (((a2 * (4 : Int32)) + (2 : Int32))).toNatClampNeg)) <|
  sm_lt (sm_up I14 (R a0 1) (sm_up (I14 (R a0 1)) (((a2 * (4 : Int32)) + (2 : Int32))).toNatClampNeg p10.1)) fun I16 =>
  if a4 = 0 then (
    sm_gd ((sm_kd (R a0 1)).1 = 13 ∧ ¬ (((a2 * (4 : Int32)) + (3 : Int32)) < 0 ∨ (sm_kd (R a0 1)).2 ≤ (((a2 * (4 : Int32)) + (3 : Int32))).toNatClampNeg)) <|
    sm_lt (sm_up I16 (R a0 1) (sm_up (I16 (R a0 1)) (((a2 * (4 : Int32)) + (3 : Int32))).toNatClampNeg p10.1)) fun I19 =>
    some ((), I19))
  else (
    (f_X2_gainOf N R a0 a1 (R (R (R a1 5) 0) (a3).toNatClampNeg) (2 : Int32) I16).bind fun p20 =>
    sm_gd ((sm_kd (R a0 1)).1 = 13 ∧ ¬ (((a2 * (4 : Int32)) + (3 : Int32)) < 0 ∨ (sm_kd (R a0 1)).2 ≤ (((a2 * (4 : Int32)) + (3 : Int32))).toNatClampNeg)) <|
    sm_lt (sm_up p20.2 (R a0 1) (sm_up (p20.2 (R a0 1)) (((a2 * (4 : Int32)) + (3 : Int32))).toNatClampNeg p20.1)) fun I22 =>
    some ((), I22))
set_option maxHeartbeats 4000000 in
set_option maxRecDepth 100000 in
theorem w_X2_weighSide {l : Launch} (N : Nat) (R : Nat → Nat → Nat) : ∀ (a0 : Nat) (a1 : Nat) (a2 : Int32) (a3 : Int32) (a4 : Int32) (I : (Nat → Nat → Int32)) (y : (Unit × (Nat → Nat → Int32))), f_X2_weighSide N R a0 a1 a2 a3 a4 I = some y → sm_W l 5 mX2_weighSide 0 [(0, .inr (.inl a0)), (1, .inr (.inl a1)), (2, .inl a2), (3, .inl a3), (4, .inl a4)] [] (I, R) (.inl none) (y.2, R) := by
  intro a0 a1 a2 a3 a4 I y h
  unfold f_X2_weighSide at h
  refine sm_aload_n (q := 1) dX2_weighSide_0 rfl rfl 1 rfl ?_
  obtain ⟨hc1, h⟩ := sm_gd_e h
  refine sm_getR (r := R a1 5) (q := 4) dX2_weighSide_1 rfl fk_X2_26 hc1 (by decide) (by decide) rfl ?_
  obtain ⟨hc2, h⟩ := sm_gd_e h
  refine sm_getR (r := R (R a1 5) 0) (q := 7) dX2_weighSide_4 rfl fk_X2_42 hc2 (by decide) (by decide) rfl ?_
  refine sm_iload_n (q := 8) dX2_weighSide_7 rfl rfl 3 rfl ?_
  obtain ⟨hc3, h⟩ := sm_gd_e h
  refine sm_aald (t := 3) (n := (sm_kd (R (R a1 5) 0)).2) (q := 9) dX2_weighSide_8 rfl (Prod.ext hc3.1 rfl) (Or.inl ⟨rfl, rfl⟩) hc3.2 rfl ?_
  refine sm_astore (L' := [(5, .inr (.inl (R (R (R a1 5) 0) (a3).toNatClampNeg))), (0, .inr (.inl a0)), (1, .inr (.inl a1)), (2, .inl a2), (3, .inl a3), (4, .inl a4)]) (q := 11) dX2_weighSide_9 rfl (by decide) rfl ?_
  refine sm_aload_n (q := 12) dX2_weighSide_11 rfl rfl 1 rfl ?_
  obtain ⟨hc4, h⟩ := sm_gd_e h
  refine sm_getR (r := R a0 0) (q := 15) dX2_weighSide_12 rfl fk_X2_9 hc4 (by decide) (by decide) rfl ?_
  refine sm_iload_n (q := 16) dX2_weighSide_15 rfl rfl 3 rfl ?_
  refine sm_aload_n (q := 17) dX2_weighSide_16 rfl rfl 2 rfl ?_
  refine sm_getR (r := R a1 5) (q := 20) dX2_weighSide_17 rfl fk_X2_26 hc1 (by decide) (by decide) rfl ?_
  refine sm_aload (q := 22) dX2_weighSide_20 rfl 0 rfl ?_
  refine sm_iconst (v := 1) (q := 23) dX2_weighSide_22 rfl (by decide) ?_
  obtain ⟨p5, hc_p5, h⟩ := sm_bd_e h
  refine sm_callVi (q := 26) (As := [.inr (.inl (R (R (R a1 5) 0) (a3).toNatClampNeg)), .inl (1 : Int32)]) (S := [.inl a2, .inr (.inl (R a0 0))]) (e_X10_couldGo hc_p5) mv_X2_46 hc2 rfl (by decide) (Nat.le_of_ble_eq_true rfl) dX2_weighSide_23 rfl ?_
  obtain ⟨hc6, h⟩ := sm_gd_e h
  obtain ⟨hc8, h⟩ := sm_gd_e h
  obtain ⟨I7, hI7, h⟩ := sm_lt_e h
  refine sm_zast (n := (sm_kd (R a0 0)).2) (q := 27) dX2_weighSide_26 rfl (Prod.ext hc6.1 rfl) hc6.2 hc8 ?_
  refine sm_memI hI7 ?_
  refine sm_aload_n (q := 28) dX2_weighSide_27 rfl rfl 1 rfl ?_
  refine sm_aload_n (q := 29) dX2_weighSide_28 rfl rfl 2 rfl ?_
  refine sm_aload (q := 31) dX2_weighSide_29 rfl 0 rfl ?_
  refine sm_iconst (v := 0) (q := 32) dX2_weighSide_31 rfl (by decide) ?_
  obtain ⟨p9, hc_p9, h⟩ := sm_bd_e h
  refine sm_callVi (q := 35) (As := [.inr (.inl a1), .inr (.inl (R (R (R a1 5) 0) (a3).toNatClampNeg)), .inl (0 : Int32)]) (S := []) (e_X2_gainOf hc_p9) mv_X2_50 hc4 rfl (by decide) (Nat.le_of_ble_eq_true rfl) dX2_weighSide_32 rfl ?_
  refine sm_istore (L' := [(6, .inl p9.1), (5, .inr (.inl (R (R (R a1 5) 0) (a3).toNatClampNeg))), (0, .inr (.inl a0)), (1, .inr (.inl a1)), (2, .inl a2), (3, .inl a3), (4, .inl a4)]) (q := 37) dX2_weighSide_35 rfl (by decide) rfl ?_
  refine sm_aload_n (q := 38) dX2_weighSide_37 rfl rfl 2 rfl ?_
  refine sm_aload_n (q := 39) dX2_weighSide_38 rfl rfl 3 rfl ?_
  refine sm_aload (q := 41) dX2_weighSide_39 rfl 1 rfl ?_
  refine sm_iconst (v := 1) (q := 42) dX2_weighSide_41 rfl (by decide) ?_
  obtain ⟨p10, hc_p10, h⟩ := sm_bd_e h
  refine sm_callVi (q := 45) (As := [.inr (.inl a1), .inr (.inl (R (R (R a1 5) 0) (a3).toNatClampNeg)), .inl (1 : Int32)]) (S := []) (e_X2_gainOf hc_p10) mv_X2_50 hc4 rfl (by decide) (Nat.le_of_ble_eq_true rfl) dX2_weighSide_42 rfl ?_
  refine sm_istore (L' := [(7, .inl p10.1), (6, .inl p9.1), (5, .inr (.inl (R (R (R a1 5) 0) (a3).toNatClampNeg))), (0, .inr (.inl a0)), (1, .inr (.inl a1)), (2, .inl a2), (3, .inl a3), (4, .inl a4)]) (q := 47) dX2_weighSide_45 rfl (by decide) rfl ?_
  refine sm_aload_n (q := 48) dX2_weighSide_47 rfl rfl 3 rfl ?_
  refine sm_getR (r := R a0 1) (q := 51) dX2_weighSide_48 rfl fk_X2_15 hc4 (by decide) (by decide) rfl ?_
  refine sm_iload_n (q := 52) dX2_weighSide_51 rfl rfl 5 rfl ?_
  refine sm_iconst (v := 4) (q := 53) dX2_weighSide_52 rfl (by decide) ?_
  refine sm_imul (q := 54) dX2_weighSide_53 rfl ?_
  refine sm_iload (q := 56) dX2_weighSide_54 rfl 1 rfl ?_
  obtain ⟨hc11, h⟩ := sm_gd_e h
  obtain ⟨I12, hI12, h⟩ := sm_lt_e h
  refine sm_iast (n := (sm_kd (R a0 1)).2) (q := 57) dX2_weighSide_56 rfl (Prod.ext hc11.1 rfl) hc11.2 ?_
  refine sm_memI hI12 ?_
  refine sm_aload_n (q := 58) dX2_weighSide_57 rfl rfl 3 rfl ?_
  refine sm_getR (r := R a0 1) (q := 61) dX2_weighSide_58 rfl fk_X2_15 hc4 (by decide) (by decide) rfl ?_
  refine sm_iload_n (q := 62) dX2_weighSide_61 rfl rfl 5 rfl ?_
  refine sm_iconst (v := 4) (q := 63) dX2_weighSide_62 rfl (by decide) ?_
  refine sm_imul (q := 64) dX2_weighSide_63 rfl ?_
  refine sm_iconst (v := 1) (q := 65) dX2_weighSide_64 rfl (by decide) ?_
  refine sm_iadd (q := 66) dX2_weighSide_65 rfl ?_
  refine sm_iload (q := 68) dX2_weighSide_66 rfl 1 rfl ?_
  obtain ⟨hc13, h⟩ := sm_gd_e h
  obtain ⟨I14, hI14, h⟩ := sm_lt_e h
  refine sm_iast (n := (sm_kd (R a0 1)).2) (q := 69) dX2_weighSide_68 rfl (Prod.ext hc13.1 rfl) hc13.2 ?_
  refine sm_memI hI14 ?_
  refine sm_aload_n (q := 70) dX2_weighSide_69 rfl rfl 3 rfl ?_
  refine sm_getR (r := R a0 1) (q := 73) dX2_weighSide_70 rfl fk_X2_15 hc4 (by decide) (by decide) rfl ?_
  refine sm_iload_n (q := 74) dX2_weighSide_73 rfl rfl 5 rfl ?_
  refine sm_iconst (v := 4) (q := 75) dX2_weighSide_74 rfl (by decide) ?_
  refine sm_imul (q := 76) dX2_weighSide_75 rfl ?_
  refine sm_iconst (v := 2) (q := 77) dX2_weighSide_76 rfl (by decide) ?_
  refine sm_iadd (q := 78) dX2_weighSide_77 rfl ?_
  refine sm_iload (q := 80) dX2_weighSide_78 rfl 0 rfl ?_
  obtain ⟨hc15, h⟩ := sm_gd_e h
  obtain ⟨I16, hI16, h⟩ := sm_lt_e h
  refine sm_iast (n := (sm_kd (R a0 1)).2) (q := 81) dX2_weighSide_80 rfl (Prod.ext hc15.1 rfl) hc15.2 ?_
  refine sm_memI hI16 ?_
  refine sm_aload_n (q := 82) dX2_weighSide_81 rfl rfl 3 rfl ?_
  refine sm_getR (r := R a0 1) (q := 85) dX2_weighSide_82 rfl fk_X2_15 hc4 (by decide) (by decide) rfl ?_
  refine sm_iload_n (q := 86) dX2_weighSide_85 rfl rfl 5 rfl ?_
  refine sm_iconst (v := 4) (q := 87) dX2_weighSide_86 rfl (by decide) ?_
  refine sm_imul (q := 88) dX2_weighSide_87 rfl ?_
  refine sm_iconst (v := 3) (q := 89) dX2_weighSide_88 rfl (by decide) ?_
  refine sm_iadd (q := 90) dX2_weighSide_89 rfl ?_
  refine sm_iload (q := 92) dX2_weighSide_90 rfl 7 rfl ?_
  rcases sm_if_e h with ⟨hb17, h⟩ | ⟨hb17, h⟩
  · refine sm_if_eq (tgt := 106) (q := 95) dX2_weighSide_92 (by decide) rfl (fun _ => ?_) (fun hn => absurd hb17 hn)
    refine sm_iload (q := 108) dX2_weighSide_106 rfl 0 rfl ?_
    obtain ⟨hc18, h⟩ := sm_gd_e h
    obtain ⟨I19, hI19, h⟩ := sm_lt_e h
    refine sm_iast (n := (sm_kd (R a0 1)).2) (q := 109) dX2_weighSide_108 rfl (Prod.ext hc18.1 rfl) hc18.2 ?_
    refine sm_memI hI19 ?_
    obtain rfl := Option.some.inj h
    exact sm_vret dX2_weighSide_109 rfl
  · refine sm_if_eq (tgt := 106) (q := 95) dX2_weighSide_92 (by decide) rfl (fun ht => absurd ht hb17) (fun _ => ?_)
    refine sm_aload_n (q := 96) dX2_weighSide_95 rfl rfl 3 rfl ?_
    refine sm_aload_n (q := 97) dX2_weighSide_96 rfl rfl 4 rfl ?_
    refine sm_aload (q := 99) dX2_weighSide_97 rfl 2 rfl ?_
    refine sm_iconst (v := 2) (q := 100) dX2_weighSide_99 rfl (by decide) ?_
    obtain ⟨p20, hc_p20, h⟩ := sm_bd_e h
    refine sm_callVi (q := 103) (As := [.inr (.inl a1), .inr (.inl (R (R (R a1 5) 0) (a3).toNatClampNeg)), .inl (2 : Int32)]) (S := [.inl ((a2 * (4 : Int32)) + (3 : Int32)), .inr (.inl (R a0 1))]) (e_X2_gainOf hc_p20) mv_X2_50 hc4 rfl (by decide) (Nat.le_of_ble_eq_true rfl) dX2_weighSide_100 rfl ?_
    refine sm_goto (q := 108) dX2_weighSide_103 (by decide) ?_
    obtain ⟨hc21, h⟩ := sm_gd_e h
    obtain ⟨I22, hI22, h⟩ := sm_lt_e h
    refine sm_iast (n := (sm_kd (R a0 1)).2) (q := 109) dX2_weighSide_108 rfl (Prod.ext hc21.1 rfl) hc21.2 ?_
    refine sm_memI hI22 ?_
    obtain rfl := Option.some.inj h
    exact sm_vret dX2_weighSide_109 rfl
theorem e_X2_weighSide {l : Launch} {N : Nat} {R : Nat → Nat → Nat} {a0 : Nat} {a1 : Nat} {a2 : Int32} {a3 : Int32} {a4 : Int32} {I : (Nat → Nat → Int32)} {y : (Unit × (Nat → Nat → Int32))} (h : f_X2_weighSide N R a0 a1 a2 a3 a4 I = some y) : sm_E l 5 mX2_weighSide [.inr (.inl a0), .inr (.inl a1), .inl a2, .inl a3, .inl a4] (I, R) (.inl none) (y.2, R) :=
  sm_meth (by decide) (Nat.le_of_ble_eq_true rfl) (w_X2_weighSide N R a0 a1 a2 a3 a4 I y h)
def f_X2_weigh_38 (N : Nat) (R : Nat → Nat → Nat) : Nat → Nat → Int32 → Int32 → Int32 → Nat → Nat → Int32 → Int32 → Int32 → (Nat → Nat → Int32) → Option (Unit × (Nat → Nat → Int32)) := fun a0 a1 a2 a3 a4 b0 b1 b2 b3 b4 I =>
  sm_gd (sm_kd b0 = (2, 3)) <|
  (f_X2_weighSide N R b0 b1 b2 b3 b4 I).bind fun p2 =>
  if a4 = 0 then (
    sm_gd (sm_kd a0 = (2, 3)) <|
    (f_X2_weighSide N R a0 a1 (1 : Int32) a3 (0 : Int32) p2.2).bind fun p5 =>
    some ((), p5.2))
  else (
    if a3 ≤ a2 then (
      sm_gd (sm_kd a0 = (2, 3)) <|
      (f_X2_weighSide N R a0 a1 (1 : Int32) a3 (0 : Int32) p2.2).bind fun p8 =>
      some ((), p8.2))
    else (
      sm_gd (sm_kd a0 = (2, 3)) <|
      (f_X2_weighSide N R a0 a1 (1 : Int32) a3 (1 : Int32) p2.2).bind fun p10 =>
      some ((), p10.2)))
def f_X2_weigh_17 (N : Nat) (R : Nat → Nat → Nat) : Nat → Nat → Int32 → Int32 → Int32 → (Nat → Nat → Int32) → Option (Unit × (Nat → Nat → Int32)) := fun a0 a1 a2 a3 b0 I =>
  if b0 = 0 then (
    f_X2_weigh_38 N R a0 a1 a2 a3 b0 a0 a1 (0 : Int32) a2 (0 : Int32) I)
  else (
    if a2 ≤ a3 then (
      f_X2_weigh_38 N R a0 a1 a2 a3 b0 a0 a1 (0 : Int32) a2 (0 : Int32) I)
    else (
      f_X2_weigh_38 N R a0 a1 a2 a3 b0 a0 a1 (0 : Int32) a2 (1 : Int32) I))
def f_X2_weigh (N : Nat) (R : Nat → Nat → Nat) : Nat → Nat → Int32 → Int32 → (Nat → Nat → Int32) → Option (Unit × (Nat → Nat → Int32)) := fun a0 a1 a2 a3 I =>
  sm_gd (sm_kd a1 = (7, 9)) <|
  sm_gd (sm_kd (R a1 5) = (10, 4)) <|
  (f_X10_pianosLeftIn N R (R a1 5) (1 : Int32) I).bind fun p3 =>
  if p3.1 = (1 : Int32) then (
    f_X2_weigh_17 N R a0 a1 a2 a3 (1 : Int32) p3.2)
  else (
    f_X2_weigh_17 N R a0 a1 a2 a3 (0 : Int32) p3.2)
set_option maxHeartbeats 4000000 in
set_option maxRecDepth 100000 in
theorem w_X2_weigh_38 {l : Launch} (N : Nat) (R : Nat → Nat → Nat) : ∀ (a0 : Nat) (a1 : Nat) (a2 : Int32) (a3 : Int32) (a4 : Int32) (b0 : Nat) (b1 : Nat) (b2 : Int32) (b3 : Int32) (b4 : Int32) (I : (Nat → Nat → Int32)) (y : (Unit × (Nat → Nat → Int32))), f_X2_weigh_38 N R a0 a1 a2 a3 a4 b0 b1 b2 b3 b4 I = some y → sm_W l 6 mX2_weigh 38 [(0, .inr (.inl a0)), (1, .inr (.inl a1)), (2, .inl a2), (3, .inl a3), (4, .inl a4)] [.inl b4, .inl b3, .inl b2, .inr (.inl b1), .inr (.inl b0)] (I, R) (.inl none) (y.2, R) := by
  intro a0 a1 a2 a3 a4 b0 b1 b2 b3 b4 I y h
  unfold f_X2_weigh_38 at h
  obtain ⟨hc1, h⟩ := sm_gd_e h
  obtain ⟨p2, hc_p2, h⟩ := sm_bd_e h
  refine sm_callVv (q := 41) (As := [.inr (.inl b1), .inl b2, .inl b3, .inl b4]) (S := []) (e_X2_weighSide hc_p2) mv_X2_38 hc1 rfl (by decide) (Nat.le_of_ble_eq_true rfl) dX2_weigh_38 rfl ?_
  refine sm_aload_n (q := 42) dX2_weigh_41 rfl rfl 0 rfl ?_
  refine sm_aload_n (q := 43) dX2_weigh_42 rfl rfl 1 rfl ?_
  refine sm_iconst (v := 1) (q := 44) dX2_weigh_43 rfl (by decide) ?_
  refine sm_iload_n (q := 45) dX2_weigh_44 rfl rfl 3 rfl ?_
  refine sm_iload (q := 47) dX2_weigh_45 rfl 4 rfl ?_
  rcases sm_if_e h with ⟨hb3, h⟩ | ⟨hb3, h⟩
  · refine sm_if_eq (tgt := 59) (q := 50) dX2_weigh_47 (by decide) rfl (fun _ => ?_) (fun hn => absurd hb3 hn)
    refine sm_iconst (v := 0) (q := 60) dX2_weigh_59 rfl (by decide) ?_
    obtain ⟨hc4, h⟩ := sm_gd_e h
    obtain ⟨p5, hc_p5, h⟩ := sm_bd_e h
    refine sm_callVv (q := 63) (As := [.inr (.inl a1), .inl (1 : Int32), .inl a3, .inl (0 : Int32)]) (S := []) (e_X2_weighSide hc_p5) mv_X2_38 hc4 rfl (by decide) (Nat.le_of_ble_eq_true rfl) dX2_weigh_60 rfl ?_
    obtain rfl := Option.some.inj h
    exact sm_vret dX2_weigh_63 rfl
  · refine sm_if_eq (tgt := 59) (q := 50) dX2_weigh_47 (by decide) rfl (fun ht => absurd ht hb3) (fun _ => ?_)
    refine sm_iload_n (q := 51) dX2_weigh_50 rfl rfl 3 rfl ?_
    refine sm_iload_n (q := 52) dX2_weigh_51 rfl rfl 2 rfl ?_
    rcases sm_if_e h with ⟨hb6, h⟩ | ⟨hb6, h⟩
    · refine sm_icmp_le (tgt := 59) (q := 55) dX2_weigh_52 (by decide) rfl (fun _ => ?_) (fun hn => absurd hb6 hn)
      refine sm_iconst (v := 0) (q := 60) dX2_weigh_59 rfl (by decide) ?_
      obtain ⟨hc7, h⟩ := sm_gd_e h
      obtain ⟨p8, hc_p8, h⟩ := sm_bd_e h
      refine sm_callVv (q := 63) (As := [.inr (.inl a1), .inl (1 : Int32), .inl a3, .inl (0 : Int32)]) (S := []) (e_X2_weighSide hc_p8) mv_X2_38 hc7 rfl (by decide) (Nat.le_of_ble_eq_true rfl) dX2_weigh_60 rfl ?_
      obtain rfl := Option.some.inj h
      exact sm_vret dX2_weigh_63 rfl
    · refine sm_icmp_le (tgt := 59) (q := 55) dX2_weigh_52 (by decide) rfl (fun ht => absurd ht hb6) (fun _ => ?_)
      refine sm_iconst (v := 1) (q := 56) dX2_weigh_55 rfl (by decide) ?_
      refine sm_goto (q := 60) dX2_weigh_56 (by decide) ?_
      obtain ⟨hc9, h⟩ := sm_gd_e h
      obtain ⟨p10, hc_p10, h⟩ := sm_bd_e h
      refine sm_callVv (q := 63) (As := [.inr (.inl a1), .inl (1 : Int32), .inl a3, .inl (1 : Int32)]) (S := []) (e_X2_weighSide hc_p10) mv_X2_38 hc9 rfl (by decide) (Nat.le_of_ble_eq_true rfl) dX2_weigh_60 rfl ?_
      obtain rfl := Option.some.inj h
      exact sm_vret dX2_weigh_63 rfl
set_option maxHeartbeats 4000000 in
set_option maxRecDepth 100000 in
theorem w_X2_weigh_17 {l : Launch} (N : Nat) (R : Nat → Nat → Nat) : ∀ (a0 : Nat) (a1 : Nat) (a2 : Int32) (a3 : Int32) (b0 : Int32) (I : (Nat → Nat → Int32)) (y : (Unit × (Nat → Nat → Int32))), f_X2_weigh_17 N R a0 a1 a2 a3 b0 I = some y → sm_W l 6 mX2_weigh 17 [(0, .inr (.inl a0)), (1, .inr (.inl a1)), (2, .inl a2), (3, .inl a3)] [.inl b0] (I, R) (.inl none) (y.2, R) := by
  intro a0 a1 a2 a3 b0 I y h
  unfold f_X2_weigh_17 at h
  refine sm_istore (L' := [(4, .inl b0), (0, .inr (.inl a0)), (1, .inr (.inl a1)), (2, .inl a2), (3, .inl a3)]) (q := 19) dX2_weigh_17 rfl (by decide) rfl ?_
  refine sm_aload_n (q := 20) dX2_weigh_19 rfl rfl 1 rfl ?_
  refine sm_aload_n (q := 21) dX2_weigh_20 rfl rfl 2 rfl ?_
  refine sm_iconst (v := 0) (q := 22) dX2_weigh_21 rfl (by decide) ?_
  refine sm_iload_n (q := 23) dX2_weigh_22 rfl rfl 3 rfl ?_
  refine sm_iload (q := 25) dX2_weigh_23 rfl 0 rfl ?_
  rcases sm_if_e h with ⟨hb1, h⟩ | ⟨hb1, h⟩
  · refine sm_if_eq (tgt := 37) (q := 28) dX2_weigh_25 (by decide) rfl (fun _ => ?_) (fun hn => absurd hb1 hn)
    refine sm_iconst (v := 0) (q := 38) dX2_weigh_37 rfl (by decide) ?_
    refine sm_pick [1, 2, 3, 4, 0] rfl ?_
    exact w_X2_weigh_38 N R _ _ _ _ _ _ _ _ _ _ _ _ h
  · refine sm_if_eq (tgt := 37) (q := 28) dX2_weigh_25 (by decide) rfl (fun ht => absurd ht hb1) (fun _ => ?_)
    refine sm_iload_n (q := 29) dX2_weigh_28 rfl rfl 3 rfl ?_
    refine sm_iload_n (q := 30) dX2_weigh_29 rfl rfl 4 rfl ?_
    rcases sm_if_e h with ⟨hb2, h⟩ | ⟨hb2, h⟩
    · refine sm_icmp_le (tgt := 37) (q := 33) dX2_weigh_30 (by decide) rfl (fun _ => ?_) (fun hn => absurd hb2 hn)
      refine sm_iconst (v := 0) (q := 38) dX2_weigh_37 rfl (by decide) ?_
      refine sm_pick [1, 2, 3, 4, 0] rfl ?_
      exact w_X2_weigh_38 N R _ _ _ _ _ _ _ _ _ _ _ _ h
    · refine sm_icmp_le (tgt := 37) (q := 33) dX2_weigh_30 (by decide) rfl (fun ht => absurd ht hb2) (fun _ => ?_)
      refine sm_iconst (v := 1) (q := 34) dX2_weigh_33 rfl (by decide) ?_
      refine sm_goto (q := 38) dX2_weigh_34 (by decide) ?_
      refine sm_pick [1, 2, 3, 4, 0] rfl ?_
      exact w_X2_weigh_38 N R _ _ _ _ _ _ _ _ _ _ _ _ h
set_option maxHeartbeats 4000000 in
set_option maxRecDepth 100000 in
theorem w_X2_weigh {l : Launch} (N : Nat) (R : Nat → Nat → Nat) : ∀ (a0 : Nat) (a1 : Nat) (a2 : Int32) (a3 : Int32) (I : (Nat → Nat → Int32)) (y : (Unit × (Nat → Nat → Int32))), f_X2_weigh N R a0 a1 a2 a3 I = some y → sm_W l 6 mX2_weigh 0 [(0, .inr (.inl a0)), (1, .inr (.inl a1)), (2, .inl a2), (3, .inl a3)] [] (I, R) (.inl none) (y.2, R) := by
  intro a0 a1 a2 a3 I y h
  unfold f_X2_weigh at h
  refine sm_aload_n (q := 1) dX2_weigh_0 rfl rfl 1 rfl ?_
  obtain ⟨hc1, h⟩ := sm_gd_e h
  refine sm_getR (r := R a1 5) (q := 4) dX2_weigh_1 rfl fk_X2_26 hc1 (by decide) (by decide) rfl ?_
  refine sm_iconst (v := 1) (q := 5) dX2_weigh_4 rfl (by decide) ?_
  obtain ⟨hc2, h⟩ := sm_gd_e h
  obtain ⟨p3, hc_p3, h⟩ := sm_bd_e h
  refine sm_callVi (q := 8) (As := [.inl (1 : Int32)]) (S := []) (e_X10_pianosLeftIn hc_p3) mv_X2_32 hc2 rfl (by decide) (Nat.le_of_ble_eq_true rfl) dX2_weigh_5 rfl ?_
  refine sm_iconst (v := 1) (q := 9) dX2_weigh_8 rfl (by decide) ?_
  rcases sm_if_e h with ⟨hb4, h⟩ | ⟨hb4, h⟩
  · refine sm_icmp_ne (tgt := 16) (q := 12) dX2_weigh_9 (by decide) rfl (fun hn => absurd hb4 hn) (fun _ => ?_)
    refine sm_iconst (v := 1) (q := 13) dX2_weigh_12 rfl (by decide) ?_
    refine sm_goto (q := 17) dX2_weigh_13 (by decide) ?_
    refine sm_pick [0, 1, 2, 3] rfl ?_
    exact w_X2_weigh_17 N R _ _ _ _ _ _ _ h
  · refine sm_icmp_ne (tgt := 16) (q := 12) dX2_weigh_9 (by decide) rfl (fun _ => ?_) (fun he => absurd he hb4)
    refine sm_iconst (v := 0) (q := 17) dX2_weigh_16 rfl (by decide) ?_
    refine sm_pick [0, 1, 2, 3] rfl ?_
    exact w_X2_weigh_17 N R _ _ _ _ _ _ _ h
theorem e_X2_weigh {l : Launch} {N : Nat} {R : Nat → Nat → Nat} {a0 : Nat} {a1 : Nat} {a2 : Int32} {a3 : Int32} {I : (Nat → Nat → Int32)} {y : (Unit × (Nat → Nat → Int32))} (h : f_X2_weigh N R a0 a1 a2 a3 I = some y) : sm_E l 6 mX2_weigh [.inr (.inl a0), .inr (.inl a1), .inl a2, .inl a3] (I, R) (.inl none) (y.2, R) :=
  sm_meth (by decide) (Nat.le_of_ble_eq_true rfl) (w_X2_weigh N R a0 a1 a2 a3 I y h)
def f_X2_isContent (N : Nat) (R : Nat → Nat → Nat) : Nat → Int32 → Int32 → Int32 → (Nat → Nat → Int32) → Option (Int32 × (Nat → Nat → Int32)) := fun a0 a1 a2 a3 I =>
  sm_gd (sm_kd a0 = (2, 3)) <|
  sm_gd ((sm_kd (R a0 0)).1 = 15 ∧ ¬ (a1 < 0 ∨ (sm_kd (R a0 0)).2 ≤ (a1).toNatClampNeg)) <|
  if (I (R a0 0) (a1).toNatClampNeg) = 0 then (
    if a2 = 0 then (
      some ((1 : Int32), I))
    else (
      some ((0 : Int32), I)))
  else (
    sm_gd ((sm_kd (R a0 1)).1 = 13 ∧ ¬ ((((a1 * (4 : Int32)) + (a2 * (2 : Int32))) + a3) < 0 ∨ (sm_kd (R a0 1)).2 ≤ ((((a1 * (4 : Int32)) + (a2 * (2 : Int32))) + a3)).toNatClampNeg)) <|
    sm_gd ((sm_kd (R a0 1)).1 = 13 ∧ ¬ ((((a1 * (4 : Int32)) + (((1 : Int32) - a2) * (2 : Int32))) + a3) < 0 ∨ (sm_kd (R a0 1)).2 ≤ ((((a1 * (4 : Int32)) + (((1 : Int32) - a2) * (2 : Int32))) + a3)).toNatClampNeg)) <|
    if (I (R a0 1) ((((a1 * (4 : Int32)) + (a2 * (2 : Int32))) + a3)).toNatClampNeg) < (I (R a0 1) ((((a1 * (4 : Int32)) + (((1 : Int32) - a2) * (2 : Int32))) + a3)).toNatClampNeg) then (
      some ((0 : Int32), I))
    else (
      some ((1 : Int32), I)))
set_option maxHeartbeats 4000000 in
set_option maxRecDepth 100000 in
theorem w_X2_isContent {l : Launch} (N : Nat) (R : Nat → Nat → Nat) : ∀ (a0 : Nat) (a1 : Int32) (a2 : Int32) (a3 : Int32) (I : (Nat → Nat → Int32)) (y : (Int32 × (Nat → Nat → Int32))), f_X2_isContent N R a0 a1 a2 a3 I = some y → sm_W l 0 mX2_isContent 0 [(0, .inr (.inl a0)), (1, .inl a1), (2, .inl a2), (3, .inl a3)] [] (I, R) (.inl (some (.inl y.1))) (y.2, R) := by
  intro a0 a1 a2 a3 I y h
  unfold f_X2_isContent at h
  refine sm_aload_n (q := 1) dX2_isContent_0 rfl rfl 0 rfl ?_
  obtain ⟨hc1, h⟩ := sm_gd_e h
  refine sm_getR (r := R a0 0) (q := 4) dX2_isContent_1 rfl fk_X2_9 hc1 (by decide) (by decide) rfl ?_
  refine sm_iload_n (q := 5) dX2_isContent_4 rfl rfl 1 rfl ?_
  obtain ⟨hc2, h⟩ := sm_gd_e h
  refine sm_zald (n := (sm_kd (R a0 0)).2) (q := 6) dX2_isContent_5 rfl (Prod.ext hc2.1 rfl) hc2.2 ?_
  rcases sm_if_e h with ⟨hb3, h⟩ | ⟨hb3, h⟩
  · refine sm_if_ne (tgt := 19) (q := 9) dX2_isContent_6 (by decide) rfl (fun hn => absurd hb3 hn) (fun _ => ?_)
    refine sm_iload_n (q := 10) dX2_isContent_9 rfl rfl 2 rfl ?_
    rcases sm_if_e h with ⟨hb4, h⟩ | ⟨hb4, h⟩
    · refine sm_if_ne (tgt := 17) (q := 13) dX2_isContent_10 (by decide) rfl (fun hn => absurd hb4 hn) (fun _ => ?_)
      refine sm_iconst (v := 1) (q := 14) dX2_isContent_13 rfl (by decide) ?_
      refine sm_goto (q := 18) dX2_isContent_14 (by decide) ?_
      obtain rfl := Option.some.inj h
      exact sm_zret dX2_isContent_18 rfl (by decide)
    · refine sm_if_ne (tgt := 17) (q := 13) dX2_isContent_10 (by decide) rfl (fun _ => ?_) (fun he => absurd he hb4)
      refine sm_iconst (v := 0) (q := 18) dX2_isContent_17 rfl (by decide) ?_
      obtain rfl := Option.some.inj h
      exact sm_zret dX2_isContent_18 rfl (by decide)
  · refine sm_if_ne (tgt := 19) (q := 9) dX2_isContent_6 (by decide) rfl (fun _ => ?_) (fun he => absurd he hb3)
    refine sm_aload_n (q := 20) dX2_isContent_19 rfl rfl 0 rfl ?_
    refine sm_getR (r := R a0 1) (q := 23) dX2_isContent_20 rfl fk_X2_15 hc1 (by decide) (by decide) rfl ?_
    refine sm_iload_n (q := 24) dX2_isContent_23 rfl rfl 1 rfl ?_
    refine sm_iconst (v := 4) (q := 25) dX2_isContent_24 rfl (by decide) ?_
    refine sm_imul (q := 26) dX2_isContent_25 rfl ?_
    refine sm_iload_n (q := 27) dX2_isContent_26 rfl rfl 2 rfl ?_
    refine sm_iconst (v := 2) (q := 28) dX2_isContent_27 rfl (by decide) ?_
    refine sm_imul (q := 29) dX2_isContent_28 rfl ?_
    refine sm_iadd (q := 30) dX2_isContent_29 rfl ?_
    refine sm_iload_n (q := 31) dX2_isContent_30 rfl rfl 3 rfl ?_
    refine sm_iadd (q := 32) dX2_isContent_31 rfl ?_
    obtain ⟨hc5, h⟩ := sm_gd_e h
    refine sm_iald (n := (sm_kd (R a0 1)).2) (q := 33) dX2_isContent_32 rfl (Prod.ext hc5.1 rfl) hc5.2 ?_
    refine sm_aload_n (q := 34) dX2_isContent_33 rfl rfl 0 rfl ?_
    refine sm_getR (r := R a0 1) (q := 37) dX2_isContent_34 rfl fk_X2_15 hc1 (by decide) (by decide) rfl ?_
    refine sm_iload_n (q := 38) dX2_isContent_37 rfl rfl 1 rfl ?_
    refine sm_iconst (v := 4) (q := 39) dX2_isContent_38 rfl (by decide) ?_
    refine sm_imul (q := 40) dX2_isContent_39 rfl ?_
    refine sm_iconst (v := 1) (q := 41) dX2_isContent_40 rfl (by decide) ?_
    refine sm_iload_n (q := 42) dX2_isContent_41 rfl rfl 2 rfl ?_
    refine sm_isub (q := 43) dX2_isContent_42 rfl ?_
    refine sm_iconst (v := 2) (q := 44) dX2_isContent_43 rfl (by decide) ?_
    refine sm_imul (q := 45) dX2_isContent_44 rfl ?_
    refine sm_iadd (q := 46) dX2_isContent_45 rfl ?_
    refine sm_iload_n (q := 47) dX2_isContent_46 rfl rfl 3 rfl ?_
    refine sm_iadd (q := 48) dX2_isContent_47 rfl ?_
    obtain ⟨hc6, h⟩ := sm_gd_e h
    refine sm_iald (n := (sm_kd (R a0 1)).2) (q := 49) dX2_isContent_48 rfl (Prod.ext hc6.1 rfl) hc6.2 ?_
    rcases sm_if_e h with ⟨hb7, h⟩ | ⟨hb7, h⟩
    · refine sm_icmp_lt (tgt := 56) (q := 52) dX2_isContent_49 (by decide) rfl (fun _ => ?_) (fun hn => absurd hb7 hn)
      refine sm_iconst (v := 0) (q := 57) dX2_isContent_56 rfl (by decide) ?_
      obtain rfl := Option.some.inj h
      exact sm_zret dX2_isContent_57 rfl (by decide)
    · refine sm_icmp_lt (tgt := 56) (q := 52) dX2_isContent_49 (by decide) rfl (fun ht => absurd ht hb7) (fun _ => ?_)
      refine sm_iconst (v := 1) (q := 53) dX2_isContent_52 rfl (by decide) ?_
      refine sm_goto (q := 57) dX2_isContent_53 (by decide) ?_
      obtain rfl := Option.some.inj h
      exact sm_zret dX2_isContent_57 rfl (by decide)
theorem e_X2_isContent {l : Launch} {N : Nat} {R : Nat → Nat → Nat} {a0 : Nat} {a1 : Int32} {a2 : Int32} {a3 : Int32} {I : (Nat → Nat → Int32)} {y : (Int32 × (Nat → Nat → Int32))} (h : f_X2_isContent N R a0 a1 a2 a3 I = some y) : sm_E l 0 mX2_isContent [.inr (.inl a0), .inl a1, .inl a2, .inl a3] (I, R) (.inl (some (.inl y.1))) (y.2, R) :=
  sm_meth (by decide) (Nat.le_of_ble_eq_true rfl) (w_X2_isContent N R a0 a1 a2 a3 I y h)
def f_X2_isAtRest (N : Nat) (R : Nat → Nat → Nat) : Nat → Int32 → Int32 → (Nat → Nat → Int32) → Option (Int32 × (Nat → Nat → Int32)) := fun a0 a1 a2 I =>
  sm_gd (sm_kd a0 = (2, 3)) <|
  (f_X2_isContent N R a0 (0 : Int32) a1 a2 I).bind fun p2 =>
  if p2.1 = 0 then (
    some ((0 : Int32), p2.2))
  else (
    (f_X2_isContent N R a0 (1 : Int32) a2 a1 p2.2).bind fun p4 =>
    if p4.1 = 0 then (
      some ((0 : Int32), p4.2))
    else (
      some ((1 : Int32), p4.2)))
set_option maxHeartbeats 4000000 in
set_option maxRecDepth 100000 in
theorem w_X2_isAtRest {l : Launch} (N : Nat) (R : Nat → Nat → Nat) : ∀ (a0 : Nat) (a1 : Int32) (a2 : Int32) (I : (Nat → Nat → Int32)) (y : (Int32 × (Nat → Nat → Int32))), f_X2_isAtRest N R a0 a1 a2 I = some y → sm_W l 1 mX2_isAtRest 0 [(0, .inr (.inl a0)), (1, .inl a1), (2, .inl a2)] [] (I, R) (.inl (some (.inl y.1))) (y.2, R) := by
  intro a0 a1 a2 I y h
  unfold f_X2_isAtRest at h
  refine sm_aload_n (q := 1) dX2_isAtRest_0 rfl rfl 0 rfl ?_
  refine sm_iconst (v := 0) (q := 2) dX2_isAtRest_1 rfl (by decide) ?_
  refine sm_iload_n (q := 3) dX2_isAtRest_2 rfl rfl 1 rfl ?_
  refine sm_iload_n (q := 4) dX2_isAtRest_3 rfl rfl 2 rfl ?_
  obtain ⟨hc1, h⟩ := sm_gd_e h
  obtain ⟨p2, hc_p2, h⟩ := sm_bd_e h
  refine sm_callVi (q := 7) (As := [.inl (0 : Int32), .inl a1, .inl a2]) (S := []) (e_X2_isContent hc_p2) mv_X2_73 hc1 rfl (by decide) (Nat.le_of_ble_eq_true rfl) dX2_isAtRest_4 rfl ?_
  rcases sm_if_e h with ⟨hb3, h⟩ | ⟨hb3, h⟩
  · refine sm_if_eq (tgt := 24) (q := 10) dX2_isAtRest_7 (by decide) rfl (fun _ => ?_) (fun hn => absurd hb3 hn)
    refine sm_iconst (v := 0) (q := 25) dX2_isAtRest_24 rfl (by decide) ?_
    obtain rfl := Option.some.inj h
    exact sm_zret dX2_isAtRest_25 rfl (by decide)
  · refine sm_if_eq (tgt := 24) (q := 10) dX2_isAtRest_7 (by decide) rfl (fun ht => absurd ht hb3) (fun _ => ?_)
    refine sm_aload_n (q := 11) dX2_isAtRest_10 rfl rfl 0 rfl ?_
    refine sm_iconst (v := 1) (q := 12) dX2_isAtRest_11 rfl (by decide) ?_
    refine sm_iload_n (q := 13) dX2_isAtRest_12 rfl rfl 2 rfl ?_
    refine sm_iload_n (q := 14) dX2_isAtRest_13 rfl rfl 1 rfl ?_
    obtain ⟨p4, hc_p4, h⟩ := sm_bd_e h
    refine sm_callVi (q := 17) (As := [.inl (1 : Int32), .inl a2, .inl a1]) (S := []) (e_X2_isContent hc_p4) mv_X2_73 hc1 rfl (by decide) (Nat.le_of_ble_eq_true rfl) dX2_isAtRest_14 rfl ?_
    rcases sm_if_e h with ⟨hb5, h⟩ | ⟨hb5, h⟩
    · refine sm_if_eq (tgt := 24) (q := 20) dX2_isAtRest_17 (by decide) rfl (fun _ => ?_) (fun hn => absurd hb5 hn)
      refine sm_iconst (v := 0) (q := 25) dX2_isAtRest_24 rfl (by decide) ?_
      obtain rfl := Option.some.inj h
      exact sm_zret dX2_isAtRest_25 rfl (by decide)
    · refine sm_if_eq (tgt := 24) (q := 20) dX2_isAtRest_17 (by decide) rfl (fun ht => absurd ht hb5) (fun _ => ?_)
      refine sm_iconst (v := 1) (q := 21) dX2_isAtRest_20 rfl (by decide) ?_
      refine sm_goto (q := 25) dX2_isAtRest_21 (by decide) ?_
      obtain rfl := Option.some.inj h
      exact sm_zret dX2_isAtRest_25 rfl (by decide)
theorem e_X2_isAtRest {l : Launch} {N : Nat} {R : Nat → Nat → Nat} {a0 : Nat} {a1 : Int32} {a2 : Int32} {I : (Nat → Nat → Int32)} {y : (Int32 × (Nat → Nat → Int32))} (h : f_X2_isAtRest N R a0 a1 a2 I = some y) : sm_E l 1 mX2_isAtRest [.inr (.inl a0), .inl a1, .inl a2] (I, R) (.inl (some (.inl y.1))) (y.2, R) :=
  sm_meth (by decide) (Nat.le_of_ble_eq_true rfl) (w_X2_isAtRest N R a0 a1 a2 I y h)
def f_X7_clear (N : Nat) (R : Nat → Nat → Nat) : Nat → (Nat → Nat → Int32) → Option (Unit × (Nat → Nat → Int32)) := fun a0 I =>
  sm_gd (sm_kd a0 = (7, 9)) <|
  sm_lt (sm_up I a0 (sm_up (I a0) 3 (0 : Int32))) fun I2 =>
  sm_gd (sm_kd (R a0 4) = (6, 4)) <|
  (f_X6_clear N R (R a0 4) I2).bind fun p4 =>
  sm_gd (sm_kd (R a0 5) = (10, 4)) <|
  (f_X10_clear N R (R a0 5) p4.2).bind fun p6 =>
  some ((), p6.2)
set_option maxHeartbeats 4000000 in
set_option maxRecDepth 100000 in
theorem w_X7_clear {l : Launch} (N : Nat) (R : Nat → Nat → Nat) : ∀ (a0 : Nat) (I : (Nat → Nat → Int32)) (y : (Unit × (Nat → Nat → Int32))), f_X7_clear N R a0 I = some y → sm_W l 1 mX7_clear 0 [(0, .inr (.inl a0))] [] (I, R) (.inl none) (y.2, R) := by
  intro a0 I y h
  unfold f_X7_clear at h
  refine sm_aload_n (q := 1) dX7_clear_0 rfl rfl 0 rfl ?_
  refine sm_iconst (v := 0) (q := 2) dX7_clear_1 rfl (by decide) ?_
  obtain ⟨hc1, h⟩ := sm_gd_e h
  obtain ⟨I2, hI2, h⟩ := sm_lt_e h
  refine sm_putI (q := 5) dX7_clear_2 rfl fk_X7_44 hc1 (by decide) (by decide) ?_
  refine sm_memI hI2 ?_
  refine sm_aload_n (q := 6) dX7_clear_5 rfl rfl 0 rfl ?_
  refine sm_getR (r := R a0 4) (q := 9) dX7_clear_6 rfl fk_X7_24 hc1 (by decide) (by decide) rfl ?_
  obtain ⟨hc3, h⟩ := sm_gd_e h
  obtain ⟨p4, hc_p4, h⟩ := sm_bd_e h
  refine sm_callVv (q := 12) (As := []) (S := []) (e_X6_clear hc_p4) mv_X7_48 hc3 rfl (by decide) (Nat.le_of_ble_eq_true rfl) dX7_clear_9 rfl ?_
  refine sm_aload_n (q := 13) dX7_clear_12 rfl rfl 0 rfl ?_
  refine sm_getR (r := R a0 5) (q := 16) dX7_clear_13 rfl fk_X7_31 hc1 (by decide) (by decide) rfl ?_
  obtain ⟨hc5, h⟩ := sm_gd_e h
  obtain ⟨p6, hc_p6, h⟩ := sm_bd_e h
  refine sm_callVv (q := 19) (As := []) (S := []) (e_X10_clear hc_p6) mv_X7_51 hc5 rfl (by decide) (Nat.le_of_ble_eq_true rfl) dX7_clear_16 rfl ?_
  obtain rfl := Option.some.inj h
  exact sm_vret dX7_clear_19 rfl
theorem e_X7_clear {l : Launch} {N : Nat} {R : Nat → Nat → Nat} {a0 : Nat} {I : (Nat → Nat → Int32)} {y : (Unit × (Nat → Nat → Int32))} (h : f_X7_clear N R a0 I = some y) : sm_E l 1 mX7_clear [.inr (.inl a0)] (I, R) (.inl none) (y.2, R) :=
  sm_meth (by decide) (Nat.le_of_ble_eq_true rfl) (w_X7_clear N R a0 I y h)
def f_X7_steps_4 (N : Nat) (R : Nat → Nat → Nat) : Nat → Nat → Int32 → Int32 → Int32 → (Nat → Nat → Int32) → Option (Int32 × (Nat → Nat → Int32))
  | 0, _, _, _, _, _ => none
  | n + 1, a0, a1, a2, a3, I =>
    sm_gd (sm_kd a0 = (7, 9)) <|
    (f_X7_barsOf N R a0 a1 I).bind fun p2 =>
    if p2.1 ≤ a3 then (
      some (a2, p2.2))
    else (
      (f_X7_hardOf N R a0 a1 a3 p2.2).bind fun p4 =>
      (f_X7_hardOf N R a0 a1 (a3 - (1 : Int32)) p4.2).bind fun p5 =>
      f_X7_steps_4 N R n a0 a1 (sm_mx a2 (p4.1 - p5.1)) (a3 + 1) p5.2)
def f_X7_steps (N : Nat) (R : Nat → Nat → Nat) : Nat → Int32 → (Nat → Nat → Int32) → Option (Int32 × (Nat → Nat → Int32)) := fun a0 a1 I =>
  f_X7_steps_4 N R N a0 a1 (0 : Int32) (1 : Int32) I
set_option maxHeartbeats 4000000 in
set_option maxRecDepth 100000 in
theorem w_X7_steps_4 {l : Launch} (N : Nat) (R : Nat → Nat → Nat) : ∀ (n : Nat) (a0 : Nat) (a1 : Int32) (a2 : Int32) (a3 : Int32) (I : (Nat → Nat → Int32)) (y : (Int32 × (Nat → Nat → Int32))), f_X7_steps_4 N R n a0 a1 a2 a3 I = some y → sm_W l 1 mX7_steps 4 [(0, .inr (.inl a0)), (1, .inl a1), (2, .inl a2), (3, .inl a3)] [] (I, R) (.inl (some (.inl y.1))) (y.2, R) := by
  intro n
  induction n with
  | zero => intro a0 a1 a2 a3 I y h; cases h
  | succ n ih =>
    intro a0 a1 a2 a3 I y h
    rw [f_X7_steps_4] at h
    refine sm_iload_n (q := 5) dX7_steps_4 rfl rfl 3 rfl ?_
    refine sm_aload_n (q := 6) dX7_steps_5 rfl rfl 0 rfl ?_
    refine sm_iload_n (q := 7) dX7_steps_6 rfl rfl 1 rfl ?_
    obtain ⟨hc1, h⟩ := sm_gd_e h
    obtain ⟨p2, hc_p2, h⟩ := sm_bd_e h
    refine sm_callVi (q := 10) (As := [.inl a1]) (S := [.inl a3]) (e_X7_barsOf hc_p2) mv_X7_52 hc1 rfl (by decide) (Nat.le_of_ble_eq_true rfl) dX7_steps_7 rfl ?_
    rcases sm_if_e h with ⟨hb3, h⟩ | ⟨hb3, h⟩
    · refine sm_icmp_ge (tgt := 39) (q := 13) dX7_steps_10 (by decide) rfl (fun _ => ?_) (fun hn => absurd hb3 hn)
      refine sm_iload_n (q := 40) dX7_steps_39 rfl rfl 2 rfl ?_
      obtain rfl := Option.some.inj h
      exact sm_iret dX7_steps_40 rfl
    · refine sm_icmp_ge (tgt := 39) (q := 13) dX7_steps_10 (by decide) rfl (fun ht => absurd ht hb3) (fun _ => ?_)
      refine sm_iload_n (q := 14) dX7_steps_13 rfl rfl 2 rfl ?_
      refine sm_aload_n (q := 15) dX7_steps_14 rfl rfl 0 rfl ?_
      refine sm_iload_n (q := 16) dX7_steps_15 rfl rfl 1 rfl ?_
      refine sm_iload_n (q := 17) dX7_steps_16 rfl rfl 3 rfl ?_
      obtain ⟨p4, hc_p4, h⟩ := sm_bd_e h
      refine sm_callVi (q := 20) (As := [.inl a1, .inl a3]) (S := [.inl a2]) (e_X7_hardOf hc_p4) mv_X7_56 hc1 rfl (by decide) (Nat.le_of_ble_eq_true rfl) dX7_steps_17 rfl ?_
      refine sm_aload_n (q := 21) dX7_steps_20 rfl rfl 0 rfl ?_
      refine sm_iload_n (q := 22) dX7_steps_21 rfl rfl 1 rfl ?_
      refine sm_iload_n (q := 23) dX7_steps_22 rfl rfl 3 rfl ?_
      refine sm_iconst (v := 1) (q := 24) dX7_steps_23 rfl (by decide) ?_
      refine sm_isub (q := 25) dX7_steps_24 rfl ?_
      obtain ⟨p5, hc_p5, h⟩ := sm_bd_e h
      refine sm_callVi (q := 28) (As := [.inl a1, .inl (a3 - (1 : Int32))]) (S := [.inl p4.1, .inl a2]) (e_X7_hardOf hc_p5) mv_X7_56 hc1 rfl (by decide) (Nat.le_of_ble_eq_true rfl) dX7_steps_25 rfl ?_
      refine sm_isub (q := 29) dX7_steps_28 rfl ?_
      refine sm_mmx (q := 32) dX7_steps_29 rfl mm_X7_60 (Nat.le_of_ble_eq_true rfl) ?_
      refine sm_istore_n (L' := [(2, .inl (sm_mx a2 (p4.1 - p5.1))), (0, .inr (.inl a0)), (1, .inl a1), (3, .inl a3)]) (q := 33) dX7_steps_32 rfl rfl (by decide) rfl ?_
      refine sm_iinc (v := (a3 + 1)) (L' := [(3, .inl (a3 + 1)), (2, .inl (sm_mx a2 (p4.1 - p5.1))), (0, .inr (.inl a0)), (1, .inl a1)]) (q := 36) dX7_steps_33 rfl 3 rfl rfl (by decide) rfl ?_
      refine sm_goto (q := 4) dX7_steps_36 (by decide) ?_
      refine sm_pick [2, 3, 1, 0] rfl ?_
      exact ih _ _ _ _ _ _ h
set_option maxHeartbeats 4000000 in
set_option maxRecDepth 100000 in
theorem w_X7_steps {l : Launch} (N : Nat) (R : Nat → Nat → Nat) : ∀ (a0 : Nat) (a1 : Int32) (I : (Nat → Nat → Int32)) (y : (Int32 × (Nat → Nat → Int32))), f_X7_steps N R a0 a1 I = some y → sm_W l 1 mX7_steps 0 [(0, .inr (.inl a0)), (1, .inl a1)] [] (I, R) (.inl (some (.inl y.1))) (y.2, R) := by
  intro a0 a1 I y h
  unfold f_X7_steps at h
  refine sm_iconst (v := 0) (q := 1) dX7_steps_0 rfl (by decide) ?_
  refine sm_istore_n (L' := [(2, .inl (0 : Int32)), (0, .inr (.inl a0)), (1, .inl a1)]) (q := 2) dX7_steps_1 rfl rfl (by decide) rfl ?_
  refine sm_iconst (v := 1) (q := 3) dX7_steps_2 rfl (by decide) ?_
  refine sm_istore_n (L' := [(3, .inl (1 : Int32)), (2, .inl (0 : Int32)), (0, .inr (.inl a0)), (1, .inl a1)]) (q := 4) dX7_steps_3 rfl rfl (by decide) rfl ?_
  refine sm_pick [2, 3, 1, 0] rfl ?_
  exact w_X7_steps_4 N R N _ _ _ _ _ _ h
theorem e_X7_steps {l : Launch} {N : Nat} {R : Nat → Nat → Nat} {a0 : Nat} {a1 : Int32} {I : (Nat → Nat → Int32)} {y : (Int32 × (Nat → Nat → Int32))} (h : f_X7_steps N R a0 a1 I = some y) : sm_E l 1 mX7_steps [.inr (.inl a0), .inl a1] (I, R) (.inl (some (.inl y.1))) (y.2, R) :=
  sm_meth (by decide) (Nat.le_of_ble_eq_true rfl) (w_X7_steps N R a0 a1 I y h)
def f_X7_longestCommonRow_78 (N : Nat) (R : Nat → Nat → Nat) (k_50 : Nat → Int32 → Int32 → Int32 → Int32 → Int32 → (Nat → Nat → Int32) → Option (Int32 × (Nat → Nat → Int32))) : Nat → Int32 → Int32 → Int32 → Int32 → Int32 → Int32 → (Nat → Nat → Int32) → Option (Int32 × (Nat → Nat → Int32)) := fun a0 a1 a2 a3 a4 a5 b0 I =>
  sm_gd (sm_kd a0 = (7, 9)) <|
  if b0 = 0 then (
    sm_gd ((sm_kd (R a0 7)).1 = 13 ∧ ¬ ((a5 + (1 : Int32)) < 0 ∨ (sm_kd (R a0 7)).2 ≤ ((a5 + (1 : Int32))).toNatClampNeg)) <|
    sm_gd ((sm_kd (R a0 8)).1 = 13 ∧ ¬ (a5 < 0 ∨ (sm_kd (R a0 8)).2 ≤ (a5).toNatClampNeg)) <|
    sm_gd ((sm_kd (R a0 8)).1 = 13 ∧ ¬ ((a5 + (1 : Int32)) < 0 ∨ (sm_kd (R a0 8)).2 ≤ ((a5 + (1 : Int32))).toNatClampNeg)) <|
    sm_lt (sm_up I (R a0 8) (sm_up (I (R a0 8)) ((a5 + (1 : Int32))).toNatClampNeg (sm_mx (I (R a0 7) ((a5 + (1 : Int32))).toNatClampNeg) (I (R a0 8) (a5).toNatClampNeg)))) fun I6 =>
    k_50 a0 a1 a2 a3 a4 (a5 + 1) I6)
  else (
    sm_gd ((sm_kd (R a0 7)).1 = 13 ∧ ¬ (a5 < 0 ∨ (sm_kd (R a0 7)).2 ≤ (a5).toNatClampNeg)) <|
    sm_gd ((sm_kd (R a0 8)).1 = 13 ∧ ¬ ((a5 + (1 : Int32)) < 0 ∨ (sm_kd (R a0 8)).2 ≤ ((a5 + (1 : Int32))).toNatClampNeg)) <|
    sm_lt (sm_up I (R a0 8) (sm_up (I (R a0 8)) ((a5 + (1 : Int32))).toNatClampNeg ((I (R a0 7) (a5).toNatClampNeg) + (1 : Int32)))) fun I9 =>
    k_50 a0 a1 a2 a3 a4 (a5 + 1) I9)
def f_X7_longestCommonRow_50 (N : Nat) (R : Nat → Nat → Nat) (k_37 : Nat → Int32 → Int32 → Int32 → Int32 → (Nat → Nat → Int32) → Option (Int32 × (Nat → Nat → Int32))) : Nat → Nat → Int32 → Int32 → Int32 → Int32 → Int32 → (Nat → Nat → Int32) → Option (Int32 × (Nat → Nat → Int32))
  | 0, _, _, _, _, _, _, _ => none
  | n + 1, a0, a1, a2, a3, a4, a5, I =>
    if a3 ≤ a5 then (
      sm_gd (sm_kd a0 = (7, 9)) <|
      sm_gd ((sm_kd (R a0 8)).1 = 13) <|
      sm_gd (((sm_kd (R a0 8)).1 = 13 ∧ (sm_kd (R a0 7)).1 = 13) ∧ (¬ (0 : Int32) < 0 ∧ ¬ (0 : Int32) < 0 ∧ ¬ (Int32.ofNat (sm_kd (R a0 8)).2) < 0) ∧ ((0 : Int32)).toNatClampNeg + ((Int32.ofNat (sm_kd (R a0 8)).2)).toNatClampNeg ≤ (sm_kd (R a0 8)).2 ∧ ((0 : Int32)).toNatClampNeg + ((Int32.ofNat (sm_kd (R a0 8)).2)).toNatClampNeg ≤ (sm_kd (R a0 7)).2) <|
      sm_lt (sm_up I (R a0 7) (va_cpy (I (R a0 8)) (I (R a0 7)) ((0 : Int32)).toNatClampNeg ((0 : Int32)).toNatClampNeg ((Int32.ofNat (sm_kd (R a0 8)).2)).toNatClampNeg)) fun I5 =>
      k_37 a0 a1 a2 a3 (a4 + 1) I5)
    else (
      sm_gd (sm_kd a0 = (7, 9)) <|
      (f_X7_hardOf N R a0 a1 a4 I).bind fun p7 =>
      (f_X7_hardOf N R a0 a2 a5 p7.2).bind fun p8 =>
      if p7.1 = p8.1 then (
        f_X7_longestCommonRow_78 N R (fun z0 z1 z2 z3 z4 z5 J => f_X7_longestCommonRow_50 N R k_37 n z0 z1 z2 z3 z4 z5 J) a0 a1 a2 a3 a4 a5 (1 : Int32) p8.2)
      else (
        f_X7_longestCommonRow_78 N R (fun z0 z1 z2 z3 z4 z5 J => f_X7_longestCommonRow_50 N R k_37 n z0 z1 z2 z3 z4 z5 J) a0 a1 a2 a3 a4 a5 (0 : Int32) p8.2))
def f_X7_longestCommonRow_37 (N : Nat) (R : Nat → Nat → Nat) : Nat → Nat → Int32 → Int32 → Int32 → Int32 → (Nat → Nat → Int32) → Option (Int32 × (Nat → Nat → Int32))
  | 0, _, _, _, _, _, _ => none
  | n + 1, a0, a1, a2, a3, a4, I =>
    sm_gd (sm_kd a0 = (7, 9)) <|
    (f_X7_barsOf N R a0 a1 I).bind fun p2 =>
    if p2.1 ≤ a4 then (
      sm_gd ((sm_kd (R a0 7)).1 = 13 ∧ ¬ (a3 < 0 ∨ (sm_kd (R a0 7)).2 ≤ (a3).toNatClampNeg)) <|
      some ((p2.2 (R a0 7) (a3).toNatClampNeg), p2.2))
    else (
      f_X7_longestCommonRow_50 N R (fun z0 z1 z2 z3 z4 J => f_X7_longestCommonRow_37 N R n z0 z1 z2 z3 z4 J) N a0 a1 a2 a3 a4 (0 : Int32) p2.2)
def f_X7_longestCommonRow_2 (N : Nat) (R : Nat → Nat → Nat) : Nat → Nat → Int32 → Int32 → Int32 → (Nat → Nat → Int32) → Option (Int32 × (Nat → Nat → Int32))
  | 0, _, _, _, _, _ => none
  | n + 1, a0, a1, a2, a3, I =>
    if (8 : Int32) < a3 then (
      sm_gd (sm_kd a0 = (7, 9)) <|
      (f_X7_barsOf N R a0 a2 I).bind fun p3 =>
      f_X7_longestCommonRow_37 N R N a0 a1 a2 p3.1 (0 : Int32) p3.2)
    else (
      sm_gd (sm_kd a0 = (7, 9)) <|
      sm_gd ((sm_kd (R a0 7)).1 = 13 ∧ ¬ (a3 < 0 ∨ (sm_kd (R a0 7)).2 ≤ (a3).toNatClampNeg)) <|
      sm_lt (sm_up I (R a0 7) (sm_up (I (R a0 7)) (a3).toNatClampNeg (0 : Int32))) fun I6 =>
      sm_gd ((sm_kd (R a0 8)).1 = 13 ∧ ¬ (a3 < 0 ∨ (sm_kd (R a0 8)).2 ≤ (a3).toNatClampNeg)) <|
      sm_lt (sm_up I6 (R a0 8) (sm_up (I6 (R a0 8)) (a3).toNatClampNeg (0 : Int32))) fun I8 =>
      f_X7_longestCommonRow_2 N R n a0 a1 a2 (a3 + 1) I8)
def f_X7_longestCommonRow (N : Nat) (R : Nat → Nat → Nat) : Nat → Int32 → Int32 → (Nat → Nat → Int32) → Option (Int32 × (Nat → Nat → Int32)) := fun a0 a1 a2 I =>
  f_X7_longestCommonRow_2 N R N a0 a1 a2 (0 : Int32) I
set_option maxHeartbeats 4000000 in
set_option maxRecDepth 100000 in
theorem w_X7_longestCommonRow_78 {l : Launch} (N : Nat) (R : Nat → Nat → Nat) (k_50 : Nat → Int32 → Int32 → Int32 → Int32 → Int32 → (Nat → Nat → Int32) → Option (Int32 × (Nat → Nat → Int32))) (hk_50 : ∀ (a0 : Nat) (a1 : Int32) (a2 : Int32) (a3 : Int32) (a4 : Int32) (a5 : Int32) (I : (Nat → Nat → Int32)) (y : (Int32 × (Nat → Nat → Int32))), k_50 a0 a1 a2 a3 a4 a5 I = some y → sm_W l 1 mX7_longestCommonRow 50 [(0, .inr (.inl a0)), (1, .inl a1), (2, .inl a2), (3, .inl a3), (4, .inl a4), (5, .inl a5)] [] (I, R) (.inl (some (.inl y.1))) (y.2, R)) : ∀ (a0 : Nat) (a1 : Int32) (a2 : Int32) (a3 : Int32) (a4 : Int32) (a5 : Int32) (b0 : Int32) (I : (Nat → Nat → Int32)) (y : (Int32 × (Nat → Nat → Int32))), f_X7_longestCommonRow_78 N R k_50 a0 a1 a2 a3 a4 a5 b0 I = some y → sm_W l 1 mX7_longestCommonRow 78 [(0, .inr (.inl a0)), (1, .inl a1), (2, .inl a2), (3, .inl a3), (4, .inl a4), (5, .inl a5)] [.inl b0] (I, R) (.inl (some (.inl y.1))) (y.2, R) := by
  intro a0 a1 a2 a3 a4 a5 b0 I y h
  unfold f_X7_longestCommonRow_78 at h
  refine sm_istore (L' := [(6, .inl b0), (0, .inr (.inl a0)), (1, .inl a1), (2, .inl a2), (3, .inl a3), (4, .inl a4), (5, .inl a5)]) (q := 80) dX7_longestCommonRow_78 rfl (by decide) rfl ?_
  refine sm_aload_n (q := 81) dX7_longestCommonRow_80 rfl rfl 1 rfl ?_
  obtain ⟨hc1, h⟩ := sm_gd_e h
  refine sm_getR (r := R a0 8) (q := 84) dX7_longestCommonRow_81 rfl fk_X7_41 hc1 (by decide) (by decide) rfl ?_
  refine sm_iload (q := 86) dX7_longestCommonRow_84 rfl 6 rfl ?_
  refine sm_iconst (v := 1) (q := 87) dX7_longestCommonRow_86 rfl (by decide) ?_
  refine sm_iadd (q := 88) dX7_longestCommonRow_87 rfl ?_
  refine sm_iload (q := 90) dX7_longestCommonRow_88 rfl 0 rfl ?_
  rcases sm_if_e h with ⟨hb2, h⟩ | ⟨hb2, h⟩
  · refine sm_if_eq (tgt := 105) (q := 93) dX7_longestCommonRow_90 (by decide) rfl (fun _ => ?_) (fun hn => absurd hb2 hn)
    refine sm_aload_n (q := 106) dX7_longestCommonRow_105 rfl rfl 1 rfl ?_
    refine sm_getR (r := R a0 7) (q := 109) dX7_longestCommonRow_106 rfl fk_X7_38 hc1 (by decide) (by decide) rfl ?_
    refine sm_iload (q := 111) dX7_longestCommonRow_109 rfl 6 rfl ?_
    refine sm_iconst (v := 1) (q := 112) dX7_longestCommonRow_111 rfl (by decide) ?_
    refine sm_iadd (q := 113) dX7_longestCommonRow_112 rfl ?_
    obtain ⟨hc3, h⟩ := sm_gd_e h
    refine sm_iald (n := (sm_kd (R a0 7)).2) (q := 114) dX7_longestCommonRow_113 rfl (Prod.ext hc3.1 rfl) hc3.2 ?_
    refine sm_aload_n (q := 115) dX7_longestCommonRow_114 rfl rfl 1 rfl ?_
    refine sm_getR (r := R a0 8) (q := 118) dX7_longestCommonRow_115 rfl fk_X7_41 hc1 (by decide) (by decide) rfl ?_
    refine sm_iload (q := 120) dX7_longestCommonRow_118 rfl 6 rfl ?_
    obtain ⟨hc4, h⟩ := sm_gd_e h
    refine sm_iald (n := (sm_kd (R a0 8)).2) (q := 121) dX7_longestCommonRow_120 rfl (Prod.ext hc4.1 rfl) hc4.2 ?_
    refine sm_mmx (q := 124) dX7_longestCommonRow_121 rfl mm_X7_60 (Nat.le_of_ble_eq_true rfl) ?_
    obtain ⟨hc5, h⟩ := sm_gd_e h
    obtain ⟨I6, hI6, h⟩ := sm_lt_e h
    refine sm_iast (n := (sm_kd (R a0 8)).2) (q := 125) dX7_longestCommonRow_124 rfl (Prod.ext hc5.1 rfl) hc5.2 ?_
    refine sm_memI hI6 ?_
    refine sm_iinc (v := (a5 + 1)) (L' := [(5, .inl (a5 + 1)), (6, .inl b0), (0, .inr (.inl a0)), (1, .inl a1), (2, .inl a2), (3, .inl a3), (4, .inl a4)]) (q := 128) dX7_longestCommonRow_125 rfl 6 rfl rfl (by decide) rfl ?_
    refine sm_goto (q := 50) dX7_longestCommonRow_128 (by decide) ?_
    refine sm_pick [2, 3, 4, 5, 6, 0] rfl ?_
    exact hk_50 _ _ _ _ _ _ _ _ h
  · refine sm_if_eq (tgt := 105) (q := 93) dX7_longestCommonRow_90 (by decide) rfl (fun ht => absurd ht hb2) (fun _ => ?_)
    refine sm_aload_n (q := 94) dX7_longestCommonRow_93 rfl rfl 1 rfl ?_
    refine sm_getR (r := R a0 7) (q := 97) dX7_longestCommonRow_94 rfl fk_X7_38 hc1 (by decide) (by decide) rfl ?_
    refine sm_iload (q := 99) dX7_longestCommonRow_97 rfl 6 rfl ?_
    obtain ⟨hc7, h⟩ := sm_gd_e h
    refine sm_iald (n := (sm_kd (R a0 7)).2) (q := 100) dX7_longestCommonRow_99 rfl (Prod.ext hc7.1 rfl) hc7.2 ?_
    refine sm_iconst (v := 1) (q := 101) dX7_longestCommonRow_100 rfl (by decide) ?_
    refine sm_iadd (q := 102) dX7_longestCommonRow_101 rfl ?_
    refine sm_goto (q := 124) dX7_longestCommonRow_102 (by decide) ?_
    obtain ⟨hc8, h⟩ := sm_gd_e h
    obtain ⟨I9, hI9, h⟩ := sm_lt_e h
    refine sm_iast (n := (sm_kd (R a0 8)).2) (q := 125) dX7_longestCommonRow_124 rfl (Prod.ext hc8.1 rfl) hc8.2 ?_
    refine sm_memI hI9 ?_
    refine sm_iinc (v := (a5 + 1)) (L' := [(5, .inl (a5 + 1)), (6, .inl b0), (0, .inr (.inl a0)), (1, .inl a1), (2, .inl a2), (3, .inl a3), (4, .inl a4)]) (q := 128) dX7_longestCommonRow_125 rfl 6 rfl rfl (by decide) rfl ?_
    refine sm_goto (q := 50) dX7_longestCommonRow_128 (by decide) ?_
    refine sm_pick [2, 3, 4, 5, 6, 0] rfl ?_
    exact hk_50 _ _ _ _ _ _ _ _ h
set_option maxHeartbeats 4000000 in
set_option maxRecDepth 100000 in
theorem w_X7_longestCommonRow_50 {l : Launch} (N : Nat) (R : Nat → Nat → Nat) (k_37 : Nat → Int32 → Int32 → Int32 → Int32 → (Nat → Nat → Int32) → Option (Int32 × (Nat → Nat → Int32))) (hk_37 : ∀ (a0 : Nat) (a1 : Int32) (a2 : Int32) (a3 : Int32) (a4 : Int32) (I : (Nat → Nat → Int32)) (y : (Int32 × (Nat → Nat → Int32))), k_37 a0 a1 a2 a3 a4 I = some y → sm_W l 1 mX7_longestCommonRow 37 [(0, .inr (.inl a0)), (1, .inl a1), (2, .inl a2), (3, .inl a3), (4, .inl a4)] [] (I, R) (.inl (some (.inl y.1))) (y.2, R)) : ∀ (n : Nat) (a0 : Nat) (a1 : Int32) (a2 : Int32) (a3 : Int32) (a4 : Int32) (a5 : Int32) (I : (Nat → Nat → Int32)) (y : (Int32 × (Nat → Nat → Int32))), f_X7_longestCommonRow_50 N R k_37 n a0 a1 a2 a3 a4 a5 I = some y → sm_W l 1 mX7_longestCommonRow 50 [(0, .inr (.inl a0)), (1, .inl a1), (2, .inl a2), (3, .inl a3), (4, .inl a4), (5, .inl a5)] [] (I, R) (.inl (some (.inl y.1))) (y.2, R) := by
  intro n
  induction n with
  | zero => intro a0 a1 a2 a3 a4 a5 I y h; cases h
  | succ n ih =>
    intro a0 a1 a2 a3 a4 a5 I y h
    rw [f_X7_longestCommonRow_50] at h
    refine sm_iload (q := 52) dX7_longestCommonRow_50 rfl 5 rfl ?_
    refine sm_iload_n (q := 53) dX7_longestCommonRow_52 rfl rfl 3 rfl ?_
    rcases sm_if_e h with ⟨hb1, h⟩ | ⟨hb1, h⟩
    · refine sm_icmp_ge (tgt := 131) (q := 56) dX7_longestCommonRow_53 (by decide) rfl (fun _ => ?_) (fun hn => absurd hb1 hn)
      refine sm_aload_n (q := 132) dX7_longestCommonRow_131 rfl rfl 0 rfl ?_
      obtain ⟨hc2, h⟩ := sm_gd_e h
      refine sm_getR (r := R a0 8) (q := 135) dX7_longestCommonRow_132 rfl fk_X7_41 hc2 (by decide) (by decide) rfl ?_
      refine sm_iconst (v := 0) (q := 136) dX7_longestCommonRow_135 rfl (by decide) ?_
      refine sm_aload_n (q := 137) dX7_longestCommonRow_136 rfl rfl 0 rfl ?_
      refine sm_getR (r := R a0 7) (q := 140) dX7_longestCommonRow_137 rfl fk_X7_38 hc2 (by decide) (by decide) rfl ?_
      refine sm_iconst (v := 0) (q := 141) dX7_longestCommonRow_140 rfl (by decide) ?_
      refine sm_aload_n (q := 142) dX7_longestCommonRow_141 rfl rfl 0 rfl ?_
      refine sm_getR (r := R a0 8) (q := 145) dX7_longestCommonRow_142 rfl fk_X7_41 hc2 (by decide) (by decide) rfl ?_
      obtain ⟨hc3, h⟩ := sm_gd_e h
      refine sm_alenI (t := 0) (v := (Int32.ofNat (sm_kd (R a0 8)).2)) (q := 146) dX7_longestCommonRow_145 rfl (Prod.ext hc3 rfl) (by decide) rfl ?_
      obtain ⟨hc4, h⟩ := sm_gd_e h
      obtain ⟨I5, hI5, h⟩ := sm_lt_e h
      refine sm_copy (q := 149) dX7_longestCommonRow_146 rfl ac_X7_65 (Prod.ext hc4.1.1 rfl) (Prod.ext hc4.1.2 rfl) hc4.2.1.1 hc4.2.1.2.1 hc4.2.1.2.2 hc4.2.2.1 hc4.2.2.2 (Nat.le_of_ble_eq_true rfl) ?_
      refine sm_memI hI5 ?_
      refine sm_iinc (v := (a4 + 1)) (L' := [(4, .inl (a4 + 1)), (0, .inr (.inl a0)), (1, .inl a1), (2, .inl a2), (3, .inl a3), (5, .inl a5)]) (q := 152) dX7_longestCommonRow_149 rfl 4 rfl rfl (by decide) rfl ?_
      refine sm_goto (q := 37) dX7_longestCommonRow_152 (by decide) ?_
      refine sm_pick [1, 2, 3, 4, 0] rfl ?_
      exact hk_37 _ _ _ _ _ _ _ h
    · refine sm_icmp_ge (tgt := 131) (q := 56) dX7_longestCommonRow_53 (by decide) rfl (fun ht => absurd ht hb1) (fun _ => ?_)
      refine sm_aload_n (q := 57) dX7_longestCommonRow_56 rfl rfl 0 rfl ?_
      refine sm_iload_n (q := 58) dX7_longestCommonRow_57 rfl rfl 1 rfl ?_
      refine sm_iload (q := 60) dX7_longestCommonRow_58 rfl 4 rfl ?_
      obtain ⟨hc6, h⟩ := sm_gd_e h
      obtain ⟨p7, hc_p7, h⟩ := sm_bd_e h
      refine sm_callVi (q := 63) (As := [.inl a1, .inl a4]) (S := []) (e_X7_hardOf hc_p7) mv_X7_56 hc6 rfl (by decide) (Nat.le_of_ble_eq_true rfl) dX7_longestCommonRow_60 rfl ?_
      refine sm_aload_n (q := 64) dX7_longestCommonRow_63 rfl rfl 0 rfl ?_
      refine sm_iload_n (q := 65) dX7_longestCommonRow_64 rfl rfl 2 rfl ?_
      refine sm_iload (q := 67) dX7_longestCommonRow_65 rfl 5 rfl ?_
      obtain ⟨p8, hc_p8, h⟩ := sm_bd_e h
      refine sm_callVi (q := 70) (As := [.inl a2, .inl a5]) (S := [.inl p7.1]) (e_X7_hardOf hc_p8) mv_X7_56 hc6 rfl (by decide) (Nat.le_of_ble_eq_true rfl) dX7_longestCommonRow_67 rfl ?_
      rcases sm_if_e h with ⟨hb9, h⟩ | ⟨hb9, h⟩
      · refine sm_icmp_ne (tgt := 77) (q := 73) dX7_longestCommonRow_70 (by decide) rfl (fun hn => absurd hb9 hn) (fun _ => ?_)
        refine sm_iconst (v := 1) (q := 74) dX7_longestCommonRow_73 rfl (by decide) ?_
        refine sm_goto (q := 78) dX7_longestCommonRow_74 (by decide) ?_
        refine sm_pick [0, 1, 2, 3, 4, 5] rfl ?_
        exact w_X7_longestCommonRow_78 N R (fun z0 z1 z2 z3 z4 z5 J => f_X7_longestCommonRow_50 N R k_37 n z0 z1 z2 z3 z4 z5 J) (fun z0 z1 z2 z3 z4 z5 J y h => ih z0 z1 z2 z3 z4 z5 J y h) _ _ _ _ _ _ _ _ _ h
      · refine sm_icmp_ne (tgt := 77) (q := 73) dX7_longestCommonRow_70 (by decide) rfl (fun _ => ?_) (fun he => absurd he hb9)
        refine sm_iconst (v := 0) (q := 78) dX7_longestCommonRow_77 rfl (by decide) ?_
        refine sm_pick [0, 1, 2, 3, 4, 5] rfl ?_
        exact w_X7_longestCommonRow_78 N R (fun z0 z1 z2 z3 z4 z5 J => f_X7_longestCommonRow_50 N R k_37 n z0 z1 z2 z3 z4 z5 J) (fun z0 z1 z2 z3 z4 z5 J y h => ih z0 z1 z2 z3 z4 z5 J y h) _ _ _ _ _ _ _ _ _ h
set_option maxHeartbeats 4000000 in
set_option maxRecDepth 100000 in
theorem w_X7_longestCommonRow_37 {l : Launch} (N : Nat) (R : Nat → Nat → Nat) : ∀ (n : Nat) (a0 : Nat) (a1 : Int32) (a2 : Int32) (a3 : Int32) (a4 : Int32) (I : (Nat → Nat → Int32)) (y : (Int32 × (Nat → Nat → Int32))), f_X7_longestCommonRow_37 N R n a0 a1 a2 a3 a4 I = some y → sm_W l 1 mX7_longestCommonRow 37 [(0, .inr (.inl a0)), (1, .inl a1), (2, .inl a2), (3, .inl a3), (4, .inl a4)] [] (I, R) (.inl (some (.inl y.1))) (y.2, R) := by
  intro n
  induction n with
  | zero => intro a0 a1 a2 a3 a4 I y h; cases h
  | succ n ih =>
    intro a0 a1 a2 a3 a4 I y h
    rw [f_X7_longestCommonRow_37] at h
    refine sm_iload (q := 39) dX7_longestCommonRow_37 rfl 4 rfl ?_
    refine sm_aload_n (q := 40) dX7_longestCommonRow_39 rfl rfl 0 rfl ?_
    refine sm_iload_n (q := 41) dX7_longestCommonRow_40 rfl rfl 1 rfl ?_
    obtain ⟨hc1, h⟩ := sm_gd_e h
    obtain ⟨p2, hc_p2, h⟩ := sm_bd_e h
    refine sm_callVi (q := 44) (As := [.inl a1]) (S := [.inl a4]) (e_X7_barsOf hc_p2) mv_X7_52 hc1 rfl (by decide) (Nat.le_of_ble_eq_true rfl) dX7_longestCommonRow_41 rfl ?_
    rcases sm_if_e h with ⟨hb3, h⟩ | ⟨hb3, h⟩
    · refine sm_icmp_ge (tgt := 155) (q := 47) dX7_longestCommonRow_44 (by decide) rfl (fun _ => ?_) (fun hn => absurd hb3 hn)
      refine sm_aload_n (q := 156) dX7_longestCommonRow_155 rfl rfl 0 rfl ?_
      refine sm_getR (r := R a0 7) (q := 159) dX7_longestCommonRow_156 rfl fk_X7_38 hc1 (by decide) (by decide) rfl ?_
      refine sm_iload_n (q := 160) dX7_longestCommonRow_159 rfl rfl 3 rfl ?_
      obtain ⟨hc4, h⟩ := sm_gd_e h
      refine sm_iald (n := (sm_kd (R a0 7)).2) (q := 161) dX7_longestCommonRow_160 rfl (Prod.ext hc4.1 rfl) hc4.2 ?_
      obtain rfl := Option.some.inj h
      exact sm_iret dX7_longestCommonRow_161 rfl
    · refine sm_icmp_ge (tgt := 155) (q := 47) dX7_longestCommonRow_44 (by decide) rfl (fun ht => absurd ht hb3) (fun _ => ?_)
      refine sm_iconst (v := 0) (q := 48) dX7_longestCommonRow_47 rfl (by decide) ?_
      refine sm_istore (L' := [(5, .inl (0 : Int32)), (0, .inr (.inl a0)), (1, .inl a1), (2, .inl a2), (3, .inl a3), (4, .inl a4)]) (q := 50) dX7_longestCommonRow_48 rfl (by decide) rfl ?_
      refine sm_pick [1, 2, 3, 4, 5, 0] rfl ?_
      exact w_X7_longestCommonRow_50 N R (fun z0 z1 z2 z3 z4 J => f_X7_longestCommonRow_37 N R n z0 z1 z2 z3 z4 J) (fun z0 z1 z2 z3 z4 J y h => ih z0 z1 z2 z3 z4 J y h) N _ _ _ _ _ _ _ _ h
set_option maxHeartbeats 4000000 in
set_option maxRecDepth 100000 in
theorem w_X7_longestCommonRow_2 {l : Launch} (N : Nat) (R : Nat → Nat → Nat) : ∀ (n : Nat) (a0 : Nat) (a1 : Int32) (a2 : Int32) (a3 : Int32) (I : (Nat → Nat → Int32)) (y : (Int32 × (Nat → Nat → Int32))), f_X7_longestCommonRow_2 N R n a0 a1 a2 a3 I = some y → sm_W l 1 mX7_longestCommonRow 2 [(0, .inr (.inl a0)), (1, .inl a1), (2, .inl a2), (3, .inl a3)] [] (I, R) (.inl (some (.inl y.1))) (y.2, R) := by
  intro n
  induction n with
  | zero => intro a0 a1 a2 a3 I y h; cases h
  | succ n ih =>
    intro a0 a1 a2 a3 I y h
    rw [f_X7_longestCommonRow_2] at h
    refine sm_iload_n (q := 3) dX7_longestCommonRow_2 rfl rfl 3 rfl ?_
    refine sm_bipush (v := 8) (q := 5) dX7_longestCommonRow_3 rfl (by decide) ?_
    rcases sm_if_e h with ⟨hb1, h⟩ | ⟨hb1, h⟩
    · refine sm_icmp_gt (tgt := 28) (q := 8) dX7_longestCommonRow_5 (by decide) rfl (fun _ => ?_) (fun hn => absurd hb1 hn)
      refine sm_aload_n (q := 29) dX7_longestCommonRow_28 rfl rfl 0 rfl ?_
      refine sm_iload_n (q := 30) dX7_longestCommonRow_29 rfl rfl 2 rfl ?_
      obtain ⟨hc2, h⟩ := sm_gd_e h
      obtain ⟨p3, hc_p3, h⟩ := sm_bd_e h
      refine sm_callVi (q := 33) (As := [.inl a2]) (S := []) (e_X7_barsOf hc_p3) mv_X7_52 hc2 rfl (by decide) (Nat.le_of_ble_eq_true rfl) dX7_longestCommonRow_30 rfl ?_
      refine sm_istore_n (L' := [(3, .inl p3.1), (0, .inr (.inl a0)), (1, .inl a1), (2, .inl a2)]) (q := 34) dX7_longestCommonRow_33 rfl rfl (by decide) rfl ?_
      refine sm_iconst (v := 0) (q := 35) dX7_longestCommonRow_34 rfl (by decide) ?_
      refine sm_istore (L' := [(4, .inl (0 : Int32)), (3, .inl p3.1), (0, .inr (.inl a0)), (1, .inl a1), (2, .inl a2)]) (q := 37) dX7_longestCommonRow_35 rfl (by decide) rfl ?_
      refine sm_pick [2, 3, 4, 1, 0] rfl ?_
      exact w_X7_longestCommonRow_37 N R N _ _ _ _ _ _ _ h
    · refine sm_icmp_gt (tgt := 28) (q := 8) dX7_longestCommonRow_5 (by decide) rfl (fun ht => absurd ht hb1) (fun _ => ?_)
      refine sm_aload_n (q := 9) dX7_longestCommonRow_8 rfl rfl 0 rfl ?_
      obtain ⟨hc4, h⟩ := sm_gd_e h
      refine sm_getR (r := R a0 7) (q := 12) dX7_longestCommonRow_9 rfl fk_X7_38 hc4 (by decide) (by decide) rfl ?_
      refine sm_iload_n (q := 13) dX7_longestCommonRow_12 rfl rfl 3 rfl ?_
      refine sm_iconst (v := 0) (q := 14) dX7_longestCommonRow_13 rfl (by decide) ?_
      obtain ⟨hc5, h⟩ := sm_gd_e h
      obtain ⟨I6, hI6, h⟩ := sm_lt_e h
      refine sm_iast (n := (sm_kd (R a0 7)).2) (q := 15) dX7_longestCommonRow_14 rfl (Prod.ext hc5.1 rfl) hc5.2 ?_
      refine sm_memI hI6 ?_
      refine sm_aload_n (q := 16) dX7_longestCommonRow_15 rfl rfl 0 rfl ?_
      refine sm_getR (r := R a0 8) (q := 19) dX7_longestCommonRow_16 rfl fk_X7_41 hc4 (by decide) (by decide) rfl ?_
      refine sm_iload_n (q := 20) dX7_longestCommonRow_19 rfl rfl 3 rfl ?_
      refine sm_iconst (v := 0) (q := 21) dX7_longestCommonRow_20 rfl (by decide) ?_
      obtain ⟨hc7, h⟩ := sm_gd_e h
      obtain ⟨I8, hI8, h⟩ := sm_lt_e h
      refine sm_iast (n := (sm_kd (R a0 8)).2) (q := 22) dX7_longestCommonRow_21 rfl (Prod.ext hc7.1 rfl) hc7.2 ?_
      refine sm_memI hI8 ?_
      refine sm_iinc (v := (a3 + 1)) (L' := [(3, .inl (a3 + 1)), (0, .inr (.inl a0)), (1, .inl a1), (2, .inl a2)]) (q := 25) dX7_longestCommonRow_22 rfl 3 rfl rfl (by decide) rfl ?_
      refine sm_goto (q := 2) dX7_longestCommonRow_25 (by decide) ?_
      refine sm_pick [1, 2, 3, 0] rfl ?_
      exact ih _ _ _ _ _ _ h
set_option maxHeartbeats 4000000 in
set_option maxRecDepth 100000 in
theorem w_X7_longestCommonRow {l : Launch} (N : Nat) (R : Nat → Nat → Nat) : ∀ (a0 : Nat) (a1 : Int32) (a2 : Int32) (I : (Nat → Nat → Int32)) (y : (Int32 × (Nat → Nat → Int32))), f_X7_longestCommonRow N R a0 a1 a2 I = some y → sm_W l 1 mX7_longestCommonRow 0 [(0, .inr (.inl a0)), (1, .inl a1), (2, .inl a2)] [] (I, R) (.inl (some (.inl y.1))) (y.2, R) := by
  intro a0 a1 a2 I y h
  unfold f_X7_longestCommonRow at h
  refine sm_iconst (v := 0) (q := 1) dX7_longestCommonRow_0 rfl (by decide) ?_
  refine sm_istore_n (L' := [(3, .inl (0 : Int32)), (0, .inr (.inl a0)), (1, .inl a1), (2, .inl a2)]) (q := 2) dX7_longestCommonRow_1 rfl rfl (by decide) rfl ?_
  refine sm_pick [1, 2, 3, 0] rfl ?_
  exact w_X7_longestCommonRow_2 N R N _ _ _ _ _ _ h
theorem e_X7_longestCommonRow {l : Launch} {N : Nat} {R : Nat → Nat → Nat} {a0 : Nat} {a1 : Int32} {a2 : Int32} {I : (Nat → Nat → Int32)} {y : (Int32 × (Nat → Nat → Int32))} (h : f_X7_longestCommonRow N R a0 a1 a2 I = some y) : sm_E l 1 mX7_longestCommonRow [.inr (.inl a0), .inl a1, .inl a2] (I, R) (.inl (some (.inl y.1))) (y.2, R) :=
  sm_meth (by decide) (Nat.le_of_ble_eq_true rfl) (w_X7_longestCommonRow N R a0 a1 a2 I y h)
def f_X8_guessAway (N : Nat) (R : Nat → Nat → Nat) : Nat → Nat → Int32 → Int32 → (Nat → Nat → Int32) → Option (Unit × (Nat → Nat → Int32)) := fun a0 a1 a2 a3 I =>
  sm_gd (sm_kd a0 = (8, 5)) <|
  sm_gd (sm_kd a1 = (7, 9)) <|
  sm_gd (sm_kd (R a1 5) = (10, 4)) <|
  sm_gd ((sm_kd (R (R a1 5) 0)).1 = 16 ∧ ¬ (a2 < 0 ∨ (sm_kd (R (R a1 5) 0)).2 ≤ (a2).toNatClampNeg)) <|
  sm_gd (sm_kd (R a0 3) = (4, 6)) <|
  (f_X4_become N R (R a0 3) (R (R (R a1 5) 0) (a2).toNatClampNeg) I).bind fun p6 =>
  if a3 ≤ 0 then (
    some ((), p6.2))
  else (
    sm_lt (sm_up p6.2 (R a0 3) (sm_up (p6.2 (R a0 3)) 4 ((p6.2 (R a0 3) 4) ||| ((1 : Int32) <<< ((a3 - (1 : Int32)) &&& 31))))) fun I8 =>
    some ((), I8))
set_option maxHeartbeats 4000000 in
set_option maxRecDepth 100000 in
theorem w_X8_guessAway {l : Launch} (N : Nat) (R : Nat → Nat → Nat) : ∀ (a0 : Nat) (a1 : Nat) (a2 : Int32) (a3 : Int32) (I : (Nat → Nat → Int32)) (y : (Unit × (Nat → Nat → Int32))), f_X8_guessAway N R a0 a1 a2 a3 I = some y → sm_W l 1 mX8_guessAway 0 [(0, .inr (.inl a0)), (1, .inr (.inl a1)), (2, .inl a2), (3, .inl a3)] [] (I, R) (.inl none) (y.2, R) := by
  intro a0 a1 a2 a3 I y h
  unfold f_X8_guessAway at h
  refine sm_aload_n (q := 1) dX8_guessAway_0 rfl rfl 0 rfl ?_
  obtain ⟨hc1, h⟩ := sm_gd_e h
  refine sm_getR (r := R a0 3) (q := 4) dX8_guessAway_1 rfl fk_X8_18 hc1 (by decide) (by decide) rfl ?_
  refine sm_aload_n (q := 5) dX8_guessAway_4 rfl rfl 1 rfl ?_
  obtain ⟨hc2, h⟩ := sm_gd_e h
  refine sm_getR (r := R a1 5) (q := 8) dX8_guessAway_5 rfl fk_X8_26 hc2 (by decide) (by decide) rfl ?_
  obtain ⟨hc3, h⟩ := sm_gd_e h
  refine sm_getR (r := R (R a1 5) 0) (q := 11) dX8_guessAway_8 rfl fk_X8_50 hc3 (by decide) (by decide) rfl ?_
  refine sm_iload_n (q := 12) dX8_guessAway_11 rfl rfl 2 rfl ?_
  obtain ⟨hc4, h⟩ := sm_gd_e h
  refine sm_aald (t := 3) (n := (sm_kd (R (R a1 5) 0)).2) (q := 13) dX8_guessAway_12 rfl (Prod.ext hc4.1 rfl) (Or.inl ⟨rfl, rfl⟩) hc4.2 rfl ?_
  obtain ⟨hc5, h⟩ := sm_gd_e h
  obtain ⟨p6, hc_p6, h⟩ := sm_bd_e h
  refine sm_callVv (q := 16) (As := [.inr (.inl (R (R (R a1 5) 0) (a2).toNatClampNeg))]) (S := []) (e_X4_become hc_p6) mv_X8_58 hc5 rfl (by decide) (Nat.le_of_ble_eq_true rfl) dX8_guessAway_13 rfl ?_
  refine sm_iload_n (q := 17) dX8_guessAway_16 rfl rfl 3 rfl ?_
  rcases sm_if_e h with ⟨hb7, h⟩ | ⟨hb7, h⟩
  · refine sm_if_le (tgt := 37) (q := 20) dX8_guessAway_17 (by decide) rfl (fun _ => ?_) (fun hn => absurd hb7 hn)
    obtain rfl := Option.some.inj h
    exact sm_vret dX8_guessAway_37 rfl
  · refine sm_if_le (tgt := 37) (q := 20) dX8_guessAway_17 (by decide) rfl (fun ht => absurd ht hb7) (fun _ => ?_)
    refine sm_aload_n (q := 21) dX8_guessAway_20 rfl rfl 0 rfl ?_
    refine sm_getR (r := R a0 3) (q := 24) dX8_guessAway_21 rfl fk_X8_18 hc1 (by decide) (by decide) rfl ?_
    refine sm_dup (q := 25) dX8_guessAway_24 rfl rfl ?_
    refine sm_getI (q := 28) dX8_guessAway_25 rfl fk_X8_62 hc5 (by decide) (by decide) ?_
    refine sm_iconst (v := 1) (q := 29) dX8_guessAway_28 rfl (by decide) ?_
    refine sm_iload_n (q := 30) dX8_guessAway_29 rfl rfl 3 rfl ?_
    refine sm_iconst (v := 1) (q := 31) dX8_guessAway_30 rfl (by decide) ?_
    refine sm_isub (q := 32) dX8_guessAway_31 rfl ?_
    refine sm_ishl (q := 33) dX8_guessAway_32 rfl ?_
    refine sm_ior (q := 34) dX8_guessAway_33 rfl ?_
    obtain ⟨I8, hI8, h⟩ := sm_lt_e h
    refine sm_putI (q := 37) dX8_guessAway_34 rfl fk_X8_62 hc5 (by decide) (by decide) ?_
    refine sm_memI hI8 ?_
    obtain rfl := Option.some.inj h
    exact sm_vret dX8_guessAway_37 rfl
theorem e_X8_guessAway {l : Launch} {N : Nat} {R : Nat → Nat → Nat} {a0 : Nat} {a1 : Nat} {a2 : Int32} {a3 : Int32} {I : (Nat → Nat → Int32)} {y : (Unit × (Nat → Nat → Int32))} (h : f_X8_guessAway N R a0 a1 a2 a3 I = some y) : sm_E l 1 mX8_guessAway [.inr (.inl a0), .inr (.inl a1), .inl a2, .inl a3] (I, R) (.inl none) (y.2, R) :=
  sm_meth (by decide) (Nat.le_of_ble_eq_true rfl) (w_X8_guessAway N R a0 a1 a2 a3 I y h)
def f_X8_agrees_18 (N : Nat) (R : Nat → Nat → Nat) : Nat → Nat → Nat → Nat → Int32 → Int32 → Int32 → (Nat → Nat → Int32) → Option (Int32 × (Nat → Nat → Int32))
  | 0, _, _, _, _, _, _, _ => none
  | n + 1, a0, a1, a2, a3, a5, a6, I =>
    if a5 < a6 then (
      some ((1 : Int32), I))
    else (
      sm_gd (sm_kd a0 = (8, 5)) <|
      sm_gd (sm_kd a1 = (7, 9)) <|
      (f_X7_passWeeks N R a1 (R a0 3) (1 : Int32) I).bind fun p4 =>
      sm_gd (sm_kd (R a0 3) = (4, 6)) <|
      sm_gd (sm_kd a2 = (9, 4)) <|
      (f_X9_speaksAgainst N R a2 a3 a6 (p4.2 (R a0 3) 3) p4.2).bind fun p7 =>
      if p7.1 = 0 then (
        f_X8_agrees_18 N R n a0 a1 a2 a3 a5 (a6 + 1) p7.2)
      else (
        some ((0 : Int32), p7.2)))
def f_X8_agrees (N : Nat) (R : Nat → Nat → Nat) : Nat → Nat → Nat → Int32 → Int32 → (Nat → Nat → Int32) → Option (Int32 × (Nat → Nat → Int32)) := fun a0 a1 a2 a3 a4 I =>
  sm_gd (sm_kd a0 = (8, 5)) <|
  (f_X8_guessAway N R a0 a1 a3 a4 I).bind fun p2 =>
  sm_gd (sm_kd a2 = (9, 4)) <|
  (f_X9_lastWeekOf N R a2 a3 p2.2).bind fun p4 =>
  f_X8_agrees_18 N R N a0 a1 a2 a3 p4.1 (1 : Int32) p4.2
set_option maxHeartbeats 4000000 in
set_option maxRecDepth 100000 in
theorem w_X8_agrees_18 {l : Launch} (N : Nat) (R : Nat → Nat → Nat) : ∀ (n : Nat) (a0 : Nat) (a1 : Nat) (a2 : Nat) (a3 : Int32) (a5 : Int32) (a6 : Int32) (I : (Nat → Nat → Int32)) (y : (Int32 × (Nat → Nat → Int32))), f_X8_agrees_18 N R n a0 a1 a2 a3 a5 a6 I = some y → sm_W l 4 mX8_agrees 18 [(0, .inr (.inl a0)), (1, .inr (.inl a1)), (2, .inr (.inl a2)), (3, .inl a3), (5, .inl a5), (6, .inl a6)] [] (I, R) (.inl (some (.inl y.1))) (y.2, R) := by
  intro n
  induction n with
  | zero => intro a0 a1 a2 a3 a5 a6 I y h; cases h
  | succ n ih =>
    intro a0 a1 a2 a3 a5 a6 I y h
    rw [f_X8_agrees_18] at h
    refine sm_iload (q := 20) dX8_agrees_18 rfl 5 rfl ?_
    refine sm_iload (q := 22) dX8_agrees_20 rfl 4 rfl ?_
    rcases sm_if_e h with ⟨hb1, h⟩ | ⟨hb1, h⟩
    · refine sm_icmp_gt (tgt := 59) (q := 25) dX8_agrees_22 (by decide) rfl (fun _ => ?_) (fun hn => absurd hb1 hn)
      refine sm_iconst (v := 1) (q := 60) dX8_agrees_59 rfl (by decide) ?_
      obtain rfl := Option.some.inj h
      exact sm_zret dX8_agrees_60 rfl (by decide)
    · refine sm_icmp_gt (tgt := 59) (q := 25) dX8_agrees_22 (by decide) rfl (fun ht => absurd ht hb1) (fun _ => ?_)
      refine sm_aload_n (q := 26) dX8_agrees_25 rfl rfl 1 rfl ?_
      refine sm_aload_n (q := 27) dX8_agrees_26 rfl rfl 0 rfl ?_
      obtain ⟨hc2, h⟩ := sm_gd_e h
      refine sm_getR (r := R a0 3) (q := 30) dX8_agrees_27 rfl fk_X8_18 hc2 (by decide) (by decide) rfl ?_
      refine sm_iconst (v := 1) (q := 31) dX8_agrees_30 rfl (by decide) ?_
      obtain ⟨hc3, h⟩ := sm_gd_e h
      obtain ⟨p4, hc_p4, h⟩ := sm_bd_e h
      refine sm_callVv (q := 34) (As := [.inr (.inl (R a0 3)), .inl (1 : Int32)]) (S := []) (e_X7_passWeeks hc_p4) mv_X8_75 hc3 rfl (by decide) (Nat.le_of_ble_eq_true rfl) dX8_agrees_31 rfl ?_
      refine sm_aload_n (q := 35) dX8_agrees_34 rfl rfl 2 rfl ?_
      refine sm_iload_n (q := 36) dX8_agrees_35 rfl rfl 3 rfl ?_
      refine sm_iload (q := 38) dX8_agrees_36 rfl 5 rfl ?_
      refine sm_aload_n (q := 39) dX8_agrees_38 rfl rfl 0 rfl ?_
      refine sm_getR (r := R a0 3) (q := 42) dX8_agrees_39 rfl fk_X8_18 hc2 (by decide) (by decide) rfl ?_
      obtain ⟨hc5, h⟩ := sm_gd_e h
      refine sm_getI (q := 45) dX8_agrees_42 rfl fk_X8_79 hc5 (by decide) (by decide) ?_
      obtain ⟨hc6, h⟩ := sm_gd_e h
      obtain ⟨p7, hc_p7, h⟩ := sm_bd_e h
      refine sm_callVi (q := 48) (As := [.inl a3, .inl a6, .inl (p4.2 (R a0 3) 3)]) (S := []) (e_X9_speaksAgainst hc_p7) mv_X8_82 hc6 rfl (by decide) (Nat.le_of_ble_eq_true rfl) dX8_agrees_45 rfl ?_
      rcases sm_if_e h with ⟨hb8, h⟩ | ⟨hb8, h⟩
      · refine sm_if_eq (tgt := 53) (q := 51) dX8_agrees_48 (by decide) rfl (fun _ => ?_) (fun hn => absurd hb8 hn)
        refine sm_iinc (v := (a6 + 1)) (L' := [(6, .inl (a6 + 1)), (0, .inr (.inl a0)), (1, .inr (.inl a1)), (2, .inr (.inl a2)), (3, .inl a3), (5, .inl a5)]) (q := 56) dX8_agrees_53 rfl 5 rfl rfl (by decide) rfl ?_
        refine sm_goto (q := 18) dX8_agrees_56 (by decide) ?_
        refine sm_pick [1, 2, 3, 4, 5, 0] rfl ?_
        exact ih _ _ _ _ _ _ _ _ h
      · refine sm_if_eq (tgt := 53) (q := 51) dX8_agrees_48 (by decide) rfl (fun ht => absurd ht hb8) (fun _ => ?_)
        refine sm_iconst (v := 0) (q := 52) dX8_agrees_51 rfl (by decide) ?_
        obtain rfl := Option.some.inj h
        exact sm_zret dX8_agrees_52 rfl (by decide)
set_option maxHeartbeats 4000000 in
set_option maxRecDepth 100000 in
theorem w_X8_agrees {l : Launch} (N : Nat) (R : Nat → Nat → Nat) : ∀ (a0 : Nat) (a1 : Nat) (a2 : Nat) (a3 : Int32) (a4 : Int32) (I : (Nat → Nat → Int32)) (y : (Int32 × (Nat → Nat → Int32))), f_X8_agrees N R a0 a1 a2 a3 a4 I = some y → sm_W l 4 mX8_agrees 0 [(0, .inr (.inl a0)), (1, .inr (.inl a1)), (2, .inr (.inl a2)), (3, .inl a3), (4, .inl a4)] [] (I, R) (.inl (some (.inl y.1))) (y.2, R) := by
  intro a0 a1 a2 a3 a4 I y h
  unfold f_X8_agrees at h
  refine sm_aload_n (q := 1) dX8_agrees_0 rfl rfl 0 rfl ?_
  refine sm_aload_n (q := 2) dX8_agrees_1 rfl rfl 1 rfl ?_
  refine sm_iload_n (q := 3) dX8_agrees_2 rfl rfl 3 rfl ?_
  refine sm_iload (q := 5) dX8_agrees_3 rfl 4 rfl ?_
  obtain ⟨hc1, h⟩ := sm_gd_e h
  obtain ⟨p2, hc_p2, h⟩ := sm_bd_e h
  refine sm_callVv (q := 8) (As := [.inr (.inl a1), .inl a3, .inl a4]) (S := []) (e_X8_guessAway hc_p2) mv_X8_65 hc1 rfl (by decide) (Nat.le_of_ble_eq_true rfl) dX8_agrees_5 rfl ?_
  refine sm_aload_n (q := 9) dX8_agrees_8 rfl rfl 2 rfl ?_
  refine sm_iload_n (q := 10) dX8_agrees_9 rfl rfl 3 rfl ?_
  obtain ⟨hc3, h⟩ := sm_gd_e h
  obtain ⟨p4, hc_p4, h⟩ := sm_bd_e h
  refine sm_callVi (q := 13) (As := [.inl a3]) (S := []) (e_X9_lastWeekOf hc_p4) mv_X8_69 hc3 rfl (by decide) (Nat.le_of_ble_eq_true rfl) dX8_agrees_10 rfl ?_
  refine sm_istore (L' := [(5, .inl p4.1), (0, .inr (.inl a0)), (1, .inr (.inl a1)), (2, .inr (.inl a2)), (3, .inl a3), (4, .inl a4)]) (q := 15) dX8_agrees_13 rfl (by decide) rfl ?_
  refine sm_iconst (v := 1) (q := 16) dX8_agrees_15 rfl (by decide) ?_
  refine sm_istore (L' := [(6, .inl (1 : Int32)), (5, .inl p4.1), (0, .inr (.inl a0)), (1, .inr (.inl a1)), (2, .inr (.inl a2)), (3, .inl a3), (4, .inl a4)]) (q := 18) dX8_agrees_16 rfl (by decide) rfl ?_
  refine sm_pick [2, 3, 4, 5, 1, 0] rfl ?_
  exact w_X8_agrees_18 N R N _ _ _ _ _ _ _ _ h
theorem e_X8_agrees {l : Launch} {N : Nat} {R : Nat → Nat → Nat} {a0 : Nat} {a1 : Nat} {a2 : Nat} {a3 : Int32} {a4 : Int32} {I : (Nat → Nat → Int32)} {y : (Int32 × (Nat → Nat → Int32))} (h : f_X8_agrees N R a0 a1 a2 a3 a4 I = some y) : sm_E l 4 mX8_agrees [.inr (.inl a0), .inr (.inl a1), .inr (.inl a2), .inl a3, .inl a4] (I, R) (.inl (some (.inl y.1))) (y.2, R) :=
  sm_meth (by decide) (Nat.le_of_ble_eq_true rfl) (w_X8_agrees N R a0 a1 a2 a3 a4 I y h)
def f_X8_weeksThatAgree_6 (N : Nat) (R : Nat → Nat → Nat) : Nat → Nat → Nat → Nat → Int32 → Int32 → Int32 → (Nat → Nat → Int32) → Option (Int32 × (Nat → Nat → Int32))
  | 0, _, _, _, _, _, _, _ => none
  | n + 1, a0, a1, a2, a3, a4, a5, I =>
    if (20 : Int32) < a5 then (
      some (a4, I))
    else (
      sm_gd (sm_kd a1 = (7, 9)) <|
      sm_gd (sm_kd (R a1 5) = (10, 4)) <|
      sm_gd ((sm_kd (R (R a1 5) 0)).1 = 16 ∧ ¬ (a3 < 0 ∨ (sm_kd (R (R a1 5) 0)).2 ≤ (a3).toNatClampNeg)) <|
      sm_gd (sm_kd (R (R (R a1 5) 0) (a3).toNatClampNeg) = (4, 6)) <|
      (f_X4_isAwayIn N R (R (R (R a1 5) 0) (a3).toNatClampNeg) a5 I).bind fun p6 =>
      if p6.1 = 0 then (
        sm_gd (sm_kd a0 = (8, 5)) <|
        (f_X8_agrees N R a0 a1 a2 a3 a5 p6.2).bind fun p9 =>
        if p9.1 = 0 then (
          f_X8_weeksThatAgree_6 N R n a0 a1 a2 a3 a4 (a5 + 1) p9.2)
        else (
          f_X8_weeksThatAgree_6 N R n a0 a1 a2 a3 (a4 ||| ((1 : Int32) <<< ((a5 - (1 : Int32)) &&& 31))) (a5 + 1) p9.2))
      else (
        f_X8_weeksThatAgree_6 N R n a0 a1 a2 a3 a4 (a5 + 1) p6.2))
def f_X8_weeksThatAgree (N : Nat) (R : Nat → Nat → Nat) : Nat → Nat → Nat → Int32 → (Nat → Nat → Int32) → Option (Int32 × (Nat → Nat → Int32)) := fun a0 a1 a2 a3 I =>
  f_X8_weeksThatAgree_6 N R N a0 a1 a2 a3 (0 : Int32) (1 : Int32) I
set_option maxHeartbeats 4000000 in
set_option maxRecDepth 100000 in
theorem w_X8_weeksThatAgree_6 {l : Launch} (N : Nat) (R : Nat → Nat → Nat) : ∀ (n : Nat) (a0 : Nat) (a1 : Nat) (a2 : Nat) (a3 : Int32) (a4 : Int32) (a5 : Int32) (I : (Nat → Nat → Int32)) (y : (Int32 × (Nat → Nat → Int32))), f_X8_weeksThatAgree_6 N R n a0 a1 a2 a3 a4 a5 I = some y → sm_W l 5 mX8_weeksThatAgree 6 [(0, .inr (.inl a0)), (1, .inr (.inl a1)), (2, .inr (.inl a2)), (3, .inl a3), (4, .inl a4), (5, .inl a5)] [] (I, R) (.inl (some (.inl y.1))) (y.2, R) := by
  intro n
  induction n with
  | zero => intro a0 a1 a2 a3 a4 a5 I y h; cases h
  | succ n ih =>
    intro a0 a1 a2 a3 a4 a5 I y h
    rw [f_X8_weeksThatAgree_6] at h
    refine sm_iload (q := 8) dX8_weeksThatAgree_6 rfl 5 rfl ?_
    refine sm_bipush (v := 20) (q := 10) dX8_weeksThatAgree_8 rfl (by decide) ?_
    rcases sm_if_e h with ⟨hb1, h⟩ | ⟨hb1, h⟩
    · refine sm_icmp_gt (tgt := 59) (q := 13) dX8_weeksThatAgree_10 (by decide) rfl (fun _ => ?_) (fun hn => absurd hb1 hn)
      refine sm_iload (q := 61) dX8_weeksThatAgree_59 rfl 4 rfl ?_
      obtain rfl := Option.some.inj h
      exact sm_iret dX8_weeksThatAgree_61 rfl
    · refine sm_icmp_gt (tgt := 59) (q := 13) dX8_weeksThatAgree_10 (by decide) rfl (fun ht => absurd ht hb1) (fun _ => ?_)
      refine sm_aload_n (q := 14) dX8_weeksThatAgree_13 rfl rfl 1 rfl ?_
      obtain ⟨hc2, h⟩ := sm_gd_e h
      refine sm_getR (r := R a1 5) (q := 17) dX8_weeksThatAgree_14 rfl fk_X8_26 hc2 (by decide) (by decide) rfl ?_
      obtain ⟨hc3, h⟩ := sm_gd_e h
      refine sm_getR (r := R (R a1 5) 0) (q := 20) dX8_weeksThatAgree_17 rfl fk_X8_50 hc3 (by decide) (by decide) rfl ?_
      refine sm_iload_n (q := 21) dX8_weeksThatAgree_20 rfl rfl 3 rfl ?_
      obtain ⟨hc4, h⟩ := sm_gd_e h
      refine sm_aald (t := 3) (n := (sm_kd (R (R a1 5) 0)).2) (q := 22) dX8_weeksThatAgree_21 rfl (Prod.ext hc4.1 rfl) (Or.inl ⟨rfl, rfl⟩) hc4.2 rfl ?_
      refine sm_iload (q := 24) dX8_weeksThatAgree_22 rfl 5 rfl ?_
      obtain ⟨hc5, h⟩ := sm_gd_e h
      obtain ⟨p6, hc_p6, h⟩ := sm_bd_e h
      refine sm_callVi (q := 27) (As := [.inl a5]) (S := []) (e_X4_isAwayIn hc_p6) mv_X8_54 hc5 rfl (by decide) (Nat.le_of_ble_eq_true rfl) dX8_weeksThatAgree_24 rfl ?_
      rcases sm_if_e h with ⟨hb7, h⟩ | ⟨hb7, h⟩
      · refine sm_if_ne (tgt := 53) (q := 30) dX8_weeksThatAgree_27 (by decide) rfl (fun hn => absurd hb7 hn) (fun _ => ?_)
        refine sm_aload_n (q := 31) dX8_weeksThatAgree_30 rfl rfl 0 rfl ?_
        refine sm_aload_n (q := 32) dX8_weeksThatAgree_31 rfl rfl 1 rfl ?_
        refine sm_aload_n (q := 33) dX8_weeksThatAgree_32 rfl rfl 2 rfl ?_
        refine sm_iload_n (q := 34) dX8_weeksThatAgree_33 rfl rfl 3 rfl ?_
        refine sm_iload (q := 36) dX8_weeksThatAgree_34 rfl 5 rfl ?_
        obtain ⟨hc8, h⟩ := sm_gd_e h
        obtain ⟨p9, hc_p9, h⟩ := sm_bd_e h
        refine sm_callVi (q := 39) (As := [.inr (.inl a1), .inr (.inl a2), .inl a3, .inl a5]) (S := []) (e_X8_agrees hc_p9) mv_X8_42 hc8 rfl (by decide) (Nat.le_of_ble_eq_true rfl) dX8_weeksThatAgree_36 rfl ?_
        rcases sm_if_e h with ⟨hb10, h⟩ | ⟨hb10, h⟩
        · refine sm_if_eq (tgt := 53) (q := 42) dX8_weeksThatAgree_39 (by decide) rfl (fun _ => ?_) (fun hn => absurd hb10 hn)
          refine sm_iinc (v := (a5 + 1)) (L' := [(5, .inl (a5 + 1)), (0, .inr (.inl a0)), (1, .inr (.inl a1)), (2, .inr (.inl a2)), (3, .inl a3), (4, .inl a4)]) (q := 56) dX8_weeksThatAgree_53 rfl 5 rfl rfl (by decide) rfl ?_
          refine sm_goto (q := 6) dX8_weeksThatAgree_56 (by decide) ?_
          refine sm_pick [1, 2, 3, 4, 5, 0] rfl ?_
          exact ih _ _ _ _ _ _ _ _ h
        · refine sm_if_eq (tgt := 53) (q := 42) dX8_weeksThatAgree_39 (by decide) rfl (fun ht => absurd ht hb10) (fun _ => ?_)
          refine sm_iload (q := 44) dX8_weeksThatAgree_42 rfl 4 rfl ?_
          refine sm_iconst (v := 1) (q := 45) dX8_weeksThatAgree_44 rfl (by decide) ?_
          refine sm_iload (q := 47) dX8_weeksThatAgree_45 rfl 5 rfl ?_
          refine sm_iconst (v := 1) (q := 48) dX8_weeksThatAgree_47 rfl (by decide) ?_
          refine sm_isub (q := 49) dX8_weeksThatAgree_48 rfl ?_
          refine sm_ishl (q := 50) dX8_weeksThatAgree_49 rfl ?_
          refine sm_ior (q := 51) dX8_weeksThatAgree_50 rfl ?_
          refine sm_istore (L' := [(4, .inl (a4 ||| ((1 : Int32) <<< ((a5 - (1 : Int32)) &&& 31)))), (0, .inr (.inl a0)), (1, .inr (.inl a1)), (2, .inr (.inl a2)), (3, .inl a3), (5, .inl a5)]) (q := 53) dX8_weeksThatAgree_51 rfl (by decide) rfl ?_
          refine sm_iinc (v := (a5 + 1)) (L' := [(5, .inl (a5 + 1)), (4, .inl (a4 ||| ((1 : Int32) <<< ((a5 - (1 : Int32)) &&& 31)))), (0, .inr (.inl a0)), (1, .inr (.inl a1)), (2, .inr (.inl a2)), (3, .inl a3)]) (q := 56) dX8_weeksThatAgree_53 rfl 5 rfl rfl (by decide) rfl ?_
          refine sm_goto (q := 6) dX8_weeksThatAgree_56 (by decide) ?_
          refine sm_pick [2, 3, 4, 5, 1, 0] rfl ?_
          exact ih _ _ _ _ _ _ _ _ h
      · refine sm_if_ne (tgt := 53) (q := 30) dX8_weeksThatAgree_27 (by decide) rfl (fun _ => ?_) (fun he => absurd he hb7)
        refine sm_iinc (v := (a5 + 1)) (L' := [(5, .inl (a5 + 1)), (0, .inr (.inl a0)), (1, .inr (.inl a1)), (2, .inr (.inl a2)), (3, .inl a3), (4, .inl a4)]) (q := 56) dX8_weeksThatAgree_53 rfl 5 rfl rfl (by decide) rfl ?_
        refine sm_goto (q := 6) dX8_weeksThatAgree_56 (by decide) ?_
        refine sm_pick [1, 2, 3, 4, 5, 0] rfl ?_
        exact ih _ _ _ _ _ _ _ _ h
set_option maxHeartbeats 4000000 in
set_option maxRecDepth 100000 in
theorem w_X8_weeksThatAgree {l : Launch} (N : Nat) (R : Nat → Nat → Nat) : ∀ (a0 : Nat) (a1 : Nat) (a2 : Nat) (a3 : Int32) (I : (Nat → Nat → Int32)) (y : (Int32 × (Nat → Nat → Int32))), f_X8_weeksThatAgree N R a0 a1 a2 a3 I = some y → sm_W l 5 mX8_weeksThatAgree 0 [(0, .inr (.inl a0)), (1, .inr (.inl a1)), (2, .inr (.inl a2)), (3, .inl a3)] [] (I, R) (.inl (some (.inl y.1))) (y.2, R) := by
  intro a0 a1 a2 a3 I y h
  unfold f_X8_weeksThatAgree at h
  refine sm_iconst (v := 0) (q := 1) dX8_weeksThatAgree_0 rfl (by decide) ?_
  refine sm_istore (L' := [(4, .inl (0 : Int32)), (0, .inr (.inl a0)), (1, .inr (.inl a1)), (2, .inr (.inl a2)), (3, .inl a3)]) (q := 3) dX8_weeksThatAgree_1 rfl (by decide) rfl ?_
  refine sm_iconst (v := 1) (q := 4) dX8_weeksThatAgree_3 rfl (by decide) ?_
  refine sm_istore (L' := [(5, .inl (1 : Int32)), (4, .inl (0 : Int32)), (0, .inr (.inl a0)), (1, .inr (.inl a1)), (2, .inr (.inl a2)), (3, .inl a3)]) (q := 6) dX8_weeksThatAgree_4 rfl (by decide) rfl ?_
  refine sm_pick [2, 3, 4, 5, 1, 0] rfl ?_
  exact w_X8_weeksThatAgree_6 N R N _ _ _ _ _ _ _ _ h
theorem e_X8_weeksThatAgree {l : Launch} {N : Nat} {R : Nat → Nat → Nat} {a0 : Nat} {a1 : Nat} {a2 : Nat} {a3 : Int32} {I : (Nat → Nat → Int32)} {y : (Int32 × (Nat → Nat → Int32))} (h : f_X8_weeksThatAgree N R a0 a1 a2 a3 I = some y) : sm_E l 5 mX8_weeksThatAgree [.inr (.inl a0), .inr (.inl a1), .inr (.inl a2), .inl a3] (I, R) (.inl (some (.inl y.1))) (y.2, R) :=
  sm_meth (by decide) (Nat.le_of_ble_eq_true rfl) (w_X8_weeksThatAgree N R a0 a1 a2 a3 I y h)
def f_X8_look_83 (N : Nat) (R : Nat → Nat → Nat) (k_57 : Nat → Nat → Nat → Int32 → (Nat → Nat → Int32) → Option (Unit × (Nat → Nat → Int32))) : Nat → Nat → Nat → Int32 → Int32 → (Nat → Nat → Int32) → Option (Unit × (Nat → Nat → Int32)) := fun a0 a1 a2 a3 b0 I =>
  sm_gd (sm_kd a0 = (8, 5)) <|
  if b0 = 0 then (
    sm_gd ((sm_kd (R a0 0)).1 = 13 ∧ ¬ (a3 < 0 ∨ (sm_kd (R a0 0)).2 ≤ (a3).toNatClampNeg)) <|
    sm_lt (sm_up I (R a0 0) (sm_up (I (R a0 0)) (a3).toNatClampNeg (0 : Int32))) fun I4 =>
    k_57 a0 a1 a2 (a3 + 1) I4)
  else (
    (f_X8_weeksThatAgree N R a0 a1 a2 a3 I).bind fun p5 =>
    sm_gd ((sm_kd (R a0 0)).1 = 13 ∧ ¬ (a3 < 0 ∨ (sm_kd (R a0 0)).2 ≤ (a3).toNatClampNeg)) <|
    sm_lt (sm_up p5.2 (R a0 0) (sm_up (p5.2 (R a0 0)) (a3).toNatClampNeg p5.1)) fun I7 =>
    k_57 a0 a1 a2 (a3 + 1) I7)
def f_X8_look_57 (N : Nat) (R : Nat → Nat → Nat) : Nat → Nat → Nat → Nat → Int32 → (Nat → Nat → Int32) → Option (Unit × (Nat → Nat → Int32))
  | 0, _, _, _, _, _ => none
  | n + 1, a0, a1, a2, a3, I =>
    sm_gd (sm_kd a0 = (8, 5)) <|
    if (I a0 1) ≤ a3 then (
      some ((), I))
    else (
      if ((I a0 2) &&& (((1 : Int32) <<< (a3 &&& 31)) ^^^ (-1 : Int32))) = 0 then (
        f_X8_look_83 N R (fun z0 z1 z2 z3 J => f_X8_look_57 N R n z0 z1 z2 z3 J) a0 a1 a2 a3 (1 : Int32) I)
      else (
        f_X8_look_83 N R (fun z0 z1 z2 z3 J => f_X8_look_57 N R n z0 z1 z2 z3 J) a0 a1 a2 a3 (0 : Int32) I))
def f_X8_look_18 (N : Nat) (R : Nat → Nat → Nat) : Nat → Nat → Nat → Nat → Int32 → (Nat → Nat → Int32) → Option (Unit × (Nat → Nat → Int32))
  | 0, _, _, _, _, _ => none
  | n + 1, a0, a1, a2, a3, I =>
    sm_gd (sm_kd a0 = (8, 5)) <|
    if (I a0 1) ≤ a3 then (
      f_X8_look_57 N R N a0 a1 a2 (0 : Int32) I)
    else (
      (f_X8_agrees N R a0 a1 a2 a3 (0 : Int32) I).bind fun p3 =>
      if p3.1 = 0 then (
        sm_lt (sm_up p3.2 a0 (sm_up (p3.2 a0) 2 ((p3.2 a0 2) ||| ((1 : Int32) <<< (a3 &&& 31))))) fun I5 =>
        f_X8_look_18 N R n a0 a1 a2 (a3 + 1) I5)
      else (
        f_X8_look_18 N R n a0 a1 a2 (a3 + 1) p3.2))
def f_X8_look (N : Nat) (R : Nat → Nat → Nat) : Nat → Nat → Nat → (Nat → Nat → Int32) → Option (Unit × (Nat → Nat → Int32)) := fun a0 a1 a2 I =>
  sm_gd (sm_kd a1 = (7, 9)) <|
  sm_gd (sm_kd (R a1 5) = (10, 4)) <|
  sm_gd (sm_kd a0 = (8, 5)) <|
  sm_lt (sm_up I a0 (sm_up (I a0) 1 (I (R a1 5) 1))) fun I4 =>
  sm_lt (sm_up I4 a0 (sm_up (I4 a0) 2 (0 : Int32))) fun I5 =>
  f_X8_look_18 N R N a0 a1 a2 (0 : Int32) I5
set_option maxHeartbeats 4000000 in
set_option maxRecDepth 100000 in
theorem w_X8_look_83 {l : Launch} (N : Nat) (R : Nat → Nat → Nat) (k_57 : Nat → Nat → Nat → Int32 → (Nat → Nat → Int32) → Option (Unit × (Nat → Nat → Int32))) (hk_57 : ∀ (a0 : Nat) (a1 : Nat) (a2 : Nat) (a3 : Int32) (I : (Nat → Nat → Int32)) (y : (Unit × (Nat → Nat → Int32))), k_57 a0 a1 a2 a3 I = some y → sm_W l 6 mX8_look 57 [(0, .inr (.inl a0)), (1, .inr (.inl a1)), (2, .inr (.inl a2)), (3, .inl a3)] [] (I, R) (.inl none) (y.2, R)) : ∀ (a0 : Nat) (a1 : Nat) (a2 : Nat) (a3 : Int32) (b0 : Int32) (I : (Nat → Nat → Int32)) (y : (Unit × (Nat → Nat → Int32))), f_X8_look_83 N R k_57 a0 a1 a2 a3 b0 I = some y → sm_W l 6 mX8_look 83 [(0, .inr (.inl a0)), (1, .inr (.inl a1)), (2, .inr (.inl a2)), (3, .inl a3)] [.inl b0] (I, R) (.inl none) (y.2, R) := by
  intro a0 a1 a2 a3 b0 I y h
  unfold f_X8_look_83 at h
  refine sm_istore (L' := [(4, .inl b0), (0, .inr (.inl a0)), (1, .inr (.inl a1)), (2, .inr (.inl a2)), (3, .inl a3)]) (q := 85) dX8_look_83 rfl (by decide) rfl ?_
  refine sm_aload_n (q := 86) dX8_look_85 rfl rfl 1 rfl ?_
  obtain ⟨hc1, h⟩ := sm_gd_e h
  refine sm_getR (r := R a0 0) (q := 89) dX8_look_86 rfl fk_X8_9 hc1 (by decide) (by decide) rfl ?_
  refine sm_iload_n (q := 90) dX8_look_89 rfl rfl 4 rfl ?_
  refine sm_iload (q := 92) dX8_look_90 rfl 0 rfl ?_
  rcases sm_if_e h with ⟨hb2, h⟩ | ⟨hb2, h⟩
  · refine sm_if_eq (tgt := 105) (q := 95) dX8_look_92 (by decide) rfl (fun _ => ?_) (fun hn => absurd hb2 hn)
    refine sm_iconst (v := 0) (q := 106) dX8_look_105 rfl (by decide) ?_
    obtain ⟨hc3, h⟩ := sm_gd_e h
    obtain ⟨I4, hI4, h⟩ := sm_lt_e h
    refine sm_iast (n := (sm_kd (R a0 0)).2) (q := 107) dX8_look_106 rfl (Prod.ext hc3.1 rfl) hc3.2 ?_
    refine sm_memI hI4 ?_
    refine sm_iinc (v := (a3 + 1)) (L' := [(3, .inl (a3 + 1)), (4, .inl b0), (0, .inr (.inl a0)), (1, .inr (.inl a1)), (2, .inr (.inl a2))]) (q := 110) dX8_look_107 rfl 4 rfl rfl (by decide) rfl ?_
    refine sm_goto (q := 57) dX8_look_110 (by decide) ?_
    refine sm_pick [2, 3, 4, 0] rfl ?_
    exact hk_57 _ _ _ _ _ _ h
  · refine sm_if_eq (tgt := 105) (q := 95) dX8_look_92 (by decide) rfl (fun ht => absurd ht hb2) (fun _ => ?_)
    refine sm_aload_n (q := 96) dX8_look_95 rfl rfl 1 rfl ?_
    refine sm_aload_n (q := 97) dX8_look_96 rfl rfl 2 rfl ?_
    refine sm_aload_n (q := 98) dX8_look_97 rfl rfl 3 rfl ?_
    refine sm_iload_n (q := 99) dX8_look_98 rfl rfl 4 rfl ?_
    obtain ⟨p5, hc_p5, h⟩ := sm_bd_e h
    refine sm_callVi (q := 102) (As := [.inr (.inl a1), .inr (.inl a2), .inl a3]) (S := [.inl a3, .inr (.inl (R a0 0))]) (e_X8_weeksThatAgree hc_p5) mv_X8_46 hc1 rfl (by decide) (Nat.le_of_ble_eq_true rfl) dX8_look_99 rfl ?_
    refine sm_goto (q := 106) dX8_look_102 (by decide) ?_
    obtain ⟨hc6, h⟩ := sm_gd_e h
    obtain ⟨I7, hI7, h⟩ := sm_lt_e h
    refine sm_iast (n := (sm_kd (R a0 0)).2) (q := 107) dX8_look_106 rfl (Prod.ext hc6.1 rfl) hc6.2 ?_
    refine sm_memI hI7 ?_
    refine sm_iinc (v := (a3 + 1)) (L' := [(3, .inl (a3 + 1)), (4, .inl b0), (0, .inr (.inl a0)), (1, .inr (.inl a1)), (2, .inr (.inl a2))]) (q := 110) dX8_look_107 rfl 4 rfl rfl (by decide) rfl ?_
    refine sm_goto (q := 57) dX8_look_110 (by decide) ?_
    refine sm_pick [2, 3, 4, 0] rfl ?_
    exact hk_57 _ _ _ _ _ _ h
set_option maxHeartbeats 4000000 in
set_option maxRecDepth 100000 in
theorem w_X8_look_57 {l : Launch} (N : Nat) (R : Nat → Nat → Nat) : ∀ (n : Nat) (a0 : Nat) (a1 : Nat) (a2 : Nat) (a3 : Int32) (I : (Nat → Nat → Int32)) (y : (Unit × (Nat → Nat → Int32))), f_X8_look_57 N R n a0 a1 a2 a3 I = some y → sm_W l 6 mX8_look 57 [(0, .inr (.inl a0)), (1, .inr (.inl a1)), (2, .inr (.inl a2)), (3, .inl a3)] [] (I, R) (.inl none) (y.2, R) := by
  intro n
  induction n with
  | zero => intro a0 a1 a2 a3 I y h; cases h
  | succ n ih =>
    intro a0 a1 a2 a3 I y h
    rw [f_X8_look_57] at h
    refine sm_iload_n (q := 58) dX8_look_57 rfl rfl 3 rfl ?_
    refine sm_aload_n (q := 59) dX8_look_58 rfl rfl 0 rfl ?_
    obtain ⟨hc1, h⟩ := sm_gd_e h
    refine sm_getI (q := 62) dX8_look_59 rfl fk_X8_38 hc1 (by decide) (by decide) ?_
    rcases sm_if_e h with ⟨hb2, h⟩ | ⟨hb2, h⟩
    · refine sm_icmp_ge (tgt := 113) (q := 65) dX8_look_62 (by decide) rfl (fun _ => ?_) (fun hn => absurd hb2 hn)
      obtain rfl := Option.some.inj h
      exact sm_vret dX8_look_113 rfl
    · refine sm_icmp_ge (tgt := 113) (q := 65) dX8_look_62 (by decide) rfl (fun ht => absurd ht hb2) (fun _ => ?_)
      refine sm_aload_n (q := 66) dX8_look_65 rfl rfl 0 rfl ?_
      refine sm_getI (q := 69) dX8_look_66 rfl fk_X8_39 hc1 (by decide) (by decide) ?_
      refine sm_iconst (v := 1) (q := 70) dX8_look_69 rfl (by decide) ?_
      refine sm_iload_n (q := 71) dX8_look_70 rfl rfl 3 rfl ?_
      refine sm_ishl (q := 72) dX8_look_71 rfl ?_
      refine sm_iconst (v := -1) (q := 73) dX8_look_72 rfl (by decide) ?_
      refine sm_ixor (q := 74) dX8_look_73 rfl ?_
      refine sm_iand (q := 75) dX8_look_74 rfl ?_
      rcases sm_if_e h with ⟨hb3, h⟩ | ⟨hb3, h⟩
      · refine sm_if_ne (tgt := 82) (q := 78) dX8_look_75 (by decide) rfl (fun hn => absurd hb3 hn) (fun _ => ?_)
        refine sm_iconst (v := 1) (q := 79) dX8_look_78 rfl (by decide) ?_
        refine sm_goto (q := 83) dX8_look_79 (by decide) ?_
        refine sm_pick [0, 1, 2, 3] rfl ?_
        exact w_X8_look_83 N R (fun z0 z1 z2 z3 J => f_X8_look_57 N R n z0 z1 z2 z3 J) (fun z0 z1 z2 z3 J y h => ih z0 z1 z2 z3 J y h) _ _ _ _ _ _ _ h
      · refine sm_if_ne (tgt := 82) (q := 78) dX8_look_75 (by decide) rfl (fun _ => ?_) (fun he => absurd he hb3)
        refine sm_iconst (v := 0) (q := 83) dX8_look_82 rfl (by decide) ?_
        refine sm_pick [0, 1, 2, 3] rfl ?_
        exact w_X8_look_83 N R (fun z0 z1 z2 z3 J => f_X8_look_57 N R n z0 z1 z2 z3 J) (fun z0 z1 z2 z3 J y h => ih z0 z1 z2 z3 J y h) _ _ _ _ _ _ _ h
set_option maxHeartbeats 4000000 in
set_option maxRecDepth 100000 in
theorem w_X8_look_18 {l : Launch} (N : Nat) (R : Nat → Nat → Nat) : ∀ (n : Nat) (a0 : Nat) (a1 : Nat) (a2 : Nat) (a3 : Int32) (I : (Nat → Nat → Int32)) (y : (Unit × (Nat → Nat → Int32))), f_X8_look_18 N R n a0 a1 a2 a3 I = some y → sm_W l 6 mX8_look 18 [(0, .inr (.inl a0)), (1, .inr (.inl a1)), (2, .inr (.inl a2)), (3, .inl a3)] [] (I, R) (.inl none) (y.2, R) := by
  intro n
  induction n with
  | zero => intro a0 a1 a2 a3 I y h; cases h
  | succ n ih =>
    intro a0 a1 a2 a3 I y h
    rw [f_X8_look_18] at h
    refine sm_iload_n (q := 19) dX8_look_18 rfl rfl 3 rfl ?_
    refine sm_aload_n (q := 20) dX8_look_19 rfl rfl 0 rfl ?_
    obtain ⟨hc1, h⟩ := sm_gd_e h
    refine sm_getI (q := 23) dX8_look_20 rfl fk_X8_38 hc1 (by decide) (by decide) ?_
    rcases sm_if_e h with ⟨hb2, h⟩ | ⟨hb2, h⟩
    · refine sm_icmp_ge (tgt := 55) (q := 26) dX8_look_23 (by decide) rfl (fun _ => ?_) (fun hn => absurd hb2 hn)
      refine sm_iconst (v := 0) (q := 56) dX8_look_55 rfl (by decide) ?_
      refine sm_istore_n (L' := [(3, .inl (0 : Int32)), (0, .inr (.inl a0)), (1, .inr (.inl a1)), (2, .inr (.inl a2))]) (q := 57) dX8_look_56 rfl rfl (by decide) rfl ?_
      refine sm_pick [1, 2, 3, 0] rfl ?_
      exact w_X8_look_57 N R N _ _ _ _ _ _ h
    · refine sm_icmp_ge (tgt := 55) (q := 26) dX8_look_23 (by decide) rfl (fun ht => absurd ht hb2) (fun _ => ?_)
      refine sm_aload_n (q := 27) dX8_look_26 rfl rfl 0 rfl ?_
      refine sm_aload_n (q := 28) dX8_look_27 rfl rfl 1 rfl ?_
      refine sm_aload_n (q := 29) dX8_look_28 rfl rfl 2 rfl ?_
      refine sm_iload_n (q := 30) dX8_look_29 rfl rfl 3 rfl ?_
      refine sm_iconst (v := 0) (q := 31) dX8_look_30 rfl (by decide) ?_
      obtain ⟨p3, hc_p3, h⟩ := sm_bd_e h
      refine sm_callVi (q := 34) (As := [.inr (.inl a1), .inr (.inl a2), .inl a3, .inl (0 : Int32)]) (S := []) (e_X8_agrees hc_p3) mv_X8_42 hc1 rfl (by decide) (Nat.le_of_ble_eq_true rfl) dX8_look_31 rfl ?_
      rcases sm_if_e h with ⟨hb4, h⟩ | ⟨hb4, h⟩
      · refine sm_if_ne (tgt := 49) (q := 37) dX8_look_34 (by decide) rfl (fun hn => absurd hb4 hn) (fun _ => ?_)
        refine sm_aload_n (q := 38) dX8_look_37 rfl rfl 0 rfl ?_
        refine sm_dup (q := 39) dX8_look_38 rfl rfl ?_
        refine sm_getI (q := 42) dX8_look_39 rfl fk_X8_39 hc1 (by decide) (by decide) ?_
        refine sm_iconst (v := 1) (q := 43) dX8_look_42 rfl (by decide) ?_
        refine sm_iload_n (q := 44) dX8_look_43 rfl rfl 3 rfl ?_
        refine sm_ishl (q := 45) dX8_look_44 rfl ?_
        refine sm_ior (q := 46) dX8_look_45 rfl ?_
        obtain ⟨I5, hI5, h⟩ := sm_lt_e h
        refine sm_putI (q := 49) dX8_look_46 rfl fk_X8_39 hc1 (by decide) (by decide) ?_
        refine sm_memI hI5 ?_
        refine sm_iinc (v := (a3 + 1)) (L' := [(3, .inl (a3 + 1)), (0, .inr (.inl a0)), (1, .inr (.inl a1)), (2, .inr (.inl a2))]) (q := 52) dX8_look_49 rfl 3 rfl rfl (by decide) rfl ?_
        refine sm_goto (q := 18) dX8_look_52 (by decide) ?_
        refine sm_pick [1, 2, 3, 0] rfl ?_
        exact ih _ _ _ _ _ _ h
      · refine sm_if_ne (tgt := 49) (q := 37) dX8_look_34 (by decide) rfl (fun _ => ?_) (fun he => absurd he hb4)
        refine sm_iinc (v := (a3 + 1)) (L' := [(3, .inl (a3 + 1)), (0, .inr (.inl a0)), (1, .inr (.inl a1)), (2, .inr (.inl a2))]) (q := 52) dX8_look_49 rfl 3 rfl rfl (by decide) rfl ?_
        refine sm_goto (q := 18) dX8_look_52 (by decide) ?_
        refine sm_pick [1, 2, 3, 0] rfl ?_
        exact ih _ _ _ _ _ _ h
set_option maxHeartbeats 4000000 in
set_option maxRecDepth 100000 in
theorem w_X8_look {l : Launch} (N : Nat) (R : Nat → Nat → Nat) : ∀ (a0 : Nat) (a1 : Nat) (a2 : Nat) (I : (Nat → Nat → Int32)) (y : (Unit × (Nat → Nat → Int32))), f_X8_look N R a0 a1 a2 I = some y → sm_W l 6 mX8_look 0 [(0, .inr (.inl a0)), (1, .inr (.inl a1)), (2, .inr (.inl a2))] [] (I, R) (.inl none) (y.2, R) := by
  intro a0 a1 a2 I y h
  unfold f_X8_look at h
  refine sm_aload_n (q := 1) dX8_look_0 rfl rfl 0 rfl ?_
  refine sm_aload_n (q := 2) dX8_look_1 rfl rfl 1 rfl ?_
  obtain ⟨hc1, h⟩ := sm_gd_e h
  refine sm_getR (r := R a1 5) (q := 5) dX8_look_2 rfl fk_X8_26 hc1 (by decide) (by decide) rfl ?_
  obtain ⟨hc2, h⟩ := sm_gd_e h
  refine sm_getI (q := 8) dX8_look_5 rfl fk_X8_32 hc2 (by decide) (by decide) ?_
  obtain ⟨hc3, h⟩ := sm_gd_e h
  obtain ⟨I4, hI4, h⟩ := sm_lt_e h
  refine sm_putI (q := 11) dX8_look_8 rfl fk_X8_38 hc3 (by decide) (by decide) ?_
  refine sm_memI hI4 ?_
  refine sm_aload_n (q := 12) dX8_look_11 rfl rfl 0 rfl ?_
  refine sm_iconst (v := 0) (q := 13) dX8_look_12 rfl (by decide) ?_
  obtain ⟨I5, hI5, h⟩ := sm_lt_e h
  refine sm_putI (q := 16) dX8_look_13 rfl fk_X8_39 hc3 (by decide) (by decide) ?_
  refine sm_memI hI5 ?_
  refine sm_iconst (v := 0) (q := 17) dX8_look_16 rfl (by decide) ?_
  refine sm_istore_n (L' := [(3, .inl (0 : Int32)), (0, .inr (.inl a0)), (1, .inr (.inl a1)), (2, .inr (.inl a2))]) (q := 18) dX8_look_17 rfl rfl (by decide) rfl ?_
  refine sm_pick [1, 2, 3, 0] rfl ?_
  exact w_X8_look_18 N R N _ _ _ _ _ _ h
theorem e_X8_look {l : Launch} {N : Nat} {R : Nat → Nat → Nat} {a0 : Nat} {a1 : Nat} {a2 : Nat} {I : (Nat → Nat → Int32)} {y : (Unit × (Nat → Nat → Int32))} (h : f_X8_look N R a0 a1 a2 I = some y) : sm_E l 6 mX8_look [.inr (.inl a0), .inr (.inl a1), .inr (.inl a2)] (I, R) (.inl none) (y.2, R) :=
  sm_meth (by decide) (Nat.le_of_ble_eq_true rfl) (w_X8_look N R a0 a1 a2 I y h)
def f_X8_howMany_4 (N : Nat) (R : Nat → Nat → Nat) : Nat → Nat → Int32 → Int32 → (Nat → Nat → Int32) → Option (Int32 × (Nat → Nat → Int32))
  | 0, _, _, _, _ => none
  | n + 1, a0, a1, a2, I =>
    sm_gd (sm_kd a0 = (8, 5)) <|
    if (I a0 1) ≤ a2 then (
      some (a1, I))
    else (
      sm_gd ((sm_kd (R a0 0)).1 = 13 ∧ ¬ (a2 < 0 ∨ (sm_kd (R a0 0)).2 ≤ (a2).toNatClampNeg)) <|
      (f_J6_bitCount_0f7a4 N R (I (R a0 0) (a2).toNatClampNeg) I).bind fun p4 =>
      f_X8_howMany_4 N R n a0 (a1 + p4.1) (a2 + 1) p4.2)
def f_X8_howMany (N : Nat) (R : Nat → Nat → Nat) : Nat → (Nat → Nat → Int32) → Option (Int32 × (Nat → Nat → Int32)) := fun a0 I =>
  f_X8_howMany_4 N R N a0 (0 : Int32) (0 : Int32) I
set_option maxHeartbeats 4000000 in
set_option maxRecDepth 100000 in
theorem w_X8_howMany_4 {l : Launch} (N : Nat) (R : Nat → Nat → Nat) : ∀ (n : Nat) (a0 : Nat) (a1 : Int32) (a2 : Int32) (I : (Nat → Nat → Int32)) (y : (Int32 × (Nat → Nat → Int32))), f_X8_howMany_4 N R n a0 a1 a2 I = some y → sm_W l 1 mX8_howMany 4 [(0, .inr (.inl a0)), (1, .inl a1), (2, .inl a2)] [] (I, R) (.inl (some (.inl y.1))) (y.2, R) := by
  intro n
  induction n with
  | zero => intro a0 a1 a2 I y h; cases h
  | succ n ih =>
    intro a0 a1 a2 I y h
    rw [f_X8_howMany_4] at h
    refine sm_iload_n (q := 5) dX8_howMany_4 rfl rfl 2 rfl ?_
    refine sm_aload_n (q := 6) dX8_howMany_5 rfl rfl 0 rfl ?_
    obtain ⟨hc1, h⟩ := sm_gd_e h
    refine sm_getI (q := 9) dX8_howMany_6 rfl fk_X8_38 hc1 (by decide) (by decide) ?_
    rcases sm_if_e h with ⟨hb2, h⟩ | ⟨hb2, h⟩
    · refine sm_icmp_ge (tgt := 30) (q := 12) dX8_howMany_9 (by decide) rfl (fun _ => ?_) (fun hn => absurd hb2 hn)
      refine sm_iload_n (q := 31) dX8_howMany_30 rfl rfl 1 rfl ?_
      obtain rfl := Option.some.inj h
      exact sm_iret dX8_howMany_31 rfl
    · refine sm_icmp_ge (tgt := 30) (q := 12) dX8_howMany_9 (by decide) rfl (fun ht => absurd ht hb2) (fun _ => ?_)
      refine sm_iload_n (q := 13) dX8_howMany_12 rfl rfl 1 rfl ?_
      refine sm_aload_n (q := 14) dX8_howMany_13 rfl rfl 0 rfl ?_
      refine sm_getR (r := R a0 0) (q := 17) dX8_howMany_14 rfl fk_X8_9 hc1 (by decide) (by decide) rfl ?_
      refine sm_iload_n (q := 18) dX8_howMany_17 rfl rfl 2 rfl ?_
      obtain ⟨hc3, h⟩ := sm_gd_e h
      refine sm_iald (n := (sm_kd (R a0 0)).2) (q := 19) dX8_howMany_18 rfl (Prod.ext hc3.1 rfl) hc3.2 ?_
      obtain ⟨p4, hc_p4, h⟩ := sm_bd_e h
      refine sm_callSi (q := 22) (As := [.inl (I (R a0 0) (a2).toNatClampNeg)]) (S := [.inl a1]) (e_J6_bitCount_0f7a4 hc_p4) ms_X8_86 rfl (by decide) (Nat.le_of_ble_eq_true rfl) dX8_howMany_19 rfl ?_
      refine sm_iadd (q := 23) dX8_howMany_22 rfl ?_
      refine sm_istore_n (L' := [(1, .inl (a1 + p4.1)), (0, .inr (.inl a0)), (2, .inl a2)]) (q := 24) dX8_howMany_23 rfl rfl (by decide) rfl ?_
      refine sm_iinc (v := (a2 + 1)) (L' := [(2, .inl (a2 + 1)), (1, .inl (a1 + p4.1)), (0, .inr (.inl a0))]) (q := 27) dX8_howMany_24 rfl 2 rfl rfl (by decide) rfl ?_
      refine sm_goto (q := 4) dX8_howMany_27 (by decide) ?_
      refine sm_pick [2, 1, 0] rfl ?_
      exact ih _ _ _ _ _ h
set_option maxHeartbeats 4000000 in
set_option maxRecDepth 100000 in
theorem w_X8_howMany {l : Launch} (N : Nat) (R : Nat → Nat → Nat) : ∀ (a0 : Nat) (I : (Nat → Nat → Int32)) (y : (Int32 × (Nat → Nat → Int32))), f_X8_howMany N R a0 I = some y → sm_W l 1 mX8_howMany 0 [(0, .inr (.inl a0))] [] (I, R) (.inl (some (.inl y.1))) (y.2, R) := by
  intro a0 I y h
  unfold f_X8_howMany at h
  refine sm_iconst (v := 0) (q := 1) dX8_howMany_0 rfl (by decide) ?_
  refine sm_istore_n (L' := [(1, .inl (0 : Int32)), (0, .inr (.inl a0))]) (q := 2) dX8_howMany_1 rfl rfl (by decide) rfl ?_
  refine sm_iconst (v := 0) (q := 3) dX8_howMany_2 rfl (by decide) ?_
  refine sm_istore_n (L' := [(2, .inl (0 : Int32)), (1, .inl (0 : Int32)), (0, .inr (.inl a0))]) (q := 4) dX8_howMany_3 rfl rfl (by decide) rfl ?_
  refine sm_pick [2, 1, 0] rfl ?_
  exact w_X8_howMany_4 N R N _ _ _ _ _ h
theorem e_X8_howMany {l : Launch} {N : Nat} {R : Nat → Nat → Nat} {a0 : Nat} {I : (Nat → Nat → Int32)} {y : (Int32 × (Nat → Nat → Int32))} (h : f_X8_howMany N R a0 I = some y) : sm_E l 1 mX8_howMany [.inr (.inl a0)] (I, R) (.inl (some (.inl y.1))) (y.2, R) :=
  sm_meth (by decide) (Nat.le_of_ble_eq_true rfl) (w_X8_howMany N R a0 I y h)
def f_X8_first_2 (N : Nat) (R : Nat → Nat → Nat) : Nat → Nat → Int32 → (Nat → Nat → Int32) → Option (Int32 × (Nat → Nat → Int32))
  | 0, _, _, _ => none
  | n + 1, a0, a1, I =>
    sm_gd (sm_kd a0 = (8, 5)) <|
    if (I a0 1) ≤ a1 then (
      some ((-1 : Int32), I))
    else (
      sm_gd ((sm_kd (R a0 0)).1 = 13 ∧ ¬ (a1 < 0 ∨ (sm_kd (R a0 0)).2 ≤ (a1).toNatClampNeg)) <|
      if (I (R a0 0) (a1).toNatClampNeg) = 0 then (
        f_X8_first_2 N R n a0 (a1 + 1) I)
      else (
        (f_J6_numberOfTrailingZeros_0f7a4 N R (I (R a0 0) (a1).toNatClampNeg) I).bind fun p5 =>
        some (((((100 : Int32) * a1) + p5.1) + (1 : Int32)), p5.2)))
def f_X8_first (N : Nat) (R : Nat → Nat → Nat) : Nat → (Nat → Nat → Int32) → Option (Int32 × (Nat → Nat → Int32)) := fun a0 I =>
  f_X8_first_2 N R N a0 (0 : Int32) I
set_option maxHeartbeats 4000000 in
set_option maxRecDepth 100000 in
theorem w_X8_first_2 {l : Launch} (N : Nat) (R : Nat → Nat → Nat) : ∀ (n : Nat) (a0 : Nat) (a1 : Int32) (I : (Nat → Nat → Int32)) (y : (Int32 × (Nat → Nat → Int32))), f_X8_first_2 N R n a0 a1 I = some y → sm_W l 1 mX8_first 2 [(0, .inr (.inl a0)), (1, .inl a1)] [] (I, R) (.inl (some (.inl y.1))) (y.2, R) := by
  intro n
  induction n with
  | zero => intro a0 a1 I y h; cases h
  | succ n ih =>
    intro a0 a1 I y h
    rw [f_X8_first_2] at h
    refine sm_iload_n (q := 3) dX8_first_2 rfl rfl 1 rfl ?_
    refine sm_aload_n (q := 4) dX8_first_3 rfl rfl 0 rfl ?_
    obtain ⟨hc1, h⟩ := sm_gd_e h
    refine sm_getI (q := 7) dX8_first_4 rfl fk_X8_38 hc1 (by decide) (by decide) ?_
    rcases sm_if_e h with ⟨hb2, h⟩ | ⟨hb2, h⟩
    · refine sm_icmp_ge (tgt := 42) (q := 10) dX8_first_7 (by decide) rfl (fun _ => ?_) (fun hn => absurd hb2 hn)
      refine sm_iconst (v := -1) (q := 43) dX8_first_42 rfl (by decide) ?_
      obtain rfl := Option.some.inj h
      exact sm_iret dX8_first_43 rfl
    · refine sm_icmp_ge (tgt := 42) (q := 10) dX8_first_7 (by decide) rfl (fun ht => absurd ht hb2) (fun _ => ?_)
      refine sm_aload_n (q := 11) dX8_first_10 rfl rfl 0 rfl ?_
      refine sm_getR (r := R a0 0) (q := 14) dX8_first_11 rfl fk_X8_9 hc1 (by decide) (by decide) rfl ?_
      refine sm_iload_n (q := 15) dX8_first_14 rfl rfl 1 rfl ?_
      obtain ⟨hc3, h⟩ := sm_gd_e h
      refine sm_iald (n := (sm_kd (R a0 0)).2) (q := 16) dX8_first_15 rfl (Prod.ext hc3.1 rfl) hc3.2 ?_
      rcases sm_if_e h with ⟨hb4, h⟩ | ⟨hb4, h⟩
      · refine sm_if_eq (tgt := 36) (q := 19) dX8_first_16 (by decide) rfl (fun _ => ?_) (fun hn => absurd hb4 hn)
        refine sm_iinc (v := (a1 + 1)) (L' := [(1, .inl (a1 + 1)), (0, .inr (.inl a0))]) (q := 39) dX8_first_36 rfl 1 rfl rfl (by decide) rfl ?_
        refine sm_goto (q := 2) dX8_first_39 (by decide) ?_
        refine sm_pick [1, 0] rfl ?_
        exact ih _ _ _ _ h
      · refine sm_if_eq (tgt := 36) (q := 19) dX8_first_16 (by decide) rfl (fun ht => absurd ht hb4) (fun _ => ?_)
        refine sm_bipush (v := 100) (q := 21) dX8_first_19 rfl (by decide) ?_
        refine sm_iload_n (q := 22) dX8_first_21 rfl rfl 1 rfl ?_
        refine sm_imul (q := 23) dX8_first_22 rfl ?_
        refine sm_aload_n (q := 24) dX8_first_23 rfl rfl 0 rfl ?_
        refine sm_getR (r := R a0 0) (q := 27) dX8_first_24 rfl fk_X8_9 hc1 (by decide) (by decide) rfl ?_
        refine sm_iload_n (q := 28) dX8_first_27 rfl rfl 1 rfl ?_
        refine sm_iald (n := (sm_kd (R a0 0)).2) (q := 29) dX8_first_28 rfl (Prod.ext hc3.1 rfl) hc3.2 ?_
        obtain ⟨p5, hc_p5, h⟩ := sm_bd_e h
        refine sm_callSi (q := 32) (As := [.inl (I (R a0 0) (a1).toNatClampNeg)]) (S := [.inl ((100 : Int32) * a1)]) (e_J6_numberOfTrailingZeros_0f7a4 hc_p5) ms_X8_91 rfl (by decide) (Nat.le_of_ble_eq_true rfl) dX8_first_29 rfl ?_
        refine sm_iadd (q := 33) dX8_first_32 rfl ?_
        refine sm_iconst (v := 1) (q := 34) dX8_first_33 rfl (by decide) ?_
        refine sm_iadd (q := 35) dX8_first_34 rfl ?_
        obtain rfl := Option.some.inj h
        exact sm_iret dX8_first_35 rfl
set_option maxHeartbeats 4000000 in
set_option maxRecDepth 100000 in
theorem w_X8_first {l : Launch} (N : Nat) (R : Nat → Nat → Nat) : ∀ (a0 : Nat) (I : (Nat → Nat → Int32)) (y : (Int32 × (Nat → Nat → Int32))), f_X8_first N R a0 I = some y → sm_W l 1 mX8_first 0 [(0, .inr (.inl a0))] [] (I, R) (.inl (some (.inl y.1))) (y.2, R) := by
  intro a0 I y h
  unfold f_X8_first at h
  refine sm_iconst (v := 0) (q := 1) dX8_first_0 rfl (by decide) ?_
  refine sm_istore_n (L' := [(1, .inl (0 : Int32)), (0, .inr (.inl a0))]) (q := 2) dX8_first_1 rfl rfl (by decide) rfl ?_
  refine sm_pick [1, 0] rfl ?_
  exact w_X8_first_2 N R N _ _ _ _ h
theorem e_X8_first {l : Launch} {N : Nat} {R : Nat → Nat → Nat} {a0 : Nat} {I : (Nat → Nat → Int32)} {y : (Int32 × (Nat → Nat → Int32))} (h : f_X8_first N R a0 I = some y) : sm_E l 1 mX8_first [.inr (.inl a0)] (I, R) (.inl (some (.inl y.1))) (y.2, R) :=
  sm_meth (by decide) (Nat.le_of_ble_eq_true rfl) (w_X8_first N R a0 I y h)
def f_X8_meet (N : Nat) (R : Nat → Nat → Nat) : Nat → Nat → Int32 → Int32 → (Nat → Nat → Int32) → Option (Int32 × (Nat → Nat → Int32)) := fun a0 a1 a2 a3 I =>
  sm_gd (sm_kd a0 = (8, 5)) <|
  (f_X8_guessAway N R a0 a1 a2 a3 I).bind fun p2 =>
  sm_gd (sm_kd a1 = (7, 9)) <|
  (f_X7_passWeeks N R a1 (R a0 3) (20 : Int32) p2.2).bind fun p4 =>
  sm_gd (sm_kd (R a0 3) = (4, 6)) <|
  if (p4.2 (R a0 3) 0) < 0 then (
    some ((0 : Int32), p4.2))
  else (
    sm_gd ((sm_kd (R a0 4)).1 = 15) <|
    if (Int32.ofNat (sm_kd (R a0 4)).2) ≤ (p4.2 (R a0 3) 0) then (
      some ((0 : Int32), p4.2))
    else (
      sm_gd ((sm_kd (R a0 4)).1 = 15 ∧ ¬ ((p4.2 (R a0 3) 0) < 0 ∨ (sm_kd (R a0 4)).2 ≤ ((p4.2 (R a0 3) 0)).toNatClampNeg)) <|
      if (p4.2 (R a0 4) ((p4.2 (R a0 3) 0)).toNatClampNeg) = 0 then (
        sm_lt (sm_up p4.2 (R a0 4) (sm_up (p4.2 (R a0 4)) ((p4.2 (R a0 3) 0)).toNatClampNeg (1 : Int32))) fun I11 =>
        some ((1 : Int32), I11))
      else (
        some ((0 : Int32), p4.2))))
set_option maxHeartbeats 4000000 in
set_option maxRecDepth 100000 in
theorem w_X8_meet {l : Launch} (N : Nat) (R : Nat → Nat → Nat) : ∀ (a0 : Nat) (a1 : Nat) (a2 : Int32) (a3 : Int32) (I : (Nat → Nat → Int32)) (y : (Int32 × (Nat → Nat → Int32))), f_X8_meet N R a0 a1 a2 a3 I = some y → sm_W l 4 mX8_meet 0 [(0, .inr (.inl a0)), (1, .inr (.inl a1)), (2, .inl a2), (3, .inl a3)] [] (I, R) (.inl (some (.inl y.1))) (y.2, R) := by
  intro a0 a1 a2 a3 I y h
  unfold f_X8_meet at h
  refine sm_aload_n (q := 1) dX8_meet_0 rfl rfl 0 rfl ?_
  refine sm_aload_n (q := 2) dX8_meet_1 rfl rfl 1 rfl ?_
  refine sm_iload_n (q := 3) dX8_meet_2 rfl rfl 2 rfl ?_
  refine sm_iload_n (q := 4) dX8_meet_3 rfl rfl 3 rfl ?_
  obtain ⟨hc1, h⟩ := sm_gd_e h
  obtain ⟨p2, hc_p2, h⟩ := sm_bd_e h
  refine sm_callVv (q := 7) (As := [.inr (.inl a1), .inl a2, .inl a3]) (S := []) (e_X8_guessAway hc_p2) mv_X8_65 hc1 rfl (by decide) (Nat.le_of_ble_eq_true rfl) dX8_meet_4 rfl ?_
  refine sm_aload_n (q := 8) dX8_meet_7 rfl rfl 1 rfl ?_
  refine sm_aload_n (q := 9) dX8_meet_8 rfl rfl 0 rfl ?_
  refine sm_getR (r := R a0 3) (q := 12) dX8_meet_9 rfl fk_X8_18 hc1 (by decide) (by decide) rfl ?_
  refine sm_bipush (v := 20) (q := 14) dX8_meet_12 rfl (by decide) ?_
  obtain ⟨hc3, h⟩ := sm_gd_e h
  obtain ⟨p4, hc_p4, h⟩ := sm_bd_e h
  refine sm_callVv (q := 17) (As := [.inr (.inl (R a0 3)), .inl (20 : Int32)]) (S := []) (e_X7_passWeeks hc_p4) mv_X8_75 hc3 rfl (by decide) (Nat.le_of_ble_eq_true rfl) dX8_meet_14 rfl ?_
  refine sm_aload_n (q := 18) dX8_meet_17 rfl rfl 0 rfl ?_
  refine sm_getR (r := R a0 3) (q := 21) dX8_meet_18 rfl fk_X8_18 hc1 (by decide) (by decide) rfl ?_
  obtain ⟨hc5, h⟩ := sm_gd_e h
  refine sm_getI (q := 24) dX8_meet_21 rfl fk_X8_102 hc5 (by decide) (by decide) ?_
  refine sm_istore (L' := [(4, .inl (p4.2 (R a0 3) 0)), (0, .inr (.inl a0)), (1, .inr (.inl a1)), (2, .inl a2), (3, .inl a3)]) (q := 26) dX8_meet_24 rfl (by decide) rfl ?_
  refine sm_iload (q := 28) dX8_meet_26 rfl 0 rfl ?_
  rcases sm_if_e h with ⟨hb6, h⟩ | ⟨hb6, h⟩
  · refine sm_if_lt (tgt := 51) (q := 31) dX8_meet_28 (by decide) rfl (fun _ => ?_) (fun hn => absurd hb6 hn)
    refine sm_iconst (v := 0) (q := 52) dX8_meet_51 rfl (by decide) ?_
    obtain rfl := Option.some.inj h
    exact sm_iret dX8_meet_52 rfl
  · refine sm_if_lt (tgt := 51) (q := 31) dX8_meet_28 (by decide) rfl (fun ht => absurd ht hb6) (fun _ => ?_)
    refine sm_iload (q := 33) dX8_meet_31 rfl 0 rfl ?_
    refine sm_aload_n (q := 34) dX8_meet_33 rfl rfl 1 rfl ?_
    refine sm_getR (r := R a0 4) (q := 37) dX8_meet_34 rfl fk_X8_22 hc1 (by decide) (by decide) rfl ?_
    obtain ⟨hc7, h⟩ := sm_gd_e h
    refine sm_alenI (t := 2) (v := (Int32.ofNat (sm_kd (R a0 4)).2)) (q := 38) dX8_meet_37 rfl (Prod.ext hc7 rfl) (by decide) rfl ?_
    rcases sm_if_e h with ⟨hb8, h⟩ | ⟨hb8, h⟩
    · refine sm_icmp_ge (tgt := 51) (q := 41) dX8_meet_38 (by decide) rfl (fun _ => ?_) (fun hn => absurd hb8 hn)
      refine sm_iconst (v := 0) (q := 52) dX8_meet_51 rfl (by decide) ?_
      obtain rfl := Option.some.inj h
      exact sm_iret dX8_meet_52 rfl
    · refine sm_icmp_ge (tgt := 51) (q := 41) dX8_meet_38 (by decide) rfl (fun ht => absurd ht hb8) (fun _ => ?_)
      refine sm_aload_n (q := 42) dX8_meet_41 rfl rfl 1 rfl ?_
      refine sm_getR (r := R a0 4) (q := 45) dX8_meet_42 rfl fk_X8_22 hc1 (by decide) (by decide) rfl ?_
      refine sm_iload (q := 47) dX8_meet_45 rfl 0 rfl ?_
      obtain ⟨hc9, h⟩ := sm_gd_e h
      refine sm_zald (n := (sm_kd (R a0 4)).2) (q := 48) dX8_meet_47 rfl (Prod.ext hc9.1 rfl) hc9.2 ?_
      rcases sm_if_e h with ⟨hb10, h⟩ | ⟨hb10, h⟩
      · refine sm_if_eq (tgt := 53) (q := 51) dX8_meet_48 (by decide) rfl (fun _ => ?_) (fun hn => absurd hb10 hn)
        refine sm_aload_n (q := 54) dX8_meet_53 rfl rfl 1 rfl ?_
        refine sm_getR (r := R a0 4) (q := 57) dX8_meet_54 rfl fk_X8_22 hc1 (by decide) (by decide) rfl ?_
        refine sm_iload (q := 59) dX8_meet_57 rfl 0 rfl ?_
        refine sm_iconst (v := 1) (q := 60) dX8_meet_59 rfl (by decide) ?_
        obtain ⟨I11, hI11, h⟩ := sm_lt_e h
        refine sm_zast (n := (sm_kd (R a0 4)).2) (q := 61) dX8_meet_60 rfl (Prod.ext hc9.1 rfl) hc9.2 (by decide) ?_
        refine sm_memI hI11 ?_
        refine sm_iconst (v := 1) (q := 62) dX8_meet_61 rfl (by decide) ?_
        obtain rfl := Option.some.inj h
        exact sm_iret dX8_meet_62 rfl
      · refine sm_if_eq (tgt := 53) (q := 51) dX8_meet_48 (by decide) rfl (fun ht => absurd ht hb10) (fun _ => ?_)
        refine sm_iconst (v := 0) (q := 52) dX8_meet_51 rfl (by decide) ?_
        obtain rfl := Option.some.inj h
        exact sm_iret dX8_meet_52 rfl
theorem e_X8_meet {l : Launch} {N : Nat} {R : Nat → Nat → Nat} {a0 : Nat} {a1 : Nat} {a2 : Int32} {a3 : Int32} {I : (Nat → Nat → Int32)} {y : (Int32 × (Nat → Nat → Int32))} (h : f_X8_meet N R a0 a1 a2 a3 I = some y) : sm_E l 4 mX8_meet [.inr (.inl a0), .inr (.inl a1), .inl a2, .inl a3] (I, R) (.inl (some (.inl y.1))) (y.2, R) :=
  sm_meth (by decide) (Nat.le_of_ble_eq_true rfl) (w_X8_meet N R a0 a1 a2 a3 I y h)
def f_X8_unlikeSkills_55 (N : Nat) (R : Nat → Nat → Nat) : Nat → Nat → Nat → Int32 → Int32 → Int32 → (Nat → Nat → Int32) → Option (Int32 × (Nat → Nat → Int32))
  | 0, _, _, _, _, _, _ => none
  | n + 1, a0, a1, a2, a3, a4, I =>
    if (20 : Int32) < a4 then (
      some (a3, I))
    else (
      sm_gd (sm_kd a0 = (8, 5)) <|
      sm_gd ((sm_kd (R a0 0)).1 = 13 ∧ ¬ (a2 < 0 ∨ (sm_kd (R a0 0)).2 ≤ (a2).toNatClampNeg)) <|
      if (((I (R a0 0) (a2).toNatClampNeg) >>> ((a4 - (1 : Int32)) &&& 31)) &&& (1 : Int32)) = (1 : Int32) then (
        (f_X8_meet N R a0 a1 a2 a4 I).bind fun p5 =>
        f_X8_unlikeSkills_55 N R n a0 a1 a2 (a3 + p5.1) (a4 + 1) p5.2)
      else (
        f_X8_unlikeSkills_55 N R n a0 a1 a2 a3 (a4 + 1) I))
def f_X8_unlikeSkills_2 (N : Nat) (R : Nat → Nat → Nat) : Nat → Nat → Nat → Int32 → Int32 → (Nat → Nat → Int32) → Option (Int32 × (Nat → Nat → Int32))
  | 0, _, _, _, _, _ => none
  | n + 1, a0, a1, a2, a3, I =>
    sm_gd (sm_kd a0 = (8, 5)) <|
    sm_gd ((sm_kd (R a0 4)).1 = 15) <|
    if (Int32.ofNat (sm_kd (R a0 4)).2) ≤ a3 then (
      (f_X8_howMany N R a0 I).bind fun p4 =>
      sm_gd ((sm_kd (R a0 0)).1 = 13 ∧ ¬ (a2 < 0 ∨ (sm_kd (R a0 0)).2 ≤ (a2).toNatClampNeg)) <|
      (f_J6_bitCount_0f7a4 N R (p4.2 (R a0 0) (a2).toNatClampNeg) p4.2).bind fun p6 =>
      if p4.1 ≤ p6.1 then (
        f_X8_unlikeSkills_55 N R N a0 a1 a2 (0 : Int32) (1 : Int32) p6.2)
      else (
        (f_X8_meet N R a0 a1 a2 (0 : Int32) p6.2).bind fun p8 =>
        f_X8_unlikeSkills_55 N R N a0 a1 a2 ((0 : Int32) + p8.1) (1 : Int32) p8.2))
    else (
      sm_gd ((sm_kd (R a0 4)).1 = 15 ∧ ¬ (a3 < 0 ∨ (sm_kd (R a0 4)).2 ≤ (a3).toNatClampNeg)) <|
      sm_lt (sm_up I (R a0 4) (sm_up (I (R a0 4)) (a3).toNatClampNeg (0 : Int32))) fun I10 =>
      f_X8_unlikeSkills_2 N R n a0 a1 a2 (a3 + 1) I10)
def f_X8_unlikeSkills (N : Nat) (R : Nat → Nat → Nat) : Nat → Nat → Int32 → (Nat → Nat → Int32) → Option (Int32 × (Nat → Nat → Int32)) := fun a0 a1 a2 I =>
  f_X8_unlikeSkills_2 N R N a0 a1 a2 (0 : Int32) I
set_option maxHeartbeats 4000000 in
set_option maxRecDepth 100000 in
theorem w_X8_unlikeSkills_55 {l : Launch} (N : Nat) (R : Nat → Nat → Nat) : ∀ (n : Nat) (a0 : Nat) (a1 : Nat) (a2 : Int32) (a3 : Int32) (a4 : Int32) (I : (Nat → Nat → Int32)) (y : (Int32 × (Nat → Nat → Int32))), f_X8_unlikeSkills_55 N R n a0 a1 a2 a3 a4 I = some y → sm_W l 5 mX8_unlikeSkills 55 [(0, .inr (.inl a0)), (1, .inr (.inl a1)), (2, .inl a2), (3, .inl a3), (4, .inl a4)] [] (I, R) (.inl (some (.inl y.1))) (y.2, R) := by
  intro n
  induction n with
  | zero => intro a0 a1 a2 a3 a4 I y h; cases h
  | succ n ih =>
    intro a0 a1 a2 a3 a4 I y h
    rw [f_X8_unlikeSkills_55] at h
    refine sm_iload (q := 57) dX8_unlikeSkills_55 rfl 4 rfl ?_
    refine sm_bipush (v := 20) (q := 59) dX8_unlikeSkills_57 rfl (by decide) ?_
    rcases sm_if_e h with ⟨hb1, h⟩ | ⟨hb1, h⟩
    · refine sm_icmp_gt (tgt := 96) (q := 62) dX8_unlikeSkills_59 (by decide) rfl (fun _ => ?_) (fun hn => absurd hb1 hn)
      refine sm_iload_n (q := 97) dX8_unlikeSkills_96 rfl rfl 3 rfl ?_
      obtain rfl := Option.some.inj h
      exact sm_iret dX8_unlikeSkills_97 rfl
    · refine sm_icmp_gt (tgt := 96) (q := 62) dX8_unlikeSkills_59 (by decide) rfl (fun ht => absurd ht hb1) (fun _ => ?_)
      refine sm_aload_n (q := 63) dX8_unlikeSkills_62 rfl rfl 0 rfl ?_
      obtain ⟨hc2, h⟩ := sm_gd_e h
      refine sm_getR (r := R a0 0) (q := 66) dX8_unlikeSkills_63 rfl fk_X8_9 hc2 (by decide) (by decide) rfl ?_
      refine sm_iload_n (q := 67) dX8_unlikeSkills_66 rfl rfl 2 rfl ?_
      obtain ⟨hc3, h⟩ := sm_gd_e h
      refine sm_iald (n := (sm_kd (R a0 0)).2) (q := 68) dX8_unlikeSkills_67 rfl (Prod.ext hc3.1 rfl) hc3.2 ?_
      refine sm_iload (q := 70) dX8_unlikeSkills_68 rfl 4 rfl ?_
      refine sm_iconst (v := 1) (q := 71) dX8_unlikeSkills_70 rfl (by decide) ?_
      refine sm_isub (q := 72) dX8_unlikeSkills_71 rfl ?_
      refine sm_ishr (q := 73) dX8_unlikeSkills_72 rfl ?_
      refine sm_iconst (v := 1) (q := 74) dX8_unlikeSkills_73 rfl (by decide) ?_
      refine sm_iand (q := 75) dX8_unlikeSkills_74 rfl ?_
      refine sm_iconst (v := 1) (q := 76) dX8_unlikeSkills_75 rfl (by decide) ?_
      rcases sm_if_e h with ⟨hb4, h⟩ | ⟨hb4, h⟩
      · refine sm_icmp_ne (tgt := 90) (q := 79) dX8_unlikeSkills_76 (by decide) rfl (fun hn => absurd hb4 hn) (fun _ => ?_)
        refine sm_iload_n (q := 80) dX8_unlikeSkills_79 rfl rfl 3 rfl ?_
        refine sm_aload_n (q := 81) dX8_unlikeSkills_80 rfl rfl 0 rfl ?_
        refine sm_aload_n (q := 82) dX8_unlikeSkills_81 rfl rfl 1 rfl ?_
        refine sm_iload_n (q := 83) dX8_unlikeSkills_82 rfl rfl 2 rfl ?_
        refine sm_iload (q := 85) dX8_unlikeSkills_83 rfl 4 rfl ?_
        obtain ⟨p5, hc_p5, h⟩ := sm_bd_e h
        refine sm_callVi (q := 88) (As := [.inr (.inl a1), .inl a2, .inl a4]) (S := [.inl a3]) (e_X8_meet hc_p5) mv_X8_98 hc2 rfl (by decide) (Nat.le_of_ble_eq_true rfl) dX8_unlikeSkills_85 rfl ?_
        refine sm_iadd (q := 89) dX8_unlikeSkills_88 rfl ?_
        refine sm_istore_n (L' := [(3, .inl (a3 + p5.1)), (0, .inr (.inl a0)), (1, .inr (.inl a1)), (2, .inl a2), (4, .inl a4)]) (q := 90) dX8_unlikeSkills_89 rfl rfl (by decide) rfl ?_
        refine sm_iinc (v := (a4 + 1)) (L' := [(4, .inl (a4 + 1)), (3, .inl (a3 + p5.1)), (0, .inr (.inl a0)), (1, .inr (.inl a1)), (2, .inl a2)]) (q := 93) dX8_unlikeSkills_90 rfl 4 rfl rfl (by decide) rfl ?_
        refine sm_goto (q := 55) dX8_unlikeSkills_93 (by decide) ?_
        refine sm_pick [2, 3, 4, 1, 0] rfl ?_
        exact ih _ _ _ _ _ _ _ h
      · refine sm_icmp_ne (tgt := 90) (q := 79) dX8_unlikeSkills_76 (by decide) rfl (fun _ => ?_) (fun he => absurd he hb4)
        refine sm_iinc (v := (a4 + 1)) (L' := [(4, .inl (a4 + 1)), (0, .inr (.inl a0)), (1, .inr (.inl a1)), (2, .inl a2), (3, .inl a3)]) (q := 93) dX8_unlikeSkills_90 rfl 4 rfl rfl (by decide) rfl ?_
        refine sm_goto (q := 55) dX8_unlikeSkills_93 (by decide) ?_
        refine sm_pick [1, 2, 3, 4, 0] rfl ?_
        exact ih _ _ _ _ _ _ _ h
set_option maxHeartbeats 4000000 in
set_option maxRecDepth 100000 in
theorem w_X8_unlikeSkills_2 {l : Launch} (N : Nat) (R : Nat → Nat → Nat) : ∀ (n : Nat) (a0 : Nat) (a1 : Nat) (a2 : Int32) (a3 : Int32) (I : (Nat → Nat → Int32)) (y : (Int32 × (Nat → Nat → Int32))), f_X8_unlikeSkills_2 N R n a0 a1 a2 a3 I = some y → sm_W l 5 mX8_unlikeSkills 2 [(0, .inr (.inl a0)), (1, .inr (.inl a1)), (2, .inl a2), (3, .inl a3)] [] (I, R) (.inl (some (.inl y.1))) (y.2, R) := by
  intro n
  induction n with
  | zero => intro a0 a1 a2 a3 I y h; cases h
  | succ n ih =>
    intro a0 a1 a2 a3 I y h
    rw [f_X8_unlikeSkills_2] at h
    refine sm_iload_n (q := 3) dX8_unlikeSkills_2 rfl rfl 3 rfl ?_
    refine sm_aload_n (q := 4) dX8_unlikeSkills_3 rfl rfl 0 rfl ?_
    obtain ⟨hc1, h⟩ := sm_gd_e h
    refine sm_getR (r := R a0 4) (q := 7) dX8_unlikeSkills_4 rfl fk_X8_22 hc1 (by decide) (by decide) rfl ?_
    obtain ⟨hc2, h⟩ := sm_gd_e h
    refine sm_alenI (t := 2) (v := (Int32.ofNat (sm_kd (R a0 4)).2)) (q := 8) dX8_unlikeSkills_7 rfl (Prod.ext hc2 rfl) (by decide) rfl ?_
    rcases sm_if_e h with ⟨hb3, h⟩ | ⟨hb3, h⟩
    · refine sm_icmp_ge (tgt := 24) (q := 11) dX8_unlikeSkills_8 (by decide) rfl (fun _ => ?_) (fun hn => absurd hb3 hn)
      refine sm_iconst (v := 0) (q := 25) dX8_unlikeSkills_24 rfl (by decide) ?_
      refine sm_istore_n (L' := [(3, .inl (0 : Int32)), (0, .inr (.inl a0)), (1, .inr (.inl a1)), (2, .inl a2)]) (q := 26) dX8_unlikeSkills_25 rfl rfl (by decide) rfl ?_
      refine sm_aload_n (q := 27) dX8_unlikeSkills_26 rfl rfl 1 rfl ?_
      obtain ⟨p4, hc_p4, h⟩ := sm_bd_e h
      refine sm_callVi (q := 30) (As := []) (S := []) (e_X8_howMany hc_p4) mv_X8_94 hc1 rfl (by decide) (Nat.le_of_ble_eq_true rfl) dX8_unlikeSkills_27 rfl ?_
      refine sm_aload_n (q := 31) dX8_unlikeSkills_30 rfl rfl 1 rfl ?_
      refine sm_getR (r := R a0 0) (q := 34) dX8_unlikeSkills_31 rfl fk_X8_9 hc1 (by decide) (by decide) rfl ?_
      refine sm_iload_n (q := 35) dX8_unlikeSkills_34 rfl rfl 3 rfl ?_
      obtain ⟨hc5, h⟩ := sm_gd_e h
      refine sm_iald (n := (sm_kd (R a0 0)).2) (q := 36) dX8_unlikeSkills_35 rfl (Prod.ext hc5.1 rfl) hc5.2 ?_
      obtain ⟨p6, hc_p6, h⟩ := sm_bd_e h
      refine sm_callSi (q := 39) (As := [.inl (p4.2 (R a0 0) (a2).toNatClampNeg)]) (S := [.inl p4.1]) (e_J6_bitCount_0f7a4 hc_p6) ms_X8_86 rfl (by decide) (Nat.le_of_ble_eq_true rfl) dX8_unlikeSkills_36 rfl ?_
      rcases sm_if_e h with ⟨hb7, h⟩ | ⟨hb7, h⟩
      · refine sm_icmp_le (tgt := 52) (q := 42) dX8_unlikeSkills_39 (by decide) rfl (fun _ => ?_) (fun hn => absurd hb7 hn)
        refine sm_iconst (v := 1) (q := 53) dX8_unlikeSkills_52 rfl (by decide) ?_
        refine sm_istore (L' := [(4, .inl (1 : Int32)), (3, .inl (0 : Int32)), (0, .inr (.inl a0)), (1, .inr (.inl a1)), (2, .inl a2)]) (q := 55) dX8_unlikeSkills_53 rfl (by decide) rfl ?_
        refine sm_pick [2, 3, 4, 1, 0] rfl ?_
        exact w_X8_unlikeSkills_55 N R N _ _ _ _ _ _ _ h
      · refine sm_icmp_le (tgt := 52) (q := 42) dX8_unlikeSkills_39 (by decide) rfl (fun ht => absurd ht hb7) (fun _ => ?_)
        refine sm_iload_n (q := 43) dX8_unlikeSkills_42 rfl rfl 0 rfl ?_
        refine sm_aload_n (q := 44) dX8_unlikeSkills_43 rfl rfl 1 rfl ?_
        refine sm_aload_n (q := 45) dX8_unlikeSkills_44 rfl rfl 2 rfl ?_
        refine sm_iload_n (q := 46) dX8_unlikeSkills_45 rfl rfl 3 rfl ?_
        refine sm_iconst (v := 0) (q := 47) dX8_unlikeSkills_46 rfl (by decide) ?_
        obtain ⟨p8, hc_p8, h⟩ := sm_bd_e h
        refine sm_callVi (q := 50) (As := [.inr (.inl a1), .inl a2, .inl (0 : Int32)]) (S := [.inl (0 : Int32)]) (e_X8_meet hc_p8) mv_X8_98 hc1 rfl (by decide) (Nat.le_of_ble_eq_true rfl) dX8_unlikeSkills_47 rfl ?_
        refine sm_iadd (q := 51) dX8_unlikeSkills_50 rfl ?_
        refine sm_istore_n (L' := [(3, .inl ((0 : Int32) + p8.1)), (0, .inr (.inl a0)), (1, .inr (.inl a1)), (2, .inl a2)]) (q := 52) dX8_unlikeSkills_51 rfl rfl (by decide) rfl ?_
        refine sm_iconst (v := 1) (q := 53) dX8_unlikeSkills_52 rfl (by decide) ?_
        refine sm_istore (L' := [(4, .inl (1 : Int32)), (3, .inl ((0 : Int32) + p8.1)), (0, .inr (.inl a0)), (1, .inr (.inl a1)), (2, .inl a2)]) (q := 55) dX8_unlikeSkills_53 rfl (by decide) rfl ?_
        refine sm_pick [2, 3, 4, 1, 0] rfl ?_
        exact w_X8_unlikeSkills_55 N R N _ _ _ _ _ _ _ h
    · refine sm_icmp_ge (tgt := 24) (q := 11) dX8_unlikeSkills_8 (by decide) rfl (fun ht => absurd ht hb3) (fun _ => ?_)
      refine sm_aload_n (q := 12) dX8_unlikeSkills_11 rfl rfl 0 rfl ?_
      refine sm_getR (r := R a0 4) (q := 15) dX8_unlikeSkills_12 rfl fk_X8_22 hc1 (by decide) (by decide) rfl ?_
      refine sm_iload_n (q := 16) dX8_unlikeSkills_15 rfl rfl 3 rfl ?_
      refine sm_iconst (v := 0) (q := 17) dX8_unlikeSkills_16 rfl (by decide) ?_
      obtain ⟨hc9, h⟩ := sm_gd_e h
      obtain ⟨I10, hI10, h⟩ := sm_lt_e h
      refine sm_zast (n := (sm_kd (R a0 4)).2) (q := 18) dX8_unlikeSkills_17 rfl (Prod.ext hc9.1 rfl) hc9.2 (by decide) ?_
      refine sm_memI hI10 ?_
      refine sm_iinc (v := (a3 + 1)) (L' := [(3, .inl (a3 + 1)), (0, .inr (.inl a0)), (1, .inr (.inl a1)), (2, .inl a2)]) (q := 21) dX8_unlikeSkills_18 rfl 3 rfl rfl (by decide) rfl ?_
      refine sm_goto (q := 2) dX8_unlikeSkills_21 (by decide) ?_
      refine sm_pick [1, 2, 3, 0] rfl ?_
      exact ih _ _ _ _ _ _ h
set_option maxHeartbeats 4000000 in
set_option maxRecDepth 100000 in
theorem w_X8_unlikeSkills {l : Launch} (N : Nat) (R : Nat → Nat → Nat) : ∀ (a0 : Nat) (a1 : Nat) (a2 : Int32) (I : (Nat → Nat → Int32)) (y : (Int32 × (Nat → Nat → Int32))), f_X8_unlikeSkills N R a0 a1 a2 I = some y → sm_W l 5 mX8_unlikeSkills 0 [(0, .inr (.inl a0)), (1, .inr (.inl a1)), (2, .inl a2)] [] (I, R) (.inl (some (.inl y.1))) (y.2, R) := by
  intro a0 a1 a2 I y h
  unfold f_X8_unlikeSkills at h
  refine sm_iconst (v := 0) (q := 1) dX8_unlikeSkills_0 rfl (by decide) ?_
  refine sm_istore_n (L' := [(3, .inl (0 : Int32)), (0, .inr (.inl a0)), (1, .inr (.inl a1)), (2, .inl a2)]) (q := 2) dX8_unlikeSkills_1 rfl rfl (by decide) rfl ?_
  refine sm_pick [1, 2, 3, 0] rfl ?_
  exact w_X8_unlikeSkills_2 N R N _ _ _ _ _ _ h
theorem e_X8_unlikeSkills {l : Launch} {N : Nat} {R : Nat → Nat → Nat} {a0 : Nat} {a1 : Nat} {a2 : Int32} {I : (Nat → Nat → Int32)} {y : (Int32 × (Nat → Nat → Int32))} (h : f_X8_unlikeSkills N R a0 a1 a2 I = some y) : sm_E l 5 mX8_unlikeSkills [.inr (.inl a0), .inr (.inl a1), .inl a2] (I, R) (.inl (some (.inl y.1))) (y.2, R) :=
  sm_meth (by decide) (Nat.le_of_ble_eq_true rfl) (w_X8_unlikeSkills N R a0 a1 a2 I y h)
