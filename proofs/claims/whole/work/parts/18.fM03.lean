def f_X12_freeOf_4 (N : Nat) (R : Nat → Nat → Nat) : Nat → Nat → Int32 → Int32 → Int32 → (Nat → Nat → Int32) → Option (Int32 × (Nat → Nat → Int32))
  | 0, _, _, _, _, _ => none
  | n + 1, a0, a1, a2, a3, I =>
    if (30 : Int32) < a3 then (
      some (a2, I))
    else (
      sm_gd (sm_kd a0 = (12, 59)) <|
      (f_X12_mayGo N R a0 a1 a3 I).bind fun p3 =>
      if p3.1 = 0 then (
        f_X12_freeOf_4 N R n a0 a1 (a2 ||| (0 : Int32)) (a3 + 1) p3.2)
      else (
        f_X12_freeOf_4 N R n a0 a1 (a2 ||| ((1 : Int32) <<< ((a3 - (1 : Int32)) &&& 31))) (a3 + 1) p3.2))
def f_X12_freeOf (N : Nat) (R : Nat → Nat → Nat) : Nat → Int32 → (Nat → Nat → Int32) → Option (Int32 × (Nat → Nat → Int32)) := fun a0 a1 I =>
  f_X12_freeOf_4 N R N a0 a1 (0 : Int32) (1 : Int32) I
set_option maxHeartbeats 4000000 in
set_option maxRecDepth 100000 in
theorem w_X12_freeOf_4 {l : Launch} (N : Nat) (R : Nat → Nat → Nat) : ∀ (n : Nat) (a0 : Nat) (a1 : Int32) (a2 : Int32) (a3 : Int32) (I : (Nat → Nat → Int32)) (y : (Int32 × (Nat → Nat → Int32))), f_X12_freeOf_4 N R n a0 a1 a2 a3 I = some y → sm_W l 3 mX12_freeOf 4 [(0, .inr (.inl a0)), (1, .inl a1), (2, .inl a2), (3, .inl a3)] [] (I, R) (.inl (some (.inl y.1))) (y.2, R) := by
  intro n
  induction n with
  | zero => intro a0 a1 a2 a3 I y h; cases h
  | succ n ih =>
    intro a0 a1 a2 a3 I y h
    rw [f_X12_freeOf_4] at h
    refine sm_iload_n (q := 5) dX12_freeOf_4 rfl rfl 3 rfl ?_
    refine sm_bipush (v := 30) (q := 7) dX12_freeOf_5 rfl (by decide) ?_
    rcases sm_if_e h with ⟨hb1, h⟩ | ⟨hb1, h⟩
    · refine sm_icmp_gt (tgt := 37) (q := 10) dX12_freeOf_7 (by decide) rfl (fun _ => ?_) (fun hn => absurd hb1 hn)
      refine sm_iload_n (q := 38) dX12_freeOf_37 rfl rfl 2 rfl ?_
      obtain rfl := Option.some.inj h
      exact sm_iret dX12_freeOf_38 rfl
    · refine sm_icmp_gt (tgt := 37) (q := 10) dX12_freeOf_7 (by decide) rfl (fun ht => absurd ht hb1) (fun _ => ?_)
      refine sm_iload_n (q := 11) dX12_freeOf_10 rfl rfl 2 rfl ?_
      refine sm_aload_n (q := 12) dX12_freeOf_11 rfl rfl 0 rfl ?_
      refine sm_iload_n (q := 13) dX12_freeOf_12 rfl rfl 1 rfl ?_
      refine sm_iload_n (q := 14) dX12_freeOf_13 rfl rfl 3 rfl ?_
      obtain ⟨hc2, h⟩ := sm_gd_e h
      obtain ⟨p3, hc_p3, h⟩ := sm_bd_e h
      refine sm_callVi (q := 17) (As := [.inl a1, .inl a3]) (S := [.inl a2]) (e_X12_mayGo hc_p3) mv_X12_358 hc2 rfl (by decide) (Nat.le_of_ble_eq_true rfl) dX12_freeOf_14 rfl ?_
      rcases sm_if_e h with ⟨hb4, h⟩ | ⟨hb4, h⟩
      · refine sm_if_eq (tgt := 28) (q := 20) dX12_freeOf_17 (by decide) rfl (fun _ => ?_) (fun hn => absurd hb4 hn)
        refine sm_iconst (v := 0) (q := 29) dX12_freeOf_28 rfl (by decide) ?_
        refine sm_ior (q := 30) dX12_freeOf_29 rfl ?_
        refine sm_istore_n (L' := [(2, .inl (a2 ||| (0 : Int32))), (0, .inr (.inl a0)), (1, .inl a1), (3, .inl a3)]) (q := 31) dX12_freeOf_30 rfl rfl (by decide) rfl ?_
        refine sm_iinc (v := (a3 + 1)) (L' := [(3, .inl (a3 + 1)), (2, .inl (a2 ||| (0 : Int32))), (0, .inr (.inl a0)), (1, .inl a1)]) (q := 34) dX12_freeOf_31 rfl 3 rfl rfl (by decide) rfl ?_
        refine sm_goto (q := 4) dX12_freeOf_34 (by decide) ?_
        refine sm_pick [2, 3, 1, 0] rfl ?_
        exact ih _ _ _ _ _ _ h
      · refine sm_if_eq (tgt := 28) (q := 20) dX12_freeOf_17 (by decide) rfl (fun ht => absurd ht hb4) (fun _ => ?_)
        refine sm_iconst (v := 1) (q := 21) dX12_freeOf_20 rfl (by decide) ?_
        refine sm_iload_n (q := 22) dX12_freeOf_21 rfl rfl 3 rfl ?_
        refine sm_iconst (v := 1) (q := 23) dX12_freeOf_22 rfl (by decide) ?_
        refine sm_isub (q := 24) dX12_freeOf_23 rfl ?_
        refine sm_ishl (q := 25) dX12_freeOf_24 rfl ?_
        refine sm_goto (q := 29) dX12_freeOf_25 (by decide) ?_
        refine sm_ior (q := 30) dX12_freeOf_29 rfl ?_
        refine sm_istore_n (L' := [(2, .inl (a2 ||| ((1 : Int32) <<< ((a3 - (1 : Int32)) &&& 31)))), (0, .inr (.inl a0)), (1, .inl a1), (3, .inl a3)]) (q := 31) dX12_freeOf_30 rfl rfl (by decide) rfl ?_
        refine sm_iinc (v := (a3 + 1)) (L' := [(3, .inl (a3 + 1)), (2, .inl (a2 ||| ((1 : Int32) <<< ((a3 - (1 : Int32)) &&& 31)))), (0, .inr (.inl a0)), (1, .inl a1)]) (q := 34) dX12_freeOf_31 rfl 3 rfl rfl (by decide) rfl ?_
        refine sm_goto (q := 4) dX12_freeOf_34 (by decide) ?_
        refine sm_pick [2, 3, 1, 0] rfl ?_
        exact ih _ _ _ _ _ _ h
set_option maxHeartbeats 4000000 in
set_option maxRecDepth 100000 in
theorem w_X12_freeOf {l : Launch} (N : Nat) (R : Nat → Nat → Nat) : ∀ (a0 : Nat) (a1 : Int32) (I : (Nat → Nat → Int32)) (y : (Int32 × (Nat → Nat → Int32))), f_X12_freeOf N R a0 a1 I = some y → sm_W l 3 mX12_freeOf 0 [(0, .inr (.inl a0)), (1, .inl a1)] [] (I, R) (.inl (some (.inl y.1))) (y.2, R) := by
  intro a0 a1 I y h
  unfold f_X12_freeOf at h
  refine sm_iconst (v := 0) (q := 1) dX12_freeOf_0 rfl (by decide) ?_
  refine sm_istore_n (L' := [(2, .inl (0 : Int32)), (0, .inr (.inl a0)), (1, .inl a1)]) (q := 2) dX12_freeOf_1 rfl rfl (by decide) rfl ?_
  refine sm_iconst (v := 1) (q := 3) dX12_freeOf_2 rfl (by decide) ?_
  refine sm_istore_n (L' := [(3, .inl (1 : Int32)), (2, .inl (0 : Int32)), (0, .inr (.inl a0)), (1, .inl a1)]) (q := 4) dX12_freeOf_3 rfl rfl (by decide) rfl ?_
  refine sm_pick [2, 3, 1, 0] rfl ?_
  exact w_X12_freeOf_4 N R N _ _ _ _ _ _ h
theorem e_X12_freeOf {l : Launch} {N : Nat} {R : Nat → Nat → Nat} {a0 : Nat} {a1 : Int32} {I : (Nat → Nat → Int32)} {y : (Int32 × (Nat → Nat → Int32))} (h : f_X12_freeOf N R a0 a1 I = some y) : sm_E l 3 mX12_freeOf [.inr (.inl a0), .inl a1] (I, R) (.inl (some (.inl y.1))) (y.2, R) :=
  sm_meth (by decide) (Nat.le_of_ble_eq_true rfl) (w_X12_freeOf N R a0 a1 I y h)
def f_X12_allDone_4 (N : Nat) (R : Nat → Nat → Nat) : Nat → Nat → Int32 → Int32 → (Nat → Nat → Int32) → Option (Int32 × (Nat → Nat → Int32))
  | 0, _, _, _, _ => none
  | n + 1, a0, a1, a2, I =>
    sm_gd (sm_kd a0 = (12, 59)) <|
    sm_gd ((sm_kd (R a0 4)).1 = 13 ∧ ¬ ((1 : Int32) < 0 ∨ (sm_kd (R a0 4)).2 ≤ ((1 : Int32)).toNatClampNeg)) <|
    if (I (R a0 4) ((1 : Int32)).toNatClampNeg) ≤ a2 then (
      some (a1, I))
    else (
      (f_X12_isDone N R a0 a2 I).bind fun p4 =>
      if p4.1 = 0 then (
        f_X12_allDone_4 N R n a0 (a1 ||| (0 : Int32)) (a2 + 1) p4.2)
      else (
        f_X12_allDone_4 N R n a0 (a1 ||| ((1 : Int32) <<< (a2 &&& 31))) (a2 + 1) p4.2))
def f_X12_allDone (N : Nat) (R : Nat → Nat → Nat) : Nat → (Nat → Nat → Int32) → Option (Int32 × (Nat → Nat → Int32)) := fun a0 I =>
  f_X12_allDone_4 N R N a0 (0 : Int32) (0 : Int32) I
set_option maxHeartbeats 4000000 in
set_option maxRecDepth 100000 in
theorem w_X12_allDone_4 {l : Launch} (N : Nat) (R : Nat → Nat → Nat) : ∀ (n : Nat) (a0 : Nat) (a1 : Int32) (a2 : Int32) (I : (Nat → Nat → Int32)) (y : (Int32 × (Nat → Nat → Int32))), f_X12_allDone_4 N R n a0 a1 a2 I = some y → sm_W l 1 mX12_allDone 4 [(0, .inr (.inl a0)), (1, .inl a1), (2, .inl a2)] [] (I, R) (.inl (some (.inl y.1))) (y.2, R) := by
  intro n
  induction n with
  | zero => intro a0 a1 a2 I y h; cases h
  | succ n ih =>
    intro a0 a1 a2 I y h
    rw [f_X12_allDone_4] at h
    refine sm_iload_n (q := 5) dX12_allDone_4 rfl rfl 2 rfl ?_
    refine sm_aload_n (q := 6) dX12_allDone_5 rfl rfl 0 rfl ?_
    obtain ⟨hc1, h⟩ := sm_gd_e h
    refine sm_getR (r := R a0 4) (q := 9) dX12_allDone_6 rfl fk_X12_41 hc1 (by decide) (by decide) rfl ?_
    refine sm_iconst (v := 1) (q := 10) dX12_allDone_9 rfl (by decide) ?_
    obtain ⟨hc2, h⟩ := sm_gd_e h
    refine sm_iald (n := (sm_kd (R a0 4)).2) (q := 11) dX12_allDone_10 rfl (Prod.ext hc2.1 rfl) hc2.2 ?_
    rcases sm_if_e h with ⟨hb3, h⟩ | ⟨hb3, h⟩
    · refine sm_icmp_ge (tgt := 38) (q := 14) dX12_allDone_11 (by decide) rfl (fun _ => ?_) (fun hn => absurd hb3 hn)
      refine sm_iload_n (q := 39) dX12_allDone_38 rfl rfl 1 rfl ?_
      obtain rfl := Option.some.inj h
      exact sm_iret dX12_allDone_39 rfl
    · refine sm_icmp_ge (tgt := 38) (q := 14) dX12_allDone_11 (by decide) rfl (fun ht => absurd ht hb3) (fun _ => ?_)
      refine sm_iload_n (q := 15) dX12_allDone_14 rfl rfl 1 rfl ?_
      refine sm_aload_n (q := 16) dX12_allDone_15 rfl rfl 0 rfl ?_
      refine sm_iload_n (q := 17) dX12_allDone_16 rfl rfl 2 rfl ?_
      obtain ⟨p4, hc_p4, h⟩ := sm_bd_e h
      refine sm_callVi (q := 20) (As := [.inl a2]) (S := [.inl a1]) (e_X12_isDone hc_p4) mv_X12_313 hc1 rfl (by decide) (Nat.le_of_ble_eq_true rfl) dX12_allDone_17 rfl ?_
      rcases sm_if_e h with ⟨hb5, h⟩ | ⟨hb5, h⟩
      · refine sm_if_eq (tgt := 29) (q := 23) dX12_allDone_20 (by decide) rfl (fun _ => ?_) (fun hn => absurd hb5 hn)
        refine sm_iconst (v := 0) (q := 30) dX12_allDone_29 rfl (by decide) ?_
        refine sm_ior (q := 31) dX12_allDone_30 rfl ?_
        refine sm_istore_n (L' := [(1, .inl (a1 ||| (0 : Int32))), (0, .inr (.inl a0)), (2, .inl a2)]) (q := 32) dX12_allDone_31 rfl rfl (by decide) rfl ?_
        refine sm_iinc (v := (a2 + 1)) (L' := [(2, .inl (a2 + 1)), (1, .inl (a1 ||| (0 : Int32))), (0, .inr (.inl a0))]) (q := 35) dX12_allDone_32 rfl 2 rfl rfl (by decide) rfl ?_
        refine sm_goto (q := 4) dX12_allDone_35 (by decide) ?_
        refine sm_pick [2, 1, 0] rfl ?_
        exact ih _ _ _ _ _ h
      · refine sm_if_eq (tgt := 29) (q := 23) dX12_allDone_20 (by decide) rfl (fun ht => absurd ht hb5) (fun _ => ?_)
        refine sm_iconst (v := 1) (q := 24) dX12_allDone_23 rfl (by decide) ?_
        refine sm_iload_n (q := 25) dX12_allDone_24 rfl rfl 2 rfl ?_
        refine sm_ishl (q := 26) dX12_allDone_25 rfl ?_
        refine sm_goto (q := 30) dX12_allDone_26 (by decide) ?_
        refine sm_ior (q := 31) dX12_allDone_30 rfl ?_
        refine sm_istore_n (L' := [(1, .inl (a1 ||| ((1 : Int32) <<< (a2 &&& 31)))), (0, .inr (.inl a0)), (2, .inl a2)]) (q := 32) dX12_allDone_31 rfl rfl (by decide) rfl ?_
        refine sm_iinc (v := (a2 + 1)) (L' := [(2, .inl (a2 + 1)), (1, .inl (a1 ||| ((1 : Int32) <<< (a2 &&& 31)))), (0, .inr (.inl a0))]) (q := 35) dX12_allDone_32 rfl 2 rfl rfl (by decide) rfl ?_
        refine sm_goto (q := 4) dX12_allDone_35 (by decide) ?_
        refine sm_pick [2, 1, 0] rfl ?_
        exact ih _ _ _ _ _ h
set_option maxHeartbeats 4000000 in
set_option maxRecDepth 100000 in
theorem w_X12_allDone {l : Launch} (N : Nat) (R : Nat → Nat → Nat) : ∀ (a0 : Nat) (I : (Nat → Nat → Int32)) (y : (Int32 × (Nat → Nat → Int32))), f_X12_allDone N R a0 I = some y → sm_W l 1 mX12_allDone 0 [(0, .inr (.inl a0))] [] (I, R) (.inl (some (.inl y.1))) (y.2, R) := by
  intro a0 I y h
  unfold f_X12_allDone at h
  refine sm_iconst (v := 0) (q := 1) dX12_allDone_0 rfl (by decide) ?_
  refine sm_istore_n (L' := [(1, .inl (0 : Int32)), (0, .inr (.inl a0))]) (q := 2) dX12_allDone_1 rfl rfl (by decide) rfl ?_
  refine sm_iconst (v := 0) (q := 3) dX12_allDone_2 rfl (by decide) ?_
  refine sm_istore_n (L' := [(2, .inl (0 : Int32)), (1, .inl (0 : Int32)), (0, .inr (.inl a0))]) (q := 4) dX12_allDone_3 rfl rfl (by decide) rfl ?_
  refine sm_pick [2, 1, 0] rfl ?_
  exact w_X12_allDone_4 N R N _ _ _ _ _ h
theorem e_X12_allDone {l : Launch} {N : Nat} {R : Nat → Nat → Nat} {a0 : Nat} {I : (Nat → Nat → Int32)} {y : (Int32 × (Nat → Nat → Int32))} (h : f_X12_allDone N R a0 I = some y) : sm_E l 1 mX12_allDone [.inr (.inl a0)] (I, R) (.inl (some (.inl y.1))) (y.2, R) :=
  sm_meth (by decide) (Nat.le_of_ble_eq_true rfl) (w_X12_allDone N R a0 I y h)
def f_X12_allSkill_4 (N : Nat) (R : Nat → Nat → Nat) : Nat → Nat → Int32 → Int32 → (Nat → Nat → Int32) → Option (Int32 × (Nat → Nat → Int32))
  | 0, _, _, _, _ => none
  | n + 1, a0, a1, a2, I =>
    sm_gd (sm_kd a0 = (12, 59)) <|
    sm_gd ((sm_kd (R a0 4)).1 = 13 ∧ ¬ ((1 : Int32) < 0 ∨ (sm_kd (R a0 4)).2 ≤ ((1 : Int32)).toNatClampNeg)) <|
    if (I (R a0 4) ((1 : Int32)).toNatClampNeg) ≤ a2 then (
      some (a1, I))
    else (
      sm_gd ((sm_kd (R a0 25)).1 = 13 ∧ ¬ (a2 < 0 ∨ (sm_kd (R a0 25)).2 ≤ (a2).toNatClampNeg)) <|
      f_X12_allSkill_4 N R n a0 (a1 + (I (R a0 25) (a2).toNatClampNeg)) (a2 + 1) I)
def f_X12_allSkill (N : Nat) (R : Nat → Nat → Nat) : Nat → (Nat → Nat → Int32) → Option (Int32 × (Nat → Nat → Int32)) := fun a0 I =>
  f_X12_allSkill_4 N R N a0 (0 : Int32) (0 : Int32) I
set_option maxHeartbeats 4000000 in
set_option maxRecDepth 100000 in
theorem w_X12_allSkill_4 {l : Launch} (N : Nat) (R : Nat → Nat → Nat) : ∀ (n : Nat) (a0 : Nat) (a1 : Int32) (a2 : Int32) (I : (Nat → Nat → Int32)) (y : (Int32 × (Nat → Nat → Int32))), f_X12_allSkill_4 N R n a0 a1 a2 I = some y → sm_W l 0 mX12_allSkill 4 [(0, .inr (.inl a0)), (1, .inl a1), (2, .inl a2)] [] (I, R) (.inl (some (.inl y.1))) (y.2, R) := by
  intro n
  induction n with
  | zero => intro a0 a1 a2 I y h; cases h
  | succ n ih =>
    intro a0 a1 a2 I y h
    rw [f_X12_allSkill_4] at h
    refine sm_iload_n (q := 5) dX12_allSkill_4 rfl rfl 2 rfl ?_
    refine sm_aload_n (q := 6) dX12_allSkill_5 rfl rfl 0 rfl ?_
    obtain ⟨hc1, h⟩ := sm_gd_e h
    refine sm_getR (r := R a0 4) (q := 9) dX12_allSkill_6 rfl fk_X12_41 hc1 (by decide) (by decide) rfl ?_
    refine sm_iconst (v := 1) (q := 10) dX12_allSkill_9 rfl (by decide) ?_
    obtain ⟨hc2, h⟩ := sm_gd_e h
    refine sm_iald (n := (sm_kd (R a0 4)).2) (q := 11) dX12_allSkill_10 rfl (Prod.ext hc2.1 rfl) hc2.2 ?_
    rcases sm_if_e h with ⟨hb3, h⟩ | ⟨hb3, h⟩
    · refine sm_icmp_ge (tgt := 29) (q := 14) dX12_allSkill_11 (by decide) rfl (fun _ => ?_) (fun hn => absurd hb3 hn)
      refine sm_iload_n (q := 30) dX12_allSkill_29 rfl rfl 1 rfl ?_
      obtain rfl := Option.some.inj h
      exact sm_iret dX12_allSkill_30 rfl
    · refine sm_icmp_ge (tgt := 29) (q := 14) dX12_allSkill_11 (by decide) rfl (fun ht => absurd ht hb3) (fun _ => ?_)
      refine sm_iload_n (q := 15) dX12_allSkill_14 rfl rfl 1 rfl ?_
      refine sm_aload_n (q := 16) dX12_allSkill_15 rfl rfl 0 rfl ?_
      refine sm_getR (r := R a0 25) (q := 19) dX12_allSkill_16 rfl fk_X12_76 hc1 (by decide) (by decide) rfl ?_
      refine sm_iload_n (q := 20) dX12_allSkill_19 rfl rfl 2 rfl ?_
      obtain ⟨hc4, h⟩ := sm_gd_e h
      refine sm_iald (n := (sm_kd (R a0 25)).2) (q := 21) dX12_allSkill_20 rfl (Prod.ext hc4.1 rfl) hc4.2 ?_
      refine sm_iadd (q := 22) dX12_allSkill_21 rfl ?_
      refine sm_istore_n (L' := [(1, .inl (a1 + (I (R a0 25) (a2).toNatClampNeg))), (0, .inr (.inl a0)), (2, .inl a2)]) (q := 23) dX12_allSkill_22 rfl rfl (by decide) rfl ?_
      refine sm_iinc (v := (a2 + 1)) (L' := [(2, .inl (a2 + 1)), (1, .inl (a1 + (I (R a0 25) (a2).toNatClampNeg))), (0, .inr (.inl a0))]) (q := 26) dX12_allSkill_23 rfl 2 rfl rfl (by decide) rfl ?_
      refine sm_goto (q := 4) dX12_allSkill_26 (by decide) ?_
      refine sm_pick [2, 1, 0] rfl ?_
      exact ih _ _ _ _ _ h
set_option maxHeartbeats 4000000 in
set_option maxRecDepth 100000 in
theorem w_X12_allSkill {l : Launch} (N : Nat) (R : Nat → Nat → Nat) : ∀ (a0 : Nat) (I : (Nat → Nat → Int32)) (y : (Int32 × (Nat → Nat → Int32))), f_X12_allSkill N R a0 I = some y → sm_W l 0 mX12_allSkill 0 [(0, .inr (.inl a0))] [] (I, R) (.inl (some (.inl y.1))) (y.2, R) := by
  intro a0 I y h
  unfold f_X12_allSkill at h
  refine sm_iconst (v := 0) (q := 1) dX12_allSkill_0 rfl (by decide) ?_
  refine sm_istore_n (L' := [(1, .inl (0 : Int32)), (0, .inr (.inl a0))]) (q := 2) dX12_allSkill_1 rfl rfl (by decide) rfl ?_
  refine sm_iconst (v := 0) (q := 3) dX12_allSkill_2 rfl (by decide) ?_
  refine sm_istore_n (L' := [(2, .inl (0 : Int32)), (1, .inl (0 : Int32)), (0, .inr (.inl a0))]) (q := 4) dX12_allSkill_3 rfl rfl (by decide) rfl ?_
  refine sm_pick [2, 1, 0] rfl ?_
  exact w_X12_allSkill_4 N R N _ _ _ _ _ h
theorem e_X12_allSkill {l : Launch} {N : Nat} {R : Nat → Nat → Nat} {a0 : Nat} {I : (Nat → Nat → Int32)} {y : (Int32 × (Nat → Nat → Int32))} (h : f_X12_allSkill N R a0 I = some y) : sm_E l 0 mX12_allSkill [.inr (.inl a0)] (I, R) (.inl (some (.inl y.1))) (y.2, R) :=
  sm_meth (by decide) (Nat.le_of_ble_eq_true rfl) (w_X12_allSkill N R a0 I y h)
def f_X12_allBars_4 (N : Nat) (R : Nat → Nat → Nat) : Nat → Nat → Int32 → Int32 → (Nat → Nat → Int32) → Option (Int32 × (Nat → Nat → Int32))
  | 0, _, _, _, _ => none
  | n + 1, a0, a1, a2, I =>
    sm_gd (sm_kd a0 = (12, 59)) <|
    sm_gd ((sm_kd (R a0 4)).1 = 13 ∧ ¬ ((1 : Int32) < 0 ∨ (sm_kd (R a0 4)).2 ≤ ((1 : Int32)).toNatClampNeg)) <|
    if (I (R a0 4) ((1 : Int32)).toNatClampNeg) ≤ a2 then (
      some (a1, I))
    else (
      sm_gd ((sm_kd (R a0 28)).1 = 13 ∧ ¬ (a2 < 0 ∨ (sm_kd (R a0 28)).2 ≤ (a2).toNatClampNeg)) <|
      f_X12_allBars_4 N R n a0 (a1 + (I (R a0 28) (a2).toNatClampNeg)) (a2 + 1) I)
def f_X12_allBars (N : Nat) (R : Nat → Nat → Nat) : Nat → (Nat → Nat → Int32) → Option (Int32 × (Nat → Nat → Int32)) := fun a0 I =>
  f_X12_allBars_4 N R N a0 (0 : Int32) (0 : Int32) I
set_option maxHeartbeats 4000000 in
set_option maxRecDepth 100000 in
theorem w_X12_allBars_4 {l : Launch} (N : Nat) (R : Nat → Nat → Nat) : ∀ (n : Nat) (a0 : Nat) (a1 : Int32) (a2 : Int32) (I : (Nat → Nat → Int32)) (y : (Int32 × (Nat → Nat → Int32))), f_X12_allBars_4 N R n a0 a1 a2 I = some y → sm_W l 0 mX12_allBars 4 [(0, .inr (.inl a0)), (1, .inl a1), (2, .inl a2)] [] (I, R) (.inl (some (.inl y.1))) (y.2, R) := by
  intro n
  induction n with
  | zero => intro a0 a1 a2 I y h; cases h
  | succ n ih =>
    intro a0 a1 a2 I y h
    rw [f_X12_allBars_4] at h
    refine sm_iload_n (q := 5) dX12_allBars_4 rfl rfl 2 rfl ?_
    refine sm_aload_n (q := 6) dX12_allBars_5 rfl rfl 0 rfl ?_
    obtain ⟨hc1, h⟩ := sm_gd_e h
    refine sm_getR (r := R a0 4) (q := 9) dX12_allBars_6 rfl fk_X12_41 hc1 (by decide) (by decide) rfl ?_
    refine sm_iconst (v := 1) (q := 10) dX12_allBars_9 rfl (by decide) ?_
    obtain ⟨hc2, h⟩ := sm_gd_e h
    refine sm_iald (n := (sm_kd (R a0 4)).2) (q := 11) dX12_allBars_10 rfl (Prod.ext hc2.1 rfl) hc2.2 ?_
    rcases sm_if_e h with ⟨hb3, h⟩ | ⟨hb3, h⟩
    · refine sm_icmp_ge (tgt := 29) (q := 14) dX12_allBars_11 (by decide) rfl (fun _ => ?_) (fun hn => absurd hb3 hn)
      refine sm_iload_n (q := 30) dX12_allBars_29 rfl rfl 1 rfl ?_
      obtain rfl := Option.some.inj h
      exact sm_iret dX12_allBars_30 rfl
    · refine sm_icmp_ge (tgt := 29) (q := 14) dX12_allBars_11 (by decide) rfl (fun ht => absurd ht hb3) (fun _ => ?_)
      refine sm_iload_n (q := 15) dX12_allBars_14 rfl rfl 1 rfl ?_
      refine sm_aload_n (q := 16) dX12_allBars_15 rfl rfl 0 rfl ?_
      refine sm_getR (r := R a0 28) (q := 19) dX12_allBars_16 rfl fk_X12_85 hc1 (by decide) (by decide) rfl ?_
      refine sm_iload_n (q := 20) dX12_allBars_19 rfl rfl 2 rfl ?_
      obtain ⟨hc4, h⟩ := sm_gd_e h
      refine sm_iald (n := (sm_kd (R a0 28)).2) (q := 21) dX12_allBars_20 rfl (Prod.ext hc4.1 rfl) hc4.2 ?_
      refine sm_iadd (q := 22) dX12_allBars_21 rfl ?_
      refine sm_istore_n (L' := [(1, .inl (a1 + (I (R a0 28) (a2).toNatClampNeg))), (0, .inr (.inl a0)), (2, .inl a2)]) (q := 23) dX12_allBars_22 rfl rfl (by decide) rfl ?_
      refine sm_iinc (v := (a2 + 1)) (L' := [(2, .inl (a2 + 1)), (1, .inl (a1 + (I (R a0 28) (a2).toNatClampNeg))), (0, .inr (.inl a0))]) (q := 26) dX12_allBars_23 rfl 2 rfl rfl (by decide) rfl ?_
      refine sm_goto (q := 4) dX12_allBars_26 (by decide) ?_
      refine sm_pick [2, 1, 0] rfl ?_
      exact ih _ _ _ _ _ h
set_option maxHeartbeats 4000000 in
set_option maxRecDepth 100000 in
theorem w_X12_allBars {l : Launch} (N : Nat) (R : Nat → Nat → Nat) : ∀ (a0 : Nat) (I : (Nat → Nat → Int32)) (y : (Int32 × (Nat → Nat → Int32))), f_X12_allBars N R a0 I = some y → sm_W l 0 mX12_allBars 0 [(0, .inr (.inl a0))] [] (I, R) (.inl (some (.inl y.1))) (y.2, R) := by
  intro a0 I y h
  unfold f_X12_allBars at h
  refine sm_iconst (v := 0) (q := 1) dX12_allBars_0 rfl (by decide) ?_
  refine sm_istore_n (L' := [(1, .inl (0 : Int32)), (0, .inr (.inl a0))]) (q := 2) dX12_allBars_1 rfl rfl (by decide) rfl ?_
  refine sm_iconst (v := 0) (q := 3) dX12_allBars_2 rfl (by decide) ?_
  refine sm_istore_n (L' := [(2, .inl (0 : Int32)), (1, .inl (0 : Int32)), (0, .inr (.inl a0))]) (q := 4) dX12_allBars_3 rfl rfl (by decide) rfl ?_
  refine sm_pick [2, 1, 0] rfl ?_
  exact w_X12_allBars_4 N R N _ _ _ _ _ h
theorem e_X12_allBars {l : Launch} {N : Nat} {R : Nat → Nat → Nat} {a0 : Nat} {I : (Nat → Nat → Int32)} {y : (Int32 × (Nat → Nat → Int32))} (h : f_X12_allBars N R a0 I = some y) : sm_E l 0 mX12_allBars [.inr (.inl a0)] (I, R) (.inl (some (.inl y.1))) (y.2, R) :=
  sm_meth (by decide) (Nat.le_of_ble_eq_true rfl) (w_X12_allBars N R a0 I y h)
def f_X12_count (N : Nat) (R : Nat → Nat → Nat) : Nat → Int32 → (Nat → Nat → Int32) → Option (Int32 × (Nat → Nat → Int32)) := fun a0 a1 I =>
  sm_gd (sm_kd a0 = (12, 59)) <|
  sm_lt (sm_up I a0 (sm_up (I a0) 3 (0 : Int32))) fun I2 =>
  if a1 = 0 then (
    sm_gd ((sm_kd (R a0 4)).1 = 13 ∧ ¬ (a1 < 0 ∨ (sm_kd (R a0 4)).2 ≤ (a1).toNatClampNeg)) <|
    some ((I2 (R a0 4) (a1).toNatClampNeg), I2))
  else (
    if a1 = 1 then (
      sm_gd ((sm_kd (R a0 4)).1 = 13 ∧ ¬ (a1 < 0 ∨ (sm_kd (R a0 4)).2 ≤ (a1).toNatClampNeg)) <|
      some ((I2 (R a0 4) (a1).toNatClampNeg), I2))
    else (
      if a1 = 2 then (
        some ((I2 a0 32), I2))
      else (
        if a1 = 3 then (
          some ((I2 a0 31), I2))
        else (
          if a1 = 4 then (
            (f_X12_awayIn N R a0 (1 : Int32) I2).bind fun p10 =>
            some (p10.1, p10.2))
          else (
            if a1 = 5 then (
              (f_X12_allDone N R a0 I2).bind fun p12 =>
              some (p12.1, p12.2))
            else (
              if a1 = 6 then (
                (f_X12_allSkill N R a0 I2).bind fun p14 =>
                some (p14.1, p14.2))
              else (
                if a1 = 7 then (
                  some ((I2 a0 33), I2))
                else (
                  if a1 = 8 then (
                    some ((I2 a0 34), I2))
                  else (
                    if a1 = 9 then (
                      some ((I2 a0 15), I2))
                    else (
                      if a1 = 10 then (
                        sm_gd ((sm_kd (R a0 13)).1 = 13 ∧ ¬ ((a1 - (10 : Int32)) < 0 ∨ (sm_kd (R a0 13)).2 ≤ ((a1 - (10 : Int32))).toNatClampNeg)) <|
                        some ((I2 (R a0 13) ((a1 - (10 : Int32))).toNatClampNeg), I2))
                      else (
                        if a1 = 11 then (
                          sm_gd ((sm_kd (R a0 13)).1 = 13 ∧ ¬ ((a1 - (10 : Int32)) < 0 ∨ (sm_kd (R a0 13)).2 ≤ ((a1 - (10 : Int32))).toNatClampNeg)) <|
                          some ((I2 (R a0 13) ((a1 - (10 : Int32))).toNatClampNeg), I2))
                        else (
                          if a1 = 12 then (
                            sm_gd ((sm_kd (R a0 13)).1 = 13 ∧ ¬ ((a1 - (10 : Int32)) < 0 ∨ (sm_kd (R a0 13)).2 ≤ ((a1 - (10 : Int32))).toNatClampNeg)) <|
                            some ((I2 (R a0 13) ((a1 - (10 : Int32))).toNatClampNeg), I2))
                          else (
                            (f_X12_fail N R a0 (1 : Int32) I2).bind fun p24 =>
                            some (p24.1, p24.2))))))))))))))
set_option maxHeartbeats 4000000 in
set_option maxRecDepth 100000 in
theorem w_X12_count {l : Launch} (N : Nat) (R : Nat → Nat → Nat) : ∀ (a0 : Nat) (a1 : Int32) (I : (Nat → Nat → Int32)) (y : (Int32 × (Nat → Nat → Int32))), f_X12_count N R a0 a1 I = some y → sm_W l 2 mX12_count 0 [(0, .inr (.inl a0)), (1, .inl a1)] [] (I, R) (.inl (some (.inl y.1))) (y.2, R) := by
  intro a0 a1 I y h
  unfold f_X12_count at h
  refine sm_aload_n (q := 1) dX12_count_0 rfl rfl 0 rfl ?_
  refine sm_iconst (v := 0) (q := 2) dX12_count_1 rfl (by decide) ?_
  obtain ⟨hc1, h⟩ := sm_gd_e h
  obtain ⟨I2, hI2, h⟩ := sm_lt_e h
  refine sm_putI (q := 5) dX12_count_2 rfl fk_X12_152 hc1 (by decide) (by decide) ?_
  refine sm_memI hI2 ?_
  refine sm_iload_n (q := 6) dX12_count_5 rfl rfl 1 rfl ?_
  rcases sm_if_e h with ⟨hb3, h⟩ | ⟨hb3, h⟩
  · refine sm_tableIn (q := 72) (off := 66) dX12_count_6 (by rw [hb3]; decide) (by rw [hb3]; decide) (by rw [hb3]; decide) (by decide) ?_
    refine sm_aload_n (q := 73) dX12_count_72 rfl rfl 0 rfl ?_
    refine sm_getR (r := R a0 4) (q := 76) dX12_count_73 rfl fk_X12_41 hc1 (by decide) (by decide) rfl ?_
    refine sm_iload_n (q := 77) dX12_count_76 rfl rfl 1 rfl ?_
    obtain ⟨hc4, h⟩ := sm_gd_e h
    refine sm_iald (n := (sm_kd (R a0 4)).2) (q := 78) dX12_count_77 rfl (Prod.ext hc4.1 rfl) hc4.2 ?_
    obtain rfl := Option.some.inj h
    exact sm_iret dX12_count_78 rfl
  · rcases sm_if_e h with ⟨hb5, h⟩ | ⟨hb5, h⟩
    · refine sm_tableIn (q := 72) (off := 66) dX12_count_6 (by rw [hb5]; decide) (by rw [hb5]; decide) (by rw [hb5]; decide) (by decide) ?_
      refine sm_aload_n (q := 73) dX12_count_72 rfl rfl 0 rfl ?_
      refine sm_getR (r := R a0 4) (q := 76) dX12_count_73 rfl fk_X12_41 hc1 (by decide) (by decide) rfl ?_
      refine sm_iload_n (q := 77) dX12_count_76 rfl rfl 1 rfl ?_
      obtain ⟨hc6, h⟩ := sm_gd_e h
      refine sm_iald (n := (sm_kd (R a0 4)).2) (q := 78) dX12_count_77 rfl (Prod.ext hc6.1 rfl) hc6.2 ?_
      obtain rfl := Option.some.inj h
      exact sm_iret dX12_count_78 rfl
    · rcases sm_if_e h with ⟨hb7, h⟩ | ⟨hb7, h⟩
      · refine sm_tableIn (q := 79) (off := 73) dX12_count_6 (by rw [hb7]; decide) (by rw [hb7]; decide) (by rw [hb7]; decide) (by decide) ?_
        refine sm_aload_n (q := 80) dX12_count_79 rfl rfl 0 rfl ?_
        refine sm_getI (q := 83) dX12_count_80 rfl fk_X12_149 hc1 (by decide) (by decide) ?_
        obtain rfl := Option.some.inj h
        exact sm_iret dX12_count_83 rfl
      · rcases sm_if_e h with ⟨hb8, h⟩ | ⟨hb8, h⟩
        · refine sm_tableIn (q := 84) (off := 78) dX12_count_6 (by rw [hb8]; decide) (by rw [hb8]; decide) (by rw [hb8]; decide) (by decide) ?_
          refine sm_aload_n (q := 85) dX12_count_84 rfl rfl 0 rfl ?_
          refine sm_getI (q := 88) dX12_count_85 rfl fk_X12_296 hc1 (by decide) (by decide) ?_
          obtain rfl := Option.some.inj h
          exact sm_iret dX12_count_88 rfl
        · rcases sm_if_e h with ⟨hb9, h⟩ | ⟨hb9, h⟩
          · refine sm_tableIn (q := 89) (off := 83) dX12_count_6 (by rw [hb9]; decide) (by rw [hb9]; decide) (by rw [hb9]; decide) (by decide) ?_
            refine sm_aload_n (q := 90) dX12_count_89 rfl rfl 0 rfl ?_
            refine sm_iconst (v := 1) (q := 91) dX12_count_90 rfl (by decide) ?_
            obtain ⟨p10, hc_p10, h⟩ := sm_bd_e h
            refine sm_callVi (q := 94) (As := [.inl (1 : Int32)]) (S := []) (e_X12_awayIn hc_p10) mv_X12_351 hc1 rfl (by decide) (Nat.le_of_ble_eq_true rfl) dX12_count_91 rfl ?_
            obtain rfl := Option.some.inj h
            exact sm_iret dX12_count_94 rfl
          · rcases sm_if_e h with ⟨hb11, h⟩ | ⟨hb11, h⟩
            · refine sm_tableIn (q := 95) (off := 89) dX12_count_6 (by rw [hb11]; decide) (by rw [hb11]; decide) (by rw [hb11]; decide) (by decide) ?_
              refine sm_aload_n (q := 96) dX12_count_95 rfl rfl 0 rfl ?_
              obtain ⟨p12, hc_p12, h⟩ := sm_bd_e h
              refine sm_callVi (q := 99) (As := []) (S := []) (e_X12_allDone hc_p12) mv_X12_361 hc1 rfl (by decide) (Nat.le_of_ble_eq_true rfl) dX12_count_96 rfl ?_
              obtain rfl := Option.some.inj h
              exact sm_iret dX12_count_99 rfl
            · rcases sm_if_e h with ⟨hb13, h⟩ | ⟨hb13, h⟩
              · refine sm_tableIn (q := 100) (off := 94) dX12_count_6 (by rw [hb13]; decide) (by rw [hb13]; decide) (by rw [hb13]; decide) (by decide) ?_
                refine sm_aload_n (q := 101) dX12_count_100 rfl rfl 0 rfl ?_
                obtain ⟨p14, hc_p14, h⟩ := sm_bd_e h
                refine sm_callVi (q := 104) (As := []) (S := []) (e_X12_allSkill hc_p14) mv_X12_364 hc1 rfl (by decide) (Nat.le_of_ble_eq_true rfl) dX12_count_101 rfl ?_
                obtain rfl := Option.some.inj h
                exact sm_iret dX12_count_104 rfl
              · rcases sm_if_e h with ⟨hb15, h⟩ | ⟨hb15, h⟩
                · refine sm_tableIn (q := 105) (off := 99) dX12_count_6 (by rw [hb15]; decide) (by rw [hb15]; decide) (by rw [hb15]; decide) (by decide) ?_
                  refine sm_aload_n (q := 106) dX12_count_105 rfl rfl 0 rfl ?_
                  refine sm_getI (q := 109) dX12_count_106 rfl fk_X12_299 hc1 (by decide) (by decide) ?_
                  obtain rfl := Option.some.inj h
                  exact sm_iret dX12_count_109 rfl
                · rcases sm_if_e h with ⟨hb16, h⟩ | ⟨hb16, h⟩
                  · refine sm_tableIn (q := 110) (off := 104) dX12_count_6 (by rw [hb16]; decide) (by rw [hb16]; decide) (by rw [hb16]; decide) (by decide) ?_
                    refine sm_aload_n (q := 111) dX12_count_110 rfl rfl 0 rfl ?_
                    refine sm_getI (q := 114) dX12_count_111 rfl fk_X12_302 hc1 (by decide) (by decide) ?_
                    obtain rfl := Option.some.inj h
                    exact sm_iret dX12_count_114 rfl
                  · rcases sm_if_e h with ⟨hb17, h⟩ | ⟨hb17, h⟩
                    · refine sm_tableIn (q := 115) (off := 109) dX12_count_6 (by rw [hb17]; decide) (by rw [hb17]; decide) (by rw [hb17]; decide) (by decide) ?_
                      refine sm_aload_n (q := 116) dX12_count_115 rfl rfl 0 rfl ?_
                      refine sm_getI (q := 119) dX12_count_116 rfl fk_X12_159 hc1 (by decide) (by decide) ?_
                      obtain rfl := Option.some.inj h
                      exact sm_iret dX12_count_119 rfl
                    · rcases sm_if_e h with ⟨hb18, h⟩ | ⟨hb18, h⟩
                      · refine sm_tableIn (q := 120) (off := 114) dX12_count_6 (by rw [hb18]; decide) (by rw [hb18]; decide) (by rw [hb18]; decide) (by decide) ?_
                        refine sm_aload_n (q := 121) dX12_count_120 rfl rfl 0 rfl ?_
                        refine sm_getR (r := R a0 13) (q := 124) dX12_count_121 rfl fk_X12_66 hc1 (by decide) (by decide) rfl ?_
                        refine sm_iload_n (q := 125) dX12_count_124 rfl rfl 1 rfl ?_
                        refine sm_bipush (v := 10) (q := 127) dX12_count_125 rfl (by decide) ?_
                        refine sm_isub (q := 128) dX12_count_127 rfl ?_
                        obtain ⟨hc19, h⟩ := sm_gd_e h
                        refine sm_iald (n := (sm_kd (R a0 13)).2) (q := 129) dX12_count_128 rfl (Prod.ext hc19.1 rfl) hc19.2 ?_
                        obtain rfl := Option.some.inj h
                        exact sm_iret dX12_count_129 rfl
                      · rcases sm_if_e h with ⟨hb20, h⟩ | ⟨hb20, h⟩
                        · refine sm_tableIn (q := 120) (off := 114) dX12_count_6 (by rw [hb20]; decide) (by rw [hb20]; decide) (by rw [hb20]; decide) (by decide) ?_
                          refine sm_aload_n (q := 121) dX12_count_120 rfl rfl 0 rfl ?_
                          refine sm_getR (r := R a0 13) (q := 124) dX12_count_121 rfl fk_X12_66 hc1 (by decide) (by decide) rfl ?_
                          refine sm_iload_n (q := 125) dX12_count_124 rfl rfl 1 rfl ?_
                          refine sm_bipush (v := 10) (q := 127) dX12_count_125 rfl (by decide) ?_
                          refine sm_isub (q := 128) dX12_count_127 rfl ?_
                          obtain ⟨hc21, h⟩ := sm_gd_e h
                          refine sm_iald (n := (sm_kd (R a0 13)).2) (q := 129) dX12_count_128 rfl (Prod.ext hc21.1 rfl) hc21.2 ?_
                          obtain rfl := Option.some.inj h
                          exact sm_iret dX12_count_129 rfl
                        · rcases sm_if_e h with ⟨hb22, h⟩ | ⟨hb22, h⟩
                          · refine sm_tableIn (q := 120) (off := 114) dX12_count_6 (by rw [hb22]; decide) (by rw [hb22]; decide) (by rw [hb22]; decide) (by decide) ?_
                            refine sm_aload_n (q := 121) dX12_count_120 rfl rfl 0 rfl ?_
                            refine sm_getR (r := R a0 13) (q := 124) dX12_count_121 rfl fk_X12_66 hc1 (by decide) (by decide) rfl ?_
                            refine sm_iload_n (q := 125) dX12_count_124 rfl rfl 1 rfl ?_
                            refine sm_bipush (v := 10) (q := 127) dX12_count_125 rfl (by decide) ?_
                            refine sm_isub (q := 128) dX12_count_127 rfl ?_
                            obtain ⟨hc23, h⟩ := sm_gd_e h
                            refine sm_iald (n := (sm_kd (R a0 13)).2) (q := 129) dX12_count_128 rfl (Prod.ext hc23.1 rfl) hc23.2 ?_
                            obtain rfl := Option.some.inj h
                            exact sm_iret dX12_count_129 rfl
                          · refine sm_tableOut (q := 130) dX12_count_6 (sm_sw (fun v h1 h2 he => (fun e => e.elim (fun e => hb3 (he.trans ((congrArg Int32.ofInt e).trans (by decide)))) (fun e => e.elim (fun e => hb5 (he.trans ((congrArg Int32.ofInt e).trans (by decide)))) (fun e => e.elim (fun e => hb7 (he.trans ((congrArg Int32.ofInt e).trans (by decide)))) (fun e => e.elim (fun e => hb8 (he.trans ((congrArg Int32.ofInt e).trans (by decide)))) (fun e => e.elim (fun e => hb9 (he.trans ((congrArg Int32.ofInt e).trans (by decide)))) (fun e => e.elim (fun e => hb11 (he.trans ((congrArg Int32.ofInt e).trans (by decide)))) (fun e => e.elim (fun e => hb13 (he.trans ((congrArg Int32.ofInt e).trans (by decide)))) (fun e => e.elim (fun e => hb15 (he.trans ((congrArg Int32.ofInt e).trans (by decide)))) (fun e => e.elim (fun e => hb16 (he.trans ((congrArg Int32.ofInt e).trans (by decide)))) (fun e => e.elim (fun e => hb17 (he.trans ((congrArg Int32.ofInt e).trans (by decide)))) (fun e => e.elim (fun e => hb18 (he.trans ((congrArg Int32.ofInt e).trans (by decide)))) (fun e => e.elim (fun e => hb20 (he.trans ((congrArg Int32.ofInt e).trans (by decide)))) (fun e => hb22 (he.trans ((congrArg Int32.ofInt e).trans (by decide)))))))))))))))) (show v = 0 ∨ v = 1 ∨ v = 2 ∨ v = 3 ∨ v = 4 ∨ v = 5 ∨ v = 6 ∨ v = 7 ∨ v = 8 ∨ v = 9 ∨ v = 10 ∨ v = 11 ∨ v = 12 by omega))) (by decide) ?_
                            refine sm_aload_n (q := 131) dX12_count_130 rfl rfl 0 rfl ?_
                            refine sm_iconst (v := 1) (q := 132) dX12_count_131 rfl (by decide) ?_
                            obtain ⟨p24, hc_p24, h⟩ := sm_bd_e h
                            refine sm_callVi (q := 135) (As := [.inl (1 : Int32)]) (S := []) (e_X12_fail hc_p24) mv_X12_283 hc1 rfl (by decide) (Nat.le_of_ble_eq_true rfl) dX12_count_132 rfl ?_
                            obtain rfl := Option.some.inj h
                            exact sm_iret dX12_count_135 rfl
theorem e_X12_count {l : Launch} {N : Nat} {R : Nat → Nat → Nat} {a0 : Nat} {a1 : Int32} {I : (Nat → Nat → Int32)} {y : (Int32 × (Nat → Nat → Int32))} (h : f_X12_count N R a0 a1 I = some y) : sm_E l 2 mX12_count [.inr (.inl a0), .inl a1] (I, R) (.inl (some (.inl y.1))) (y.2, R) :=
  sm_meth (by decide) (Nat.le_of_ble_eq_true rfl) (w_X12_count N R a0 a1 I y h)
def f_X12_stepOf_4 (N : Nat) (R : Nat → Nat → Nat) : Nat → Nat → Int32 → Int32 → Int32 → (Nat → Nat → Int32) → Option (Int32 × (Nat → Nat → Int32))
  | 0, _, _, _, _, _ => none
  | n + 1, a0, a1, a2, a3, I =>
    sm_gd (sm_kd a0 = (12, 59)) <|
    sm_gd ((sm_kd (R a0 6)).1 = 13 ∧ ¬ (a1 < 0 ∨ (sm_kd (R a0 6)).2 ≤ (a1).toNatClampNeg)) <|
    if (I (R a0 6) (a1).toNatClampNeg) ≤ a3 then (
      some (a2, I))
    else (
      (f_X12_hardOf N R a0 a1 a3 I).bind fun p4 =>
      (f_X12_hardOf N R a0 a1 (a3 - (1 : Int32)) p4.2).bind fun p5 =>
      f_X12_stepOf_4 N R n a0 a1 (sm_mx a2 (p4.1 - p5.1)) (a3 + 1) p5.2)
def f_X12_stepOf (N : Nat) (R : Nat → Nat → Nat) : Nat → Int32 → (Nat → Nat → Int32) → Option (Int32 × (Nat → Nat → Int32)) := fun a0 a1 I =>
  f_X12_stepOf_4 N R N a0 a1 (0 : Int32) (1 : Int32) I
set_option maxHeartbeats 4000000 in
set_option maxRecDepth 100000 in
theorem w_X12_stepOf_4 {l : Launch} (N : Nat) (R : Nat → Nat → Nat) : ∀ (n : Nat) (a0 : Nat) (a1 : Int32) (a2 : Int32) (a3 : Int32) (I : (Nat → Nat → Int32)) (y : (Int32 × (Nat → Nat → Int32))), f_X12_stepOf_4 N R n a0 a1 a2 a3 I = some y → sm_W l 1 mX12_stepOf 4 [(0, .inr (.inl a0)), (1, .inl a1), (2, .inl a2), (3, .inl a3)] [] (I, R) (.inl (some (.inl y.1))) (y.2, R) := by
  intro n
  induction n with
  | zero => intro a0 a1 a2 a3 I y h; cases h
  | succ n ih =>
    intro a0 a1 a2 a3 I y h
    rw [f_X12_stepOf_4] at h
    refine sm_iload_n (q := 5) dX12_stepOf_4 rfl rfl 3 rfl ?_
    refine sm_aload_n (q := 6) dX12_stepOf_5 rfl rfl 0 rfl ?_
    obtain ⟨hc1, h⟩ := sm_gd_e h
    refine sm_getR (r := R a0 6) (q := 9) dX12_stepOf_6 rfl fk_X12_47 hc1 (by decide) (by decide) rfl ?_
    refine sm_iload_n (q := 10) dX12_stepOf_9 rfl rfl 1 rfl ?_
    obtain ⟨hc2, h⟩ := sm_gd_e h
    refine sm_iald (n := (sm_kd (R a0 6)).2) (q := 11) dX12_stepOf_10 rfl (Prod.ext hc2.1 rfl) hc2.2 ?_
    rcases sm_if_e h with ⟨hb3, h⟩ | ⟨hb3, h⟩
    · refine sm_icmp_ge (tgt := 40) (q := 14) dX12_stepOf_11 (by decide) rfl (fun _ => ?_) (fun hn => absurd hb3 hn)
      refine sm_iload_n (q := 41) dX12_stepOf_40 rfl rfl 2 rfl ?_
      obtain rfl := Option.some.inj h
      exact sm_iret dX12_stepOf_41 rfl
    · refine sm_icmp_ge (tgt := 40) (q := 14) dX12_stepOf_11 (by decide) rfl (fun ht => absurd ht hb3) (fun _ => ?_)
      refine sm_iload_n (q := 15) dX12_stepOf_14 rfl rfl 2 rfl ?_
      refine sm_aload_n (q := 16) dX12_stepOf_15 rfl rfl 0 rfl ?_
      refine sm_iload_n (q := 17) dX12_stepOf_16 rfl rfl 1 rfl ?_
      refine sm_iload_n (q := 18) dX12_stepOf_17 rfl rfl 3 rfl ?_
      obtain ⟨p4, hc_p4, h⟩ := sm_bd_e h
      refine sm_callVi (q := 21) (As := [.inl a1, .inl a3]) (S := [.inl a2]) (e_X12_hardOf hc_p4) mv_X12_316 hc1 rfl (by decide) (Nat.le_of_ble_eq_true rfl) dX12_stepOf_18 rfl ?_
      refine sm_aload_n (q := 22) dX12_stepOf_21 rfl rfl 0 rfl ?_
      refine sm_iload_n (q := 23) dX12_stepOf_22 rfl rfl 1 rfl ?_
      refine sm_iload_n (q := 24) dX12_stepOf_23 rfl rfl 3 rfl ?_
      refine sm_iconst (v := 1) (q := 25) dX12_stepOf_24 rfl (by decide) ?_
      refine sm_isub (q := 26) dX12_stepOf_25 rfl ?_
      obtain ⟨p5, hc_p5, h⟩ := sm_bd_e h
      refine sm_callVi (q := 29) (As := [.inl a1, .inl (a3 - (1 : Int32))]) (S := [.inl p4.1, .inl a2]) (e_X12_hardOf hc_p5) mv_X12_316 hc1 rfl (by decide) (Nat.le_of_ble_eq_true rfl) dX12_stepOf_26 rfl ?_
      refine sm_isub (q := 30) dX12_stepOf_29 rfl ?_
      refine sm_mmx (q := 33) dX12_stepOf_30 rfl mm_X12_328 (Nat.le_of_ble_eq_true rfl) ?_
      refine sm_istore_n (L' := [(2, .inl (sm_mx a2 (p4.1 - p5.1))), (0, .inr (.inl a0)), (1, .inl a1), (3, .inl a3)]) (q := 34) dX12_stepOf_33 rfl rfl (by decide) rfl ?_
      refine sm_iinc (v := (a3 + 1)) (L' := [(3, .inl (a3 + 1)), (2, .inl (sm_mx a2 (p4.1 - p5.1))), (0, .inr (.inl a0)), (1, .inl a1)]) (q := 37) dX12_stepOf_34 rfl 3 rfl rfl (by decide) rfl ?_
      refine sm_goto (q := 4) dX12_stepOf_37 (by decide) ?_
      refine sm_pick [2, 3, 1, 0] rfl ?_
      exact ih _ _ _ _ _ _ h
set_option maxHeartbeats 4000000 in
set_option maxRecDepth 100000 in
theorem w_X12_stepOf {l : Launch} (N : Nat) (R : Nat → Nat → Nat) : ∀ (a0 : Nat) (a1 : Int32) (I : (Nat → Nat → Int32)) (y : (Int32 × (Nat → Nat → Int32))), f_X12_stepOf N R a0 a1 I = some y → sm_W l 1 mX12_stepOf 0 [(0, .inr (.inl a0)), (1, .inl a1)] [] (I, R) (.inl (some (.inl y.1))) (y.2, R) := by
  intro a0 a1 I y h
  unfold f_X12_stepOf at h
  refine sm_iconst (v := 0) (q := 1) dX12_stepOf_0 rfl (by decide) ?_
  refine sm_istore_n (L' := [(2, .inl (0 : Int32)), (0, .inr (.inl a0)), (1, .inl a1)]) (q := 2) dX12_stepOf_1 rfl rfl (by decide) rfl ?_
  refine sm_iconst (v := 1) (q := 3) dX12_stepOf_2 rfl (by decide) ?_
  refine sm_istore_n (L' := [(3, .inl (1 : Int32)), (2, .inl (0 : Int32)), (0, .inr (.inl a0)), (1, .inl a1)]) (q := 4) dX12_stepOf_3 rfl rfl (by decide) rfl ?_
  refine sm_pick [2, 3, 1, 0] rfl ?_
  exact w_X12_stepOf_4 N R N _ _ _ _ _ _ h
theorem e_X12_stepOf {l : Launch} {N : Nat} {R : Nat → Nat → Nat} {a0 : Nat} {a1 : Int32} {I : (Nat → Nat → Int32)} {y : (Int32 × (Nat → Nat → Int32))} (h : f_X12_stepOf N R a0 a1 I = some y) : sm_E l 1 mX12_stepOf [.inr (.inl a0), .inl a1] (I, R) (.inl (some (.inl y.1))) (y.2, R) :=
  sm_meth (by decide) (Nat.le_of_ble_eq_true rfl) (w_X12_stepOf N R a0 a1 I y h)
def f_X12_piece (N : Nat) (R : Nat → Nat → Nat) : Nat → Int32 → Int32 → (Nat → Nat → Int32) → Option (Int32 × (Nat → Nat → Int32)) := fun a0 a1 a2 I =>
  sm_gd (sm_kd a0 = (12, 59)) <|
  sm_lt (sm_up I a0 (sm_up (I a0) 3 (0 : Int32))) fun I2 =>
  (f_X12_isPiece N R a0 a1 I2).bind fun p3 =>
  if p3.1 = 0 then (
    (f_X12_fail N R a0 (1 : Int32) p3.2).bind fun p5 =>
    some (p5.1, p5.2))
  else (
    (f_X12_isIn N R (Int32.toInt64 a2) (0 : Int64) (2 : Int64) p3.2).bind fun p6 =>
    if p6.1 = 0 then (
      (f_X12_fail N R a0 (1 : Int32) p6.2).bind fun p8 =>
      some (p8.1, p8.2))
    else (
      if a2 = 0 then (
        sm_gd ((sm_kd (R a0 6)).1 = 13 ∧ ¬ (a1 < 0 ∨ (sm_kd (R a0 6)).2 ≤ (a1).toNatClampNeg)) <|
        some ((p6.2 (R a0 6) (a1).toNatClampNeg), p6.2))
      else (
        if a2 = (1 : Int32) then (
          sm_gd ((sm_kd (R a0 5)).1 = 13 ∧ ¬ (a1 < 0 ∨ (sm_kd (R a0 5)).2 ≤ (a1).toNatClampNeg)) <|
          some ((p6.2 (R a0 5) (a1).toNatClampNeg), p6.2))
        else (
          (f_X12_stepOf N R a0 a1 p6.2).bind fun p13 =>
          some (p13.1, p13.2)))))
set_option maxHeartbeats 4000000 in
set_option maxRecDepth 100000 in
theorem w_X12_piece {l : Launch} (N : Nat) (R : Nat → Nat → Nat) : ∀ (a0 : Nat) (a1 : Int32) (a2 : Int32) (I : (Nat → Nat → Int32)) (y : (Int32 × (Nat → Nat → Int32))), f_X12_piece N R a0 a1 a2 I = some y → sm_W l 2 mX12_piece 0 [(0, .inr (.inl a0)), (1, .inl a1), (2, .inl a2)] [] (I, R) (.inl (some (.inl y.1))) (y.2, R) := by
  intro a0 a1 a2 I y h
  unfold f_X12_piece at h
  refine sm_aload_n (q := 1) dX12_piece_0 rfl rfl 0 rfl ?_
  refine sm_iconst (v := 0) (q := 2) dX12_piece_1 rfl (by decide) ?_
  obtain ⟨hc1, h⟩ := sm_gd_e h
  obtain ⟨I2, hI2, h⟩ := sm_lt_e h
  refine sm_putI (q := 5) dX12_piece_2 rfl fk_X12_152 hc1 (by decide) (by decide) ?_
  refine sm_memI hI2 ?_
  refine sm_aload_n (q := 6) dX12_piece_5 rfl rfl 0 rfl ?_
  refine sm_iload_n (q := 7) dX12_piece_6 rfl rfl 1 rfl ?_
  obtain ⟨p3, hc_p3, h⟩ := sm_bd_e h
  refine sm_callVi (q := 10) (As := [.inl a1]) (S := []) (e_X12_isPiece hc_p3) mv_X12_367 hc1 rfl (by decide) (Nat.le_of_ble_eq_true rfl) dX12_piece_7 rfl ?_
  rcases sm_if_e h with ⟨hb4, h⟩ | ⟨hb4, h⟩
  · refine sm_if_eq (tgt := 25) (q := 13) dX12_piece_10 (by decide) rfl (fun _ => ?_) (fun hn => absurd hb4 hn)
    refine sm_aload_n (q := 26) dX12_piece_25 rfl rfl 0 rfl ?_
    refine sm_iconst (v := 1) (q := 27) dX12_piece_26 rfl (by decide) ?_
    obtain ⟨p5, hc_p5, h⟩ := sm_bd_e h
    refine sm_callVi (q := 30) (As := [.inl (1 : Int32)]) (S := []) (e_X12_fail hc_p5) mv_X12_283 hc1 rfl (by decide) (Nat.le_of_ble_eq_true rfl) dX12_piece_27 rfl ?_
    obtain rfl := Option.some.inj h
    exact sm_iret dX12_piece_30 rfl
  · refine sm_if_eq (tgt := 25) (q := 13) dX12_piece_10 (by decide) rfl (fun ht => absurd ht hb4) (fun _ => ?_)
    refine sm_iload_n (q := 14) dX12_piece_13 rfl rfl 2 rfl ?_
    refine sm_i2l (v := (Int32.toInt64 a2)) (q := 15) dX12_piece_14 rfl rfl ?_
    refine sm_lconst (v := 0) (q := 16) dX12_piece_15 rfl (by decide) ?_
    refine sm_ldc2 (q := 19) dX12_piece_16 rfl co_X12_370 ?_
    obtain ⟨p6, hc_p6, h⟩ := sm_bd_e h
    refine sm_callSi (q := 22) (As := [.inr (.inr (Int32.toInt64 a2)), .inr (.inr (0 : Int64)), .inr (.inr (2 : Int64))]) (S := []) (e_X12_isIn hc_p6) ms_X12_155 rfl (by decide) (Nat.le_of_ble_eq_true rfl) dX12_piece_19 rfl ?_
    rcases sm_if_e h with ⟨hb7, h⟩ | ⟨hb7, h⟩
    · refine sm_if_ne (tgt := 31) (q := 25) dX12_piece_22 (by decide) rfl (fun hn => absurd hb7 hn) (fun _ => ?_)
      refine sm_aload_n (q := 26) dX12_piece_25 rfl rfl 0 rfl ?_
      refine sm_iconst (v := 1) (q := 27) dX12_piece_26 rfl (by decide) ?_
      obtain ⟨p8, hc_p8, h⟩ := sm_bd_e h
      refine sm_callVi (q := 30) (As := [.inl (1 : Int32)]) (S := []) (e_X12_fail hc_p8) mv_X12_283 hc1 rfl (by decide) (Nat.le_of_ble_eq_true rfl) dX12_piece_27 rfl ?_
      obtain rfl := Option.some.inj h
      exact sm_iret dX12_piece_30 rfl
    · refine sm_if_ne (tgt := 31) (q := 25) dX12_piece_22 (by decide) rfl (fun _ => ?_) (fun he => absurd he hb7)
      refine sm_iload_n (q := 32) dX12_piece_31 rfl rfl 2 rfl ?_
      rcases sm_if_e h with ⟨hb9, h⟩ | ⟨hb9, h⟩
      · refine sm_if_ne (tgt := 44) (q := 35) dX12_piece_32 (by decide) rfl (fun hn => absurd hb9 hn) (fun _ => ?_)
        refine sm_aload_n (q := 36) dX12_piece_35 rfl rfl 0 rfl ?_
        refine sm_getR (r := R a0 6) (q := 39) dX12_piece_36 rfl fk_X12_47 hc1 (by decide) (by decide) rfl ?_
        refine sm_iload_n (q := 40) dX12_piece_39 rfl rfl 1 rfl ?_
        obtain ⟨hc10, h⟩ := sm_gd_e h
        refine sm_iald (n := (sm_kd (R a0 6)).2) (q := 41) dX12_piece_40 rfl (Prod.ext hc10.1 rfl) hc10.2 ?_
        refine sm_goto (q := 63) dX12_piece_41 (by decide) ?_
        obtain rfl := Option.some.inj h
        exact sm_iret dX12_piece_63 rfl
      · refine sm_if_ne (tgt := 44) (q := 35) dX12_piece_32 (by decide) rfl (fun _ => ?_) (fun he => absurd he hb9)
        refine sm_iload_n (q := 45) dX12_piece_44 rfl rfl 2 rfl ?_
        refine sm_iconst (v := 1) (q := 46) dX12_piece_45 rfl (by decide) ?_
        rcases sm_if_e h with ⟨hb11, h⟩ | ⟨hb11, h⟩
        · refine sm_icmp_ne (tgt := 58) (q := 49) dX12_piece_46 (by decide) rfl (fun hn => absurd hb11 hn) (fun _ => ?_)
          refine sm_aload_n (q := 50) dX12_piece_49 rfl rfl 0 rfl ?_
          refine sm_getR (r := R a0 5) (q := 53) dX12_piece_50 rfl fk_X12_45 hc1 (by decide) (by decide) rfl ?_
          refine sm_iload_n (q := 54) dX12_piece_53 rfl rfl 1 rfl ?_
          obtain ⟨hc12, h⟩ := sm_gd_e h
          refine sm_iald (n := (sm_kd (R a0 5)).2) (q := 55) dX12_piece_54 rfl (Prod.ext hc12.1 rfl) hc12.2 ?_
          refine sm_goto (q := 63) dX12_piece_55 (by decide) ?_
          obtain rfl := Option.some.inj h
          exact sm_iret dX12_piece_63 rfl
        · refine sm_icmp_ne (tgt := 58) (q := 49) dX12_piece_46 (by decide) rfl (fun _ => ?_) (fun he => absurd he hb11)
          refine sm_aload_n (q := 59) dX12_piece_58 rfl rfl 0 rfl ?_
          refine sm_iload_n (q := 60) dX12_piece_59 rfl rfl 1 rfl ?_
          obtain ⟨p13, hc_p13, h⟩ := sm_bd_e h
          refine sm_callVi (q := 63) (As := [.inl a1]) (S := []) (e_X12_stepOf hc_p13) mv_X12_372 hc1 rfl (by decide) (Nat.le_of_ble_eq_true rfl) dX12_piece_60 rfl ?_
          obtain rfl := Option.some.inj h
          exact sm_iret dX12_piece_63 rfl
theorem e_X12_piece {l : Launch} {N : Nat} {R : Nat → Nat → Nat} {a0 : Nat} {a1 : Int32} {a2 : Int32} {I : (Nat → Nat → Int32)} {y : (Int32 × (Nat → Nat → Int32))} (h : f_X12_piece N R a0 a1 a2 I = some y) : sm_E l 2 mX12_piece [.inr (.inl a0), .inl a1, .inl a2] (I, R) (.inl (some (.inl y.1))) (y.2, R) :=
  sm_meth (by decide) (Nat.le_of_ble_eq_true rfl) (w_X12_piece N R a0 a1 a2 I y h)
def f_X12_bar (N : Nat) (R : Nat → Nat → Nat) : Nat → Int32 → Int32 → (Nat → Nat → Int32) → Option (Int32 × (Nat → Nat → Int32)) := fun a0 a1 a2 I =>
  sm_gd (sm_kd a0 = (12, 59)) <|
  sm_lt (sm_up I a0 (sm_up (I a0) 3 (0 : Int32))) fun I2 =>
  (f_X12_isPiece N R a0 a1 I2).bind fun p3 =>
  if p3.1 = 0 then (
    (f_X12_fail N R a0 (1 : Int32) p3.2).bind fun p5 =>
    some (p5.1, p5.2))
  else (
    sm_gd ((sm_kd (R a0 6)).1 = 13 ∧ ¬ (a1 < 0 ∨ (sm_kd (R a0 6)).2 ≤ (a1).toNatClampNeg)) <|
    (f_X12_isIn N R (Int32.toInt64 a2) (0 : Int64) (Int32.toInt64 ((p3.2 (R a0 6) (a1).toNatClampNeg) - (1 : Int32))) p3.2).bind fun p7 =>
    if p7.1 = 0 then (
      (f_X12_fail N R a0 (1 : Int32) p7.2).bind fun p9 =>
      some (p9.1, p9.2))
    else (
      (f_X12_hardOf N R a0 a1 a2 p7.2).bind fun p10 =>
      some (p10.1, p10.2)))
set_option maxHeartbeats 4000000 in
set_option maxRecDepth 100000 in
theorem w_X12_bar {l : Launch} (N : Nat) (R : Nat → Nat → Nat) : ∀ (a0 : Nat) (a1 : Int32) (a2 : Int32) (I : (Nat → Nat → Int32)) (y : (Int32 × (Nat → Nat → Int32))), f_X12_bar N R a0 a1 a2 I = some y → sm_W l 2 mX12_bar 0 [(0, .inr (.inl a0)), (1, .inl a1), (2, .inl a2)] [] (I, R) (.inl (some (.inl y.1))) (y.2, R) := by
  intro a0 a1 a2 I y h
  unfold f_X12_bar at h
  refine sm_aload_n (q := 1) dX12_bar_0 rfl rfl 0 rfl ?_
  refine sm_iconst (v := 0) (q := 2) dX12_bar_1 rfl (by decide) ?_
  obtain ⟨hc1, h⟩ := sm_gd_e h
  obtain ⟨I2, hI2, h⟩ := sm_lt_e h
  refine sm_putI (q := 5) dX12_bar_2 rfl fk_X12_152 hc1 (by decide) (by decide) ?_
  refine sm_memI hI2 ?_
  refine sm_aload_n (q := 6) dX12_bar_5 rfl rfl 0 rfl ?_
  refine sm_iload_n (q := 7) dX12_bar_6 rfl rfl 1 rfl ?_
  obtain ⟨p3, hc_p3, h⟩ := sm_bd_e h
  refine sm_callVi (q := 10) (As := [.inl a1]) (S := []) (e_X12_isPiece hc_p3) mv_X12_367 hc1 rfl (by decide) (Nat.le_of_ble_eq_true rfl) dX12_bar_7 rfl ?_
  rcases sm_if_e h with ⟨hb4, h⟩ | ⟨hb4, h⟩
  · refine sm_if_eq (tgt := 40) (q := 13) dX12_bar_10 (by decide) rfl (fun _ => ?_) (fun hn => absurd hb4 hn)
    refine sm_aload_n (q := 41) dX12_bar_40 rfl rfl 0 rfl ?_
    refine sm_iconst (v := 1) (q := 42) dX12_bar_41 rfl (by decide) ?_
    obtain ⟨p5, hc_p5, h⟩ := sm_bd_e h
    refine sm_callVi (q := 45) (As := [.inl (1 : Int32)]) (S := []) (e_X12_fail hc_p5) mv_X12_283 hc1 rfl (by decide) (Nat.le_of_ble_eq_true rfl) dX12_bar_42 rfl ?_
    obtain rfl := Option.some.inj h
    exact sm_iret dX12_bar_45 rfl
  · refine sm_if_eq (tgt := 40) (q := 13) dX12_bar_10 (by decide) rfl (fun ht => absurd ht hb4) (fun _ => ?_)
    refine sm_iload_n (q := 14) dX12_bar_13 rfl rfl 2 rfl ?_
    refine sm_i2l (v := (Int32.toInt64 a2)) (q := 15) dX12_bar_14 rfl rfl ?_
    refine sm_lconst (v := 0) (q := 16) dX12_bar_15 rfl (by decide) ?_
    refine sm_aload_n (q := 17) dX12_bar_16 rfl rfl 0 rfl ?_
    refine sm_getR (r := R a0 6) (q := 20) dX12_bar_17 rfl fk_X12_47 hc1 (by decide) (by decide) rfl ?_
    refine sm_iload_n (q := 21) dX12_bar_20 rfl rfl 1 rfl ?_
    obtain ⟨hc6, h⟩ := sm_gd_e h
    refine sm_iald (n := (sm_kd (R a0 6)).2) (q := 22) dX12_bar_21 rfl (Prod.ext hc6.1 rfl) hc6.2 ?_
    refine sm_iconst (v := 1) (q := 23) dX12_bar_22 rfl (by decide) ?_
    refine sm_isub (q := 24) dX12_bar_23 rfl ?_
    refine sm_i2l (v := (Int32.toInt64 ((p3.2 (R a0 6) (a1).toNatClampNeg) - (1 : Int32)))) (q := 25) dX12_bar_24 rfl rfl ?_
    obtain ⟨p7, hc_p7, h⟩ := sm_bd_e h
    refine sm_callSi (q := 28) (As := [.inr (.inr (Int32.toInt64 a2)), .inr (.inr (0 : Int64)), .inr (.inr (Int32.toInt64 ((p3.2 (R a0 6) (a1).toNatClampNeg) - (1 : Int32))))]) (S := []) (e_X12_isIn hc_p7) ms_X12_155 rfl (by decide) (Nat.le_of_ble_eq_true rfl) dX12_bar_25 rfl ?_
    rcases sm_if_e h with ⟨hb8, h⟩ | ⟨hb8, h⟩
    · refine sm_if_eq (tgt := 40) (q := 31) dX12_bar_28 (by decide) rfl (fun _ => ?_) (fun hn => absurd hb8 hn)
      refine sm_aload_n (q := 41) dX12_bar_40 rfl rfl 0 rfl ?_
      refine sm_iconst (v := 1) (q := 42) dX12_bar_41 rfl (by decide) ?_
      obtain ⟨p9, hc_p9, h⟩ := sm_bd_e h
      refine sm_callVi (q := 45) (As := [.inl (1 : Int32)]) (S := []) (e_X12_fail hc_p9) mv_X12_283 hc1 rfl (by decide) (Nat.le_of_ble_eq_true rfl) dX12_bar_42 rfl ?_
      obtain rfl := Option.some.inj h
      exact sm_iret dX12_bar_45 rfl
    · refine sm_if_eq (tgt := 40) (q := 31) dX12_bar_28 (by decide) rfl (fun ht => absurd ht hb8) (fun _ => ?_)
      refine sm_aload_n (q := 32) dX12_bar_31 rfl rfl 0 rfl ?_
      refine sm_iload_n (q := 33) dX12_bar_32 rfl rfl 1 rfl ?_
      refine sm_iload_n (q := 34) dX12_bar_33 rfl rfl 2 rfl ?_
      obtain ⟨p10, hc_p10, h⟩ := sm_bd_e h
      refine sm_callVi (q := 37) (As := [.inl a1, .inl a2]) (S := []) (e_X12_hardOf hc_p10) mv_X12_316 hc1 rfl (by decide) (Nat.le_of_ble_eq_true rfl) dX12_bar_34 rfl ?_
      refine sm_goto (q := 45) dX12_bar_37 (by decide) ?_
      obtain rfl := Option.some.inj h
      exact sm_iret dX12_bar_45 rfl
theorem e_X12_bar {l : Launch} {N : Nat} {R : Nat → Nat → Nat} {a0 : Nat} {a1 : Int32} {a2 : Int32} {I : (Nat → Nat → Int32)} {y : (Int32 × (Nat → Nat → Int32))} (h : f_X12_bar N R a0 a1 a2 I = some y) : sm_E l 2 mX12_bar [.inr (.inl a0), .inl a1, .inl a2] (I, R) (.inl (some (.inl y.1))) (y.2, R) :=
  sm_meth (by decide) (Nat.le_of_ble_eq_true rfl) (w_X12_bar N R a0 a1 a2 I y h)
def f_X12_pupil (N : Nat) (R : Nat → Nat → Nat) : Nat → Int32 → Int32 → (Nat → Nat → Int32) → Option (Int32 × (Nat → Nat → Int32)) := fun a0 a1 a2 I =>
  sm_gd (sm_kd a0 = (12, 59)) <|
  sm_lt (sm_up I a0 (sm_up (I a0) 3 (0 : Int32))) fun I2 =>
  (f_X12_isPupil N R a0 a1 I2).bind fun p3 =>
  if p3.1 = 0 then (
    (f_X12_fail N R a0 (1 : Int32) p3.2).bind fun p5 =>
    some (p5.1, p5.2))
  else (
    if a2 = 0 then (
      sm_gd ((sm_kd (R a0 25)).1 = 13 ∧ ¬ (a1 < 0 ∨ (sm_kd (R a0 25)).2 ≤ (a1).toNatClampNeg)) <|
      some ((p3.2 (R a0 25) (a1).toNatClampNeg), p3.2))
    else (
      if a2 = 1 then (
        sm_gd ((sm_kd (R a0 26)).1 = 13 ∧ ¬ (a1 < 0 ∨ (sm_kd (R a0 26)).2 ≤ (a1).toNatClampNeg)) <|
        some ((p3.2 (R a0 26) (a1).toNatClampNeg), p3.2))
      else (
        if a2 = 2 then (
          sm_gd ((sm_kd (R a0 27)).1 = 13 ∧ ¬ (a1 < 0 ∨ (sm_kd (R a0 27)).2 ≤ (a1).toNatClampNeg)) <|
          some ((p3.2 (R a0 27) (a1).toNatClampNeg), p3.2))
        else (
          if a2 = 3 then (
            sm_gd ((sm_kd (R a0 28)).1 = 13 ∧ ¬ (a1 < 0 ∨ (sm_kd (R a0 28)).2 ≤ (a1).toNatClampNeg)) <|
            some ((p3.2 (R a0 28) (a1).toNatClampNeg), p3.2))
          else (
            if a2 = 4 then (
              sm_gd ((sm_kd (R a0 29)).1 = 13 ∧ ¬ (a1 < 0 ∨ (sm_kd (R a0 29)).2 ≤ (a1).toNatClampNeg)) <|
              some ((p3.2 (R a0 29) (a1).toNatClampNeg), p3.2))
            else (
              if a2 = 5 then (
                sm_gd ((sm_kd (R a0 8)).1 = 13 ∧ ¬ (a1 < 0 ∨ (sm_kd (R a0 8)).2 ≤ (a1).toNatClampNeg)) <|
                some ((p3.2 (R a0 8) (a1).toNatClampNeg), p3.2))
              else (
                if a2 = 6 then (
                  (f_X12_gainOf N R a0 a1 p3.2).bind fun p19 =>
                  some (p19.1, p19.2))
                else (
                  (f_X12_fail N R a0 (1 : Int32) p3.2).bind fun p20 =>
                  some (p20.1, p20.2)))))))))
set_option maxHeartbeats 4000000 in
set_option maxRecDepth 100000 in
theorem w_X12_pupil {l : Launch} (N : Nat) (R : Nat → Nat → Nat) : ∀ (a0 : Nat) (a1 : Int32) (a2 : Int32) (I : (Nat → Nat → Int32)) (y : (Int32 × (Nat → Nat → Int32))), f_X12_pupil N R a0 a1 a2 I = some y → sm_W l 3 mX12_pupil 0 [(0, .inr (.inl a0)), (1, .inl a1), (2, .inl a2)] [] (I, R) (.inl (some (.inl y.1))) (y.2, R) := by
  intro a0 a1 a2 I y h
  unfold f_X12_pupil at h
  refine sm_aload_n (q := 1) dX12_pupil_0 rfl rfl 0 rfl ?_
  refine sm_iconst (v := 0) (q := 2) dX12_pupil_1 rfl (by decide) ?_
  obtain ⟨hc1, h⟩ := sm_gd_e h
  obtain ⟨I2, hI2, h⟩ := sm_lt_e h
  refine sm_putI (q := 5) dX12_pupil_2 rfl fk_X12_152 hc1 (by decide) (by decide) ?_
  refine sm_memI hI2 ?_
  refine sm_aload_n (q := 6) dX12_pupil_5 rfl rfl 0 rfl ?_
  refine sm_iload_n (q := 7) dX12_pupil_6 rfl rfl 1 rfl ?_
  obtain ⟨p3, hc_p3, h⟩ := sm_bd_e h
  refine sm_callVi (q := 10) (As := [.inl a1]) (S := []) (e_X12_isPupil hc_p3) mv_X12_375 hc1 rfl (by decide) (Nat.le_of_ble_eq_true rfl) dX12_pupil_7 rfl ?_
  rcases sm_if_e h with ⟨hb4, h⟩ | ⟨hb4, h⟩
  · refine sm_if_ne (tgt := 19) (q := 13) dX12_pupil_10 (by decide) rfl (fun hn => absurd hb4 hn) (fun _ => ?_)
    refine sm_aload_n (q := 14) dX12_pupil_13 rfl rfl 0 rfl ?_
    refine sm_iconst (v := 1) (q := 15) dX12_pupil_14 rfl (by decide) ?_
    obtain ⟨p5, hc_p5, h⟩ := sm_bd_e h
    refine sm_callVi (q := 18) (As := [.inl (1 : Int32)]) (S := []) (e_X12_fail hc_p5) mv_X12_283 hc1 rfl (by decide) (Nat.le_of_ble_eq_true rfl) dX12_pupil_15 rfl ?_
    obtain rfl := Option.some.inj h
    exact sm_iret dX12_pupil_18 rfl
  · refine sm_if_ne (tgt := 19) (q := 13) dX12_pupil_10 (by decide) rfl (fun _ => ?_) (fun he => absurd he hb4)
    refine sm_iload_n (q := 20) dX12_pupil_19 rfl rfl 2 rfl ?_
    rcases sm_if_e h with ⟨hb6, h⟩ | ⟨hb6, h⟩
    · refine sm_tableIn (q := 64) (off := 44) dX12_pupil_20 (by rw [hb6]; decide) (by rw [hb6]; decide) (by rw [hb6]; decide) (by decide) ?_
      refine sm_aload_n (q := 65) dX12_pupil_64 rfl rfl 0 rfl ?_
      refine sm_getR (r := R a0 25) (q := 68) dX12_pupil_65 rfl fk_X12_76 hc1 (by decide) (by decide) rfl ?_
      refine sm_iload_n (q := 69) dX12_pupil_68 rfl rfl 1 rfl ?_
      obtain ⟨hc7, h⟩ := sm_gd_e h
      refine sm_iald (n := (sm_kd (R a0 25)).2) (q := 70) dX12_pupil_69 rfl (Prod.ext hc7.1 rfl) hc7.2 ?_
      obtain rfl := Option.some.inj h
      exact sm_iret dX12_pupil_70 rfl
    · rcases sm_if_e h with ⟨hb8, h⟩ | ⟨hb8, h⟩
      · refine sm_tableIn (q := 71) (off := 51) dX12_pupil_20 (by rw [hb8]; decide) (by rw [hb8]; decide) (by rw [hb8]; decide) (by decide) ?_
        refine sm_aload_n (q := 72) dX12_pupil_71 rfl rfl 0 rfl ?_
        refine sm_getR (r := R a0 26) (q := 75) dX12_pupil_72 rfl fk_X12_79 hc1 (by decide) (by decide) rfl ?_
        refine sm_iload_n (q := 76) dX12_pupil_75 rfl rfl 1 rfl ?_
        obtain ⟨hc9, h⟩ := sm_gd_e h
        refine sm_iald (n := (sm_kd (R a0 26)).2) (q := 77) dX12_pupil_76 rfl (Prod.ext hc9.1 rfl) hc9.2 ?_
        obtain rfl := Option.some.inj h
        exact sm_iret dX12_pupil_77 rfl
      · rcases sm_if_e h with ⟨hb10, h⟩ | ⟨hb10, h⟩
        · refine sm_tableIn (q := 78) (off := 58) dX12_pupil_20 (by rw [hb10]; decide) (by rw [hb10]; decide) (by rw [hb10]; decide) (by decide) ?_
          refine sm_aload_n (q := 79) dX12_pupil_78 rfl rfl 0 rfl ?_
          refine sm_getR (r := R a0 27) (q := 82) dX12_pupil_79 rfl fk_X12_82 hc1 (by decide) (by decide) rfl ?_
          refine sm_iload_n (q := 83) dX12_pupil_82 rfl rfl 1 rfl ?_
          obtain ⟨hc11, h⟩ := sm_gd_e h
          refine sm_iald (n := (sm_kd (R a0 27)).2) (q := 84) dX12_pupil_83 rfl (Prod.ext hc11.1 rfl) hc11.2 ?_
          obtain rfl := Option.some.inj h
          exact sm_iret dX12_pupil_84 rfl
        · rcases sm_if_e h with ⟨hb12, h⟩ | ⟨hb12, h⟩
          · refine sm_tableIn (q := 85) (off := 65) dX12_pupil_20 (by rw [hb12]; decide) (by rw [hb12]; decide) (by rw [hb12]; decide) (by decide) ?_
            refine sm_aload_n (q := 86) dX12_pupil_85 rfl rfl 0 rfl ?_
            refine sm_getR (r := R a0 28) (q := 89) dX12_pupil_86 rfl fk_X12_85 hc1 (by decide) (by decide) rfl ?_
            refine sm_iload_n (q := 90) dX12_pupil_89 rfl rfl 1 rfl ?_
            obtain ⟨hc13, h⟩ := sm_gd_e h
            refine sm_iald (n := (sm_kd (R a0 28)).2) (q := 91) dX12_pupil_90 rfl (Prod.ext hc13.1 rfl) hc13.2 ?_
            obtain rfl := Option.some.inj h
            exact sm_iret dX12_pupil_91 rfl
          · rcases sm_if_e h with ⟨hb14, h⟩ | ⟨hb14, h⟩
            · refine sm_tableIn (q := 92) (off := 72) dX12_pupil_20 (by rw [hb14]; decide) (by rw [hb14]; decide) (by rw [hb14]; decide) (by decide) ?_
              refine sm_aload_n (q := 93) dX12_pupil_92 rfl rfl 0 rfl ?_
              refine sm_getR (r := R a0 29) (q := 96) dX12_pupil_93 rfl fk_X12_87 hc1 (by decide) (by decide) rfl ?_
              refine sm_iload_n (q := 97) dX12_pupil_96 rfl rfl 1 rfl ?_
              obtain ⟨hc15, h⟩ := sm_gd_e h
              refine sm_iald (n := (sm_kd (R a0 29)).2) (q := 98) dX12_pupil_97 rfl (Prod.ext hc15.1 rfl) hc15.2 ?_
              obtain rfl := Option.some.inj h
              exact sm_iret dX12_pupil_98 rfl
            · rcases sm_if_e h with ⟨hb16, h⟩ | ⟨hb16, h⟩
              · refine sm_tableIn (q := 99) (off := 79) dX12_pupil_20 (by rw [hb16]; decide) (by rw [hb16]; decide) (by rw [hb16]; decide) (by decide) ?_
                refine sm_aload_n (q := 100) dX12_pupil_99 rfl rfl 0 rfl ?_
                refine sm_getR (r := R a0 8) (q := 103) dX12_pupil_100 rfl fk_X12_52 hc1 (by decide) (by decide) rfl ?_
                refine sm_iload_n (q := 104) dX12_pupil_103 rfl rfl 1 rfl ?_
                obtain ⟨hc17, h⟩ := sm_gd_e h
                refine sm_iald (n := (sm_kd (R a0 8)).2) (q := 105) dX12_pupil_104 rfl (Prod.ext hc17.1 rfl) hc17.2 ?_
                obtain rfl := Option.some.inj h
                exact sm_iret dX12_pupil_105 rfl
              · rcases sm_if_e h with ⟨hb18, h⟩ | ⟨hb18, h⟩
                · refine sm_tableIn (q := 106) (off := 86) dX12_pupil_20 (by rw [hb18]; decide) (by rw [hb18]; decide) (by rw [hb18]; decide) (by decide) ?_
                  refine sm_aload_n (q := 107) dX12_pupil_106 rfl rfl 0 rfl ?_
                  refine sm_iload_n (q := 108) dX12_pupil_107 rfl rfl 1 rfl ?_
                  obtain ⟨p19, hc_p19, h⟩ := sm_bd_e h
                  refine sm_callVi (q := 111) (As := [.inl a1]) (S := []) (e_X12_gainOf hc_p19) mv_X12_331 hc1 rfl (by decide) (Nat.le_of_ble_eq_true rfl) dX12_pupil_108 rfl ?_
                  obtain rfl := Option.some.inj h
                  exact sm_iret dX12_pupil_111 rfl
                · refine sm_tableOut (q := 112) dX12_pupil_20 (sm_sw (fun v h1 h2 he => (fun e => e.elim (fun e => hb6 (he.trans ((congrArg Int32.ofInt e).trans (by decide)))) (fun e => e.elim (fun e => hb8 (he.trans ((congrArg Int32.ofInt e).trans (by decide)))) (fun e => e.elim (fun e => hb10 (he.trans ((congrArg Int32.ofInt e).trans (by decide)))) (fun e => e.elim (fun e => hb12 (he.trans ((congrArg Int32.ofInt e).trans (by decide)))) (fun e => e.elim (fun e => hb14 (he.trans ((congrArg Int32.ofInt e).trans (by decide)))) (fun e => e.elim (fun e => hb16 (he.trans ((congrArg Int32.ofInt e).trans (by decide)))) (fun e => hb18 (he.trans ((congrArg Int32.ofInt e).trans (by decide)))))))))) (show v = 0 ∨ v = 1 ∨ v = 2 ∨ v = 3 ∨ v = 4 ∨ v = 5 ∨ v = 6 by omega))) (by decide) ?_
                  refine sm_aload_n (q := 113) dX12_pupil_112 rfl rfl 0 rfl ?_
                  refine sm_iconst (v := 1) (q := 114) dX12_pupil_113 rfl (by decide) ?_
                  obtain ⟨p20, hc_p20, h⟩ := sm_bd_e h
                  refine sm_callVi (q := 117) (As := [.inl (1 : Int32)]) (S := []) (e_X12_fail hc_p20) mv_X12_283 hc1 rfl (by decide) (Nat.le_of_ble_eq_true rfl) dX12_pupil_114 rfl ?_
                  obtain rfl := Option.some.inj h
                  exact sm_iret dX12_pupil_117 rfl
theorem e_X12_pupil {l : Launch} {N : Nat} {R : Nat → Nat → Nat} {a0 : Nat} {a1 : Int32} {a2 : Int32} {I : (Nat → Nat → Int32)} {y : (Int32 × (Nat → Nat → Int32))} (h : f_X12_pupil N R a0 a1 a2 I = some y) : sm_E l 3 mX12_pupil [.inr (.inl a0), .inl a1, .inl a2] (I, R) (.inl (some (.inl y.1))) (y.2, R) :=
  sm_meth (by decide) (Nat.le_of_ble_eq_true rfl) (w_X12_pupil N R a0 a1 a2 I y h)
def f_X12_refuse (N : Nat) (R : Nat → Nat → Nat) : Nat → Int32 → (Nat → Nat → Int32) → Option (Int32 × (Nat → Nat → Int32)) := fun a0 a1 I =>
  sm_gd (sm_kd a0 = (12, 59)) <|
  sm_gd ((sm_kd (R a0 13)).1 = 13 ∧ ¬ (a1 < 0 ∨ (sm_kd (R a0 13)).2 ≤ (a1).toNatClampNeg)) <|
  sm_lt (sm_up I (R a0 13) (sm_up (I (R a0 13)) (a1).toNatClampNeg ((I (R a0 13) (a1).toNatClampNeg) + (1 : Int32)))) fun I3 =>
  some ((-1 : Int32), I3)
set_option maxHeartbeats 4000000 in
set_option maxRecDepth 100000 in
theorem w_X12_refuse {l : Launch} (N : Nat) (R : Nat → Nat → Nat) : ∀ (a0 : Nat) (a1 : Int32) (I : (Nat → Nat → Int32)) (y : (Int32 × (Nat → Nat → Int32))), f_X12_refuse N R a0 a1 I = some y → sm_W l 0 mX12_refuse 0 [(0, .inr (.inl a0)), (1, .inl a1)] [] (I, R) (.inl (some (.inl y.1))) (y.2, R) := by
  intro a0 a1 I y h
  unfold f_X12_refuse at h
  refine sm_aload_n (q := 1) dX12_refuse_0 rfl rfl 0 rfl ?_
  obtain ⟨hc1, h⟩ := sm_gd_e h
  refine sm_getR (r := R a0 13) (q := 4) dX12_refuse_1 rfl fk_X12_66 hc1 (by decide) (by decide) rfl ?_
  refine sm_iload_n (q := 5) dX12_refuse_4 rfl rfl 1 rfl ?_
  refine sm_dup2 (q := 6) dX12_refuse_5 rfl rfl rfl ?_
  obtain ⟨hc2, h⟩ := sm_gd_e h
  refine sm_iald (n := (sm_kd (R a0 13)).2) (q := 7) dX12_refuse_6 rfl (Prod.ext hc2.1 rfl) hc2.2 ?_
  refine sm_iconst (v := 1) (q := 8) dX12_refuse_7 rfl (by decide) ?_
  refine sm_iadd (q := 9) dX12_refuse_8 rfl ?_
  obtain ⟨I3, hI3, h⟩ := sm_lt_e h
  refine sm_iast (n := (sm_kd (R a0 13)).2) (q := 10) dX12_refuse_9 rfl (Prod.ext hc2.1 rfl) hc2.2 ?_
  refine sm_memI hI3 ?_
  refine sm_iconst (v := -1) (q := 11) dX12_refuse_10 rfl (by decide) ?_
  obtain rfl := Option.some.inj h
  exact sm_iret dX12_refuse_11 rfl
theorem e_X12_refuse {l : Launch} {N : Nat} {R : Nat → Nat → Nat} {a0 : Nat} {a1 : Int32} {I : (Nat → Nat → Int32)} {y : (Int32 × (Nat → Nat → Int32))} (h : f_X12_refuse N R a0 a1 I = some y) : sm_E l 0 mX12_refuse [.inr (.inl a0), .inl a1] (I, R) (.inl (some (.inl y.1))) (y.2, R) :=
  sm_meth (by decide) (Nat.le_of_ble_eq_true rfl) (w_X12_refuse N R a0 a1 I y h)
def f_X12_keep_12 (N : Nat) (R : Nat → Nat → Nat) (k_52 : Nat → (Nat → Nat → Int32) → Option (Unit × (Nat → Nat → Int32))) : Nat → Nat → Int32 → (Nat → Nat → Int32) → Option (Unit × (Nat → Nat → Int32))
  | 0, _, _, _ => none
  | n + 1, a0, a1, I =>
    sm_gd (sm_kd a0 = (12, 59)) <|
    sm_gd ((sm_kd (R a0 30)).1 = 13) <|
    if (Int32.ofNat (sm_kd (R a0 30)).2) ≤ a1 then (
      sm_lt (sm_up I a0 (sm_up (I a0) 33 ((I a0 33) - (1 : Int32)))) fun I4 =>
      k_52 a0 I4)
    else (
      sm_gd ((sm_kd (R a0 30)).1 = 13 ∧ ¬ (a1 < 0 ∨ (sm_kd (R a0 30)).2 ≤ (a1).toNatClampNeg)) <|
      sm_gd ((sm_kd (R a0 30)).1 = 13 ∧ ¬ ((a1 - (37 : Int32)) < 0 ∨ (sm_kd (R a0 30)).2 ≤ ((a1 - (37 : Int32))).toNatClampNeg)) <|
      sm_lt (sm_up I (R a0 30) (sm_up (I (R a0 30)) ((a1 - (37 : Int32))).toNatClampNeg (I (R a0 30) (a1).toNatClampNeg))) fun I7 =>
      f_X12_keep_12 N R k_52 n a0 (a1 + 1) I7)
def f_X12_keep_52 (N : Nat) (R : Nat → Nat → Nat) : Nat → (Nat → Nat → Int32) → Option (Unit × (Nat → Nat → Int32)) := fun a0 I =>
  sm_gd (sm_kd a0 = (12, 59)) <|
  (f_X12_pack N R a0 (R a0 30) ((37 : Int32) * (I a0 33)) I).bind fun p2 =>
  sm_lt (sm_up p2.2 a0 (sm_up (p2.2 a0) 33 ((p2.2 a0 33) + (1 : Int32)))) fun I3 =>
  some ((), I3)
def f_X12_keep (N : Nat) (R : Nat → Nat → Nat) : Nat → (Nat → Nat → Int32) → Option (Unit × (Nat → Nat → Int32)) := fun a0 I =>
  sm_gd (sm_kd a0 = (12, 59)) <|
  if (I a0 33) = (40 : Int32) then (
    f_X12_keep_12 N R (fun z0 J => f_X12_keep_52 N R z0 J) N a0 (37 : Int32) I)
  else (
    f_X12_keep_52 N R a0 I)
set_option maxHeartbeats 4000000 in
set_option maxRecDepth 100000 in
theorem w_X12_keep_12 {l : Launch} (N : Nat) (R : Nat → Nat → Nat) (k_52 : Nat → (Nat → Nat → Int32) → Option (Unit × (Nat → Nat → Int32))) (hk_52 : ∀ (a0 : Nat) (I : (Nat → Nat → Int32)) (y : (Unit × (Nat → Nat → Int32))), k_52 a0 I = some y → sm_W l 1 mX12_keep 52 [(0, .inr (.inl a0))] [] (I, R) (.inl none) (y.2, R)) : ∀ (n : Nat) (a0 : Nat) (a1 : Int32) (I : (Nat → Nat → Int32)) (y : (Unit × (Nat → Nat → Int32))), f_X12_keep_12 N R k_52 n a0 a1 I = some y → sm_W l 1 mX12_keep 12 [(0, .inr (.inl a0)), (1, .inl a1)] [] (I, R) (.inl none) (y.2, R) := by
  intro n
  induction n with
  | zero => intro a0 a1 I y h; cases h
  | succ n ih =>
    intro a0 a1 I y h
    rw [f_X12_keep_12] at h
    refine sm_iload_n (q := 13) dX12_keep_12 rfl rfl 1 rfl ?_
    refine sm_aload_n (q := 14) dX12_keep_13 rfl rfl 0 rfl ?_
    obtain ⟨hc1, h⟩ := sm_gd_e h
    refine sm_getR (r := R a0 30) (q := 17) dX12_keep_14 rfl fk_X12_89 hc1 (by decide) (by decide) rfl ?_
    obtain ⟨hc2, h⟩ := sm_gd_e h
    refine sm_alenI (t := 0) (v := (Int32.ofNat (sm_kd (R a0 30)).2)) (q := 18) dX12_keep_17 rfl (Prod.ext hc2 rfl) (by decide) rfl ?_
    rcases sm_if_e h with ⟨hb3, h⟩ | ⟨hb3, h⟩
    · refine sm_icmp_ge (tgt := 42) (q := 21) dX12_keep_18 (by decide) rfl (fun _ => ?_) (fun hn => absurd hb3 hn)
      refine sm_aload_n (q := 43) dX12_keep_42 rfl rfl 0 rfl ?_
      refine sm_dup (q := 44) dX12_keep_43 rfl rfl ?_
      refine sm_getI (q := 47) dX12_keep_44 rfl fk_X12_299 hc1 (by decide) (by decide) ?_
      refine sm_iconst (v := 1) (q := 48) dX12_keep_47 rfl (by decide) ?_
      refine sm_isub (q := 49) dX12_keep_48 rfl ?_
      obtain ⟨I4, hI4, h⟩ := sm_lt_e h
      refine sm_putI (q := 52) dX12_keep_49 rfl fk_X12_299 hc1 (by decide) (by decide) ?_
      refine sm_memI hI4 ?_
      refine sm_pick [0] rfl ?_
      exact hk_52 _ _ _ h
    · refine sm_icmp_ge (tgt := 42) (q := 21) dX12_keep_18 (by decide) rfl (fun ht => absurd ht hb3) (fun _ => ?_)
      refine sm_aload_n (q := 22) dX12_keep_21 rfl rfl 0 rfl ?_
      refine sm_getR (r := R a0 30) (q := 25) dX12_keep_22 rfl fk_X12_89 hc1 (by decide) (by decide) rfl ?_
      refine sm_iload_n (q := 26) dX12_keep_25 rfl rfl 1 rfl ?_
      refine sm_bipush (v := 37) (q := 28) dX12_keep_26 rfl (by decide) ?_
      refine sm_isub (q := 29) dX12_keep_28 rfl ?_
      refine sm_aload_n (q := 30) dX12_keep_29 rfl rfl 0 rfl ?_
      refine sm_getR (r := R a0 30) (q := 33) dX12_keep_30 rfl fk_X12_89 hc1 (by decide) (by decide) rfl ?_
      refine sm_iload_n (q := 34) dX12_keep_33 rfl rfl 1 rfl ?_
      obtain ⟨hc5, h⟩ := sm_gd_e h
      refine sm_iald (n := (sm_kd (R a0 30)).2) (q := 35) dX12_keep_34 rfl (Prod.ext hc5.1 rfl) hc5.2 ?_
      obtain ⟨hc6, h⟩ := sm_gd_e h
      obtain ⟨I7, hI7, h⟩ := sm_lt_e h
      refine sm_iast (n := (sm_kd (R a0 30)).2) (q := 36) dX12_keep_35 rfl (Prod.ext hc6.1 rfl) hc6.2 ?_
      refine sm_memI hI7 ?_
      refine sm_iinc (v := (a1 + 1)) (L' := [(1, .inl (a1 + 1)), (0, .inr (.inl a0))]) (q := 39) dX12_keep_36 rfl 1 rfl rfl (by decide) rfl ?_
      refine sm_goto (q := 12) dX12_keep_39 (by decide) ?_
      refine sm_pick [1, 0] rfl ?_
      exact ih _ _ _ _ h
set_option maxHeartbeats 4000000 in
set_option maxRecDepth 100000 in
theorem w_X12_keep_52 {l : Launch} (N : Nat) (R : Nat → Nat → Nat) : ∀ (a0 : Nat) (I : (Nat → Nat → Int32)) (y : (Unit × (Nat → Nat → Int32))), f_X12_keep_52 N R a0 I = some y → sm_W l 1 mX12_keep 52 [(0, .inr (.inl a0))] [] (I, R) (.inl none) (y.2, R) := by
  intro a0 I y h
  unfold f_X12_keep_52 at h
  refine sm_aload_n (q := 53) dX12_keep_52 rfl rfl 0 rfl ?_
  refine sm_aload_n (q := 54) dX12_keep_53 rfl rfl 0 rfl ?_
  obtain ⟨hc1, h⟩ := sm_gd_e h
  refine sm_getR (r := R a0 30) (q := 57) dX12_keep_54 rfl fk_X12_89 hc1 (by decide) (by decide) rfl ?_
  refine sm_bipush (v := 37) (q := 59) dX12_keep_57 rfl (by decide) ?_
  refine sm_aload_n (q := 60) dX12_keep_59 rfl rfl 0 rfl ?_
  refine sm_getI (q := 63) dX12_keep_60 rfl fk_X12_299 hc1 (by decide) (by decide) ?_
  refine sm_imul (q := 64) dX12_keep_63 rfl ?_
  obtain ⟨p2, hc_p2, h⟩ := sm_bd_e h
  refine sm_callVv (q := 67) (As := [.inr (.inl (R a0 30)), .inl ((37 : Int32) * (I a0 33))]) (S := []) (e_X12_pack hc_p2) mv_X12_378 hc1 rfl (by decide) (Nat.le_of_ble_eq_true rfl) dX12_keep_64 rfl ?_
  refine sm_aload_n (q := 68) dX12_keep_67 rfl rfl 0 rfl ?_
  refine sm_dup (q := 69) dX12_keep_68 rfl rfl ?_
  refine sm_getI (q := 72) dX12_keep_69 rfl fk_X12_299 hc1 (by decide) (by decide) ?_
  refine sm_iconst (v := 1) (q := 73) dX12_keep_72 rfl (by decide) ?_
  refine sm_iadd (q := 74) dX12_keep_73 rfl ?_
  obtain ⟨I3, hI3, h⟩ := sm_lt_e h
  refine sm_putI (q := 77) dX12_keep_74 rfl fk_X12_299 hc1 (by decide) (by decide) ?_
  refine sm_memI hI3 ?_
  obtain rfl := Option.some.inj h
  exact sm_vret dX12_keep_77 rfl
set_option maxHeartbeats 4000000 in
set_option maxRecDepth 100000 in
theorem w_X12_keep {l : Launch} (N : Nat) (R : Nat → Nat → Nat) : ∀ (a0 : Nat) (I : (Nat → Nat → Int32)) (y : (Unit × (Nat → Nat → Int32))), f_X12_keep N R a0 I = some y → sm_W l 1 mX12_keep 0 [(0, .inr (.inl a0))] [] (I, R) (.inl none) (y.2, R) := by
  intro a0 I y h
  unfold f_X12_keep at h
  refine sm_aload_n (q := 1) dX12_keep_0 rfl rfl 0 rfl ?_
  obtain ⟨hc1, h⟩ := sm_gd_e h
  refine sm_getI (q := 4) dX12_keep_1 rfl fk_X12_299 hc1 (by decide) (by decide) ?_
  refine sm_bipush (v := 40) (q := 6) dX12_keep_4 rfl (by decide) ?_
  rcases sm_if_e h with ⟨hb2, h⟩ | ⟨hb2, h⟩
  · refine sm_icmp_ne (tgt := 52) (q := 9) dX12_keep_6 (by decide) rfl (fun hn => absurd hb2 hn) (fun _ => ?_)
    refine sm_bipush (v := 37) (q := 11) dX12_keep_9 rfl (by decide) ?_
    refine sm_istore_n (L' := [(1, .inl (37 : Int32)), (0, .inr (.inl a0))]) (q := 12) dX12_keep_11 rfl rfl (by decide) rfl ?_
    refine sm_pick [1, 0] rfl ?_
    exact w_X12_keep_12 N R (fun z0 J => f_X12_keep_52 N R z0 J) (fun z0 J y h => w_X12_keep_52 N R z0 J y h) N _ _ _ _ h
  · refine sm_icmp_ne (tgt := 52) (q := 9) dX12_keep_6 (by decide) rfl (fun _ => ?_) (fun he => absurd he hb2)
    refine sm_pick [0] rfl ?_
    exact w_X12_keep_52 N R _ _ _ h
theorem e_X12_keep {l : Launch} {N : Nat} {R : Nat → Nat → Nat} {a0 : Nat} {I : (Nat → Nat → Int32)} {y : (Unit × (Nat → Nat → Int32))} (h : f_X12_keep N R a0 I = some y) : sm_E l 1 mX12_keep [.inr (.inl a0)] (I, R) (.inl none) (y.2, R) :=
  sm_meth (by decide) (Nat.le_of_ble_eq_true rfl) (w_X12_keep N R a0 I y h)
def f_X12_weeks (N : Nat) (R : Nat → Nat → Nat) : Nat → Int32 → (Nat → Nat → Int32) → Option (Int32 × (Nat → Nat → Int32)) := fun a0 a1 I =>
  sm_gd (sm_kd a0 = (12, 59)) <|
  sm_lt (sm_up I a0 (sm_up (I a0) 3 (0 : Int32))) fun I2 =>
  (f_X12_isIn N R (Int32.toInt64 a1) (1 : Int64) (20 : Int64) I2).bind fun p3 =>
  if p3.1 = 0 then (
    (f_X12_refuse N R a0 (1 : Int32) p3.2).bind fun p5 =>
    some (p5.1, p5.2))
  else (
    if ((p3.2 a0 31) + a1) ≤ (999 : Int32) then (
      (f_X12_keep N R a0 p3.2).bind fun p7 =>
      (f_X12_goOn N R a0 a1 p7.2).bind fun p8 =>
      some ((p8.2 a0 31), p8.2))
    else (
      (f_X12_refuse N R a0 (1 : Int32) p3.2).bind fun p9 =>
      some (p9.1, p9.2)))
set_option maxHeartbeats 4000000 in
set_option maxRecDepth 100000 in
theorem w_X12_weeks {l : Launch} (N : Nat) (R : Nat → Nat → Nat) : ∀ (a0 : Nat) (a1 : Int32) (I : (Nat → Nat → Int32)) (y : (Int32 × (Nat → Nat → Int32))), f_X12_weeks N R a0 a1 I = some y → sm_W l 6 mX12_weeks 0 [(0, .inr (.inl a0)), (1, .inl a1)] [] (I, R) (.inl (some (.inl y.1))) (y.2, R) := by
  intro a0 a1 I y h
  unfold f_X12_weeks at h
  refine sm_aload_n (q := 1) dX12_weeks_0 rfl rfl 0 rfl ?_
  refine sm_iconst (v := 0) (q := 2) dX12_weeks_1 rfl (by decide) ?_
  obtain ⟨hc1, h⟩ := sm_gd_e h
  obtain ⟨I2, hI2, h⟩ := sm_lt_e h
  refine sm_putI (q := 5) dX12_weeks_2 rfl fk_X12_152 hc1 (by decide) (by decide) ?_
  refine sm_memI hI2 ?_
  refine sm_iload_n (q := 6) dX12_weeks_5 rfl rfl 1 rfl ?_
  refine sm_i2l (v := (Int32.toInt64 a1)) (q := 7) dX12_weeks_6 rfl rfl ?_
  refine sm_lconst (v := 1) (q := 8) dX12_weeks_7 rfl (by decide) ?_
  refine sm_ldc2 (q := 11) dX12_weeks_8 rfl co_X12_382 ?_
  obtain ⟨p3, hc_p3, h⟩ := sm_bd_e h
  refine sm_callSi (q := 14) (As := [.inr (.inr (Int32.toInt64 a1)), .inr (.inr (1 : Int64)), .inr (.inr (20 : Int64))]) (S := []) (e_X12_isIn hc_p3) ms_X12_155 rfl (by decide) (Nat.le_of_ble_eq_true rfl) dX12_weeks_11 rfl ?_
  rcases sm_if_e h with ⟨hb4, h⟩ | ⟨hb4, h⟩
  · refine sm_if_eq (tgt := 29) (q := 17) dX12_weeks_14 (by decide) rfl (fun _ => ?_) (fun hn => absurd hb4 hn)
    refine sm_aload_n (q := 30) dX12_weeks_29 rfl rfl 0 rfl ?_
    refine sm_iconst (v := 1) (q := 31) dX12_weeks_30 rfl (by decide) ?_
    obtain ⟨p5, hc_p5, h⟩ := sm_bd_e h
    refine sm_callVi (q := 34) (As := [.inl (1 : Int32)]) (S := []) (e_X12_refuse hc_p5) mv_X12_384 hc1 rfl (by decide) (Nat.le_of_ble_eq_true rfl) dX12_weeks_31 rfl ?_
    obtain rfl := Option.some.inj h
    exact sm_iret dX12_weeks_34 rfl
  · refine sm_if_eq (tgt := 29) (q := 17) dX12_weeks_14 (by decide) rfl (fun ht => absurd ht hb4) (fun _ => ?_)
    refine sm_aload_n (q := 18) dX12_weeks_17 rfl rfl 0 rfl ?_
    refine sm_getI (q := 21) dX12_weeks_18 rfl fk_X12_296 hc1 (by decide) (by decide) ?_
    refine sm_iload_n (q := 22) dX12_weeks_21 rfl rfl 1 rfl ?_
    refine sm_iadd (q := 23) dX12_weeks_22 rfl ?_
    refine sm_sipush (v := 999) (q := 26) dX12_weeks_23 rfl (by decide) ?_
    rcases sm_if_e h with ⟨hb6, h⟩ | ⟨hb6, h⟩
    · refine sm_icmp_le (tgt := 35) (q := 29) dX12_weeks_26 (by decide) rfl (fun _ => ?_) (fun hn => absurd hb6 hn)
      refine sm_aload_n (q := 36) dX12_weeks_35 rfl rfl 0 rfl ?_
      obtain ⟨p7, hc_p7, h⟩ := sm_bd_e h
      refine sm_callVv (q := 39) (As := []) (S := []) (e_X12_keep hc_p7) mv_X12_387 hc1 rfl (by decide) (Nat.le_of_ble_eq_true rfl) dX12_weeks_36 rfl ?_
      refine sm_aload_n (q := 40) dX12_weeks_39 rfl rfl 0 rfl ?_
      refine sm_iload_n (q := 41) dX12_weeks_40 rfl rfl 1 rfl ?_
      obtain ⟨p8, hc_p8, h⟩ := sm_bd_e h
      refine sm_callVv (q := 44) (As := [.inl a1]) (S := []) (e_X12_goOn hc_p8) mv_X12_390 hc1 rfl (by decide) (Nat.le_of_ble_eq_true rfl) dX12_weeks_41 rfl ?_
      refine sm_aload_n (q := 45) dX12_weeks_44 rfl rfl 0 rfl ?_
      refine sm_getI (q := 48) dX12_weeks_45 rfl fk_X12_296 hc1 (by decide) (by decide) ?_
      obtain rfl := Option.some.inj h
      exact sm_iret dX12_weeks_48 rfl
    · refine sm_icmp_le (tgt := 35) (q := 29) dX12_weeks_26 (by decide) rfl (fun ht => absurd ht hb6) (fun _ => ?_)
      refine sm_aload_n (q := 30) dX12_weeks_29 rfl rfl 0 rfl ?_
      refine sm_iconst (v := 1) (q := 31) dX12_weeks_30 rfl (by decide) ?_
      obtain ⟨p9, hc_p9, h⟩ := sm_bd_e h
      refine sm_callVi (q := 34) (As := [.inl (1 : Int32)]) (S := []) (e_X12_refuse hc_p9) mv_X12_384 hc1 rfl (by decide) (Nat.le_of_ble_eq_true rfl) dX12_weeks_31 rfl ?_
      obtain rfl := Option.some.inj h
      exact sm_iret dX12_weeks_34 rfl
theorem e_X12_weeks {l : Launch} {N : Nat} {R : Nat → Nat → Nat} {a0 : Nat} {a1 : Int32} {I : (Nat → Nat → Int32)} {y : (Int32 × (Nat → Nat → Int32))} (h : f_X12_weeks N R a0 a1 I = some y) : sm_E l 6 mX12_weeks [.inr (.inl a0), .inl a1] (I, R) (.inl (some (.inl y.1))) (y.2, R) :=
  sm_meth (by decide) (Nat.le_of_ble_eq_true rfl) (w_X12_weeks N R a0 a1 I y h)
def f_X12_door (N : Nat) (R : Nat → Nat → Nat) : Nat → Int32 → Int32 → (Nat → Nat → Int32) → Option (Int32 × (Nat → Nat → Int32)) := fun a0 a1 a2 I =>
  sm_gd (sm_kd a0 = (12, 59)) <|
  sm_lt (sm_up I a0 (sm_up (I a0) 3 (0 : Int32))) fun I2 =>
  (f_X12_isPupil N R a0 a1 I2).bind fun p3 =>
  if p3.1 = 0 then (
    (f_X12_fail N R a0 (1 : Int32) p3.2).bind fun p5 =>
    some (p5.1, p5.2))
  else (
    (f_X12_mayGo N R a0 a1 a2 p3.2).bind fun p6 =>
    if p6.1 = 0 then (
      (f_X12_refuse N R a0 (1 : Int32) p6.2).bind fun p8 =>
      some (p8.1, p8.2))
    else (
      (f_X12_keep N R a0 p6.2).bind fun p9 =>
      (f_X12_go N R a0 a1 a2 p9.2).bind fun p10 =>
      sm_gd ((sm_kd (R a0 25)).1 = 13 ∧ ¬ (a1 < 0 ∨ (sm_kd (R a0 25)).2 ≤ (a1).toNatClampNeg)) <|
      some ((p10.2 (R a0 25) (a1).toNatClampNeg), p10.2)))
set_option maxHeartbeats 4000000 in
set_option maxRecDepth 100000 in
theorem w_X12_door {l : Launch} (N : Nat) (R : Nat → Nat → Nat) : ∀ (a0 : Nat) (a1 : Int32) (a2 : Int32) (I : (Nat → Nat → Int32)) (y : (Int32 × (Nat → Nat → Int32))), f_X12_door N R a0 a1 a2 I = some y → sm_W l 5 mX12_door 0 [(0, .inr (.inl a0)), (1, .inl a1), (2, .inl a2)] [] (I, R) (.inl (some (.inl y.1))) (y.2, R) := by
  intro a0 a1 a2 I y h
  unfold f_X12_door at h
  refine sm_aload_n (q := 1) dX12_door_0 rfl rfl 0 rfl ?_
  refine sm_iconst (v := 0) (q := 2) dX12_door_1 rfl (by decide) ?_
  obtain ⟨hc1, h⟩ := sm_gd_e h
  obtain ⟨I2, hI2, h⟩ := sm_lt_e h
  refine sm_putI (q := 5) dX12_door_2 rfl fk_X12_152 hc1 (by decide) (by decide) ?_
  refine sm_memI hI2 ?_
  refine sm_aload_n (q := 6) dX12_door_5 rfl rfl 0 rfl ?_
  refine sm_iload_n (q := 7) dX12_door_6 rfl rfl 1 rfl ?_
  obtain ⟨p3, hc_p3, h⟩ := sm_bd_e h
  refine sm_callVi (q := 10) (As := [.inl a1]) (S := []) (e_X12_isPupil hc_p3) mv_X12_375 hc1 rfl (by decide) (Nat.le_of_ble_eq_true rfl) dX12_door_7 rfl ?_
  rcases sm_if_e h with ⟨hb4, h⟩ | ⟨hb4, h⟩
  · refine sm_if_ne (tgt := 19) (q := 13) dX12_door_10 (by decide) rfl (fun hn => absurd hb4 hn) (fun _ => ?_)
    refine sm_aload_n (q := 14) dX12_door_13 rfl rfl 0 rfl ?_
    refine sm_iconst (v := 1) (q := 15) dX12_door_14 rfl (by decide) ?_
    obtain ⟨p5, hc_p5, h⟩ := sm_bd_e h
    refine sm_callVi (q := 18) (As := [.inl (1 : Int32)]) (S := []) (e_X12_fail hc_p5) mv_X12_283 hc1 rfl (by decide) (Nat.le_of_ble_eq_true rfl) dX12_door_15 rfl ?_
    obtain rfl := Option.some.inj h
    exact sm_iret dX12_door_18 rfl
  · refine sm_if_ne (tgt := 19) (q := 13) dX12_door_10 (by decide) rfl (fun _ => ?_) (fun he => absurd he hb4)
    refine sm_aload_n (q := 20) dX12_door_19 rfl rfl 0 rfl ?_
    refine sm_iload_n (q := 21) dX12_door_20 rfl rfl 1 rfl ?_
    refine sm_iload_n (q := 22) dX12_door_21 rfl rfl 2 rfl ?_
    obtain ⟨p6, hc_p6, h⟩ := sm_bd_e h
    refine sm_callVi (q := 25) (As := [.inl a1, .inl a2]) (S := []) (e_X12_mayGo hc_p6) mv_X12_358 hc1 rfl (by decide) (Nat.le_of_ble_eq_true rfl) dX12_door_22 rfl ?_
    rcases sm_if_e h with ⟨hb7, h⟩ | ⟨hb7, h⟩
    · refine sm_if_ne (tgt := 34) (q := 28) dX12_door_25 (by decide) rfl (fun hn => absurd hb7 hn) (fun _ => ?_)
      refine sm_aload_n (q := 29) dX12_door_28 rfl rfl 0 rfl ?_
      refine sm_iconst (v := 1) (q := 30) dX12_door_29 rfl (by decide) ?_
      obtain ⟨p8, hc_p8, h⟩ := sm_bd_e h
      refine sm_callVi (q := 33) (As := [.inl (1 : Int32)]) (S := []) (e_X12_refuse hc_p8) mv_X12_384 hc1 rfl (by decide) (Nat.le_of_ble_eq_true rfl) dX12_door_30 rfl ?_
      obtain rfl := Option.some.inj h
      exact sm_iret dX12_door_33 rfl
    · refine sm_if_ne (tgt := 34) (q := 28) dX12_door_25 (by decide) rfl (fun _ => ?_) (fun he => absurd he hb7)
      refine sm_aload_n (q := 35) dX12_door_34 rfl rfl 0 rfl ?_
      obtain ⟨p9, hc_p9, h⟩ := sm_bd_e h
      refine sm_callVv (q := 38) (As := []) (S := []) (e_X12_keep hc_p9) mv_X12_387 hc1 rfl (by decide) (Nat.le_of_ble_eq_true rfl) dX12_door_35 rfl ?_
      refine sm_aload_n (q := 39) dX12_door_38 rfl rfl 0 rfl ?_
      refine sm_iload_n (q := 40) dX12_door_39 rfl rfl 1 rfl ?_
      refine sm_iload_n (q := 41) dX12_door_40 rfl rfl 2 rfl ?_
      obtain ⟨p10, hc_p10, h⟩ := sm_bd_e h
      refine sm_callVv (q := 44) (As := [.inl a1, .inl a2]) (S := []) (e_X12_go hc_p10) mv_X12_393 hc1 rfl (by decide) (Nat.le_of_ble_eq_true rfl) dX12_door_41 rfl ?_
      refine sm_aload_n (q := 45) dX12_door_44 rfl rfl 0 rfl ?_
      refine sm_getR (r := R a0 25) (q := 48) dX12_door_45 rfl fk_X12_76 hc1 (by decide) (by decide) rfl ?_
      refine sm_iload_n (q := 49) dX12_door_48 rfl rfl 1 rfl ?_
      obtain ⟨hc11, h⟩ := sm_gd_e h
      refine sm_iald (n := (sm_kd (R a0 25)).2) (q := 50) dX12_door_49 rfl (Prod.ext hc11.1 rfl) hc11.2 ?_
      obtain rfl := Option.some.inj h
      exact sm_iret dX12_door_50 rfl
theorem e_X12_door {l : Launch} {N : Nat} {R : Nat → Nat → Nat} {a0 : Nat} {a1 : Int32} {a2 : Int32} {I : (Nat → Nat → Int32)} {y : (Int32 × (Nat → Nat → Int32))} (h : f_X12_door N R a0 a1 a2 I = some y) : sm_E l 5 mX12_door [.inr (.inl a0), .inl a1, .inl a2] (I, R) (.inl (some (.inl y.1))) (y.2, R) :=
  sm_meth (by decide) (Nat.le_of_ble_eq_true rfl) (w_X12_door N R a0 a1 a2 I y h)
def f_X12_gloves (N : Nat) (R : Nat → Nat → Nat) : Nat → Int32 → Int32 → (Nat → Nat → Int32) → Option (Int32 × (Nat → Nat → Int32)) := fun a0 a1 a2 I =>
  sm_gd (sm_kd a0 = (12, 59)) <|
  sm_lt (sm_up I a0 (sm_up (I a0) 3 (0 : Int32))) fun I2 =>
  (f_X12_isPupil N R a0 a1 I2).bind fun p3 =>
  if p3.1 = 0 then (
    (f_X12_fail N R a0 (1 : Int32) p3.2).bind fun p5 =>
    some (p5.1, p5.2))
  else (
    (f_X12_isIn N R (Int32.toInt64 a2) (1 : Int64) (9 : Int64) p3.2).bind fun p6 =>
    if p6.1 = 0 then (
      (f_X12_refuse N R a0 (1 : Int32) p6.2).bind fun p8 =>
      some (p8.1, p8.2))
    else (
      (f_X12_keep N R a0 p6.2).bind fun p9 =>
      sm_gd ((sm_kd (R a0 26)).1 = 13 ∧ ¬ (a1 < 0 ∨ (sm_kd (R a0 26)).2 ≤ (a1).toNatClampNeg)) <|
      sm_lt (sm_up p9.2 (R a0 26) (sm_up (p9.2 (R a0 26)) (a1).toNatClampNeg (sm_mx (0 : Int32) ((p9.2 (R a0 26) (a1).toNatClampNeg) - a2)))) fun I11 =>
      some ((I11 (R a0 26) (a1).toNatClampNeg), I11)))
set_option maxHeartbeats 4000000 in
set_option maxRecDepth 100000 in
theorem w_X12_gloves {l : Launch} (N : Nat) (R : Nat → Nat → Nat) : ∀ (a0 : Nat) (a1 : Int32) (a2 : Int32) (I : (Nat → Nat → Int32)) (y : (Int32 × (Nat → Nat → Int32))), f_X12_gloves N R a0 a1 a2 I = some y → sm_W l 2 mX12_gloves 0 [(0, .inr (.inl a0)), (1, .inl a1), (2, .inl a2)] [] (I, R) (.inl (some (.inl y.1))) (y.2, R) := by
  intro a0 a1 a2 I y h
  unfold f_X12_gloves at h
  refine sm_aload_n (q := 1) dX12_gloves_0 rfl rfl 0 rfl ?_
  refine sm_iconst (v := 0) (q := 2) dX12_gloves_1 rfl (by decide) ?_
  obtain ⟨hc1, h⟩ := sm_gd_e h
  obtain ⟨I2, hI2, h⟩ := sm_lt_e h
  refine sm_putI (q := 5) dX12_gloves_2 rfl fk_X12_152 hc1 (by decide) (by decide) ?_
  refine sm_memI hI2 ?_
  refine sm_aload_n (q := 6) dX12_gloves_5 rfl rfl 0 rfl ?_
  refine sm_iload_n (q := 7) dX12_gloves_6 rfl rfl 1 rfl ?_
  obtain ⟨p3, hc_p3, h⟩ := sm_bd_e h
  refine sm_callVi (q := 10) (As := [.inl a1]) (S := []) (e_X12_isPupil hc_p3) mv_X12_375 hc1 rfl (by decide) (Nat.le_of_ble_eq_true rfl) dX12_gloves_7 rfl ?_
  rcases sm_if_e h with ⟨hb4, h⟩ | ⟨hb4, h⟩
  · refine sm_if_ne (tgt := 19) (q := 13) dX12_gloves_10 (by decide) rfl (fun hn => absurd hb4 hn) (fun _ => ?_)
    refine sm_aload_n (q := 14) dX12_gloves_13 rfl rfl 0 rfl ?_
    refine sm_iconst (v := 1) (q := 15) dX12_gloves_14 rfl (by decide) ?_
    obtain ⟨p5, hc_p5, h⟩ := sm_bd_e h
    refine sm_callVi (q := 18) (As := [.inl (1 : Int32)]) (S := []) (e_X12_fail hc_p5) mv_X12_283 hc1 rfl (by decide) (Nat.le_of_ble_eq_true rfl) dX12_gloves_15 rfl ?_
    obtain rfl := Option.some.inj h
    exact sm_iret dX12_gloves_18 rfl
  · refine sm_if_ne (tgt := 19) (q := 13) dX12_gloves_10 (by decide) rfl (fun _ => ?_) (fun he => absurd he hb4)
    refine sm_iload_n (q := 20) dX12_gloves_19 rfl rfl 2 rfl ?_
    refine sm_i2l (v := (Int32.toInt64 a2)) (q := 21) dX12_gloves_20 rfl rfl ?_
    refine sm_lconst (v := 1) (q := 22) dX12_gloves_21 rfl (by decide) ?_
    refine sm_ldc2 (q := 25) dX12_gloves_22 rfl co_X12_396 ?_
    obtain ⟨p6, hc_p6, h⟩ := sm_bd_e h
    refine sm_callSi (q := 28) (As := [.inr (.inr (Int32.toInt64 a2)), .inr (.inr (1 : Int64)), .inr (.inr (9 : Int64))]) (S := []) (e_X12_isIn hc_p6) ms_X12_155 rfl (by decide) (Nat.le_of_ble_eq_true rfl) dX12_gloves_25 rfl ?_
    rcases sm_if_e h with ⟨hb7, h⟩ | ⟨hb7, h⟩
    · refine sm_if_ne (tgt := 37) (q := 31) dX12_gloves_28 (by decide) rfl (fun hn => absurd hb7 hn) (fun _ => ?_)
      refine sm_aload_n (q := 32) dX12_gloves_31 rfl rfl 0 rfl ?_
      refine sm_iconst (v := 1) (q := 33) dX12_gloves_32 rfl (by decide) ?_
      obtain ⟨p8, hc_p8, h⟩ := sm_bd_e h
      refine sm_callVi (q := 36) (As := [.inl (1 : Int32)]) (S := []) (e_X12_refuse hc_p8) mv_X12_384 hc1 rfl (by decide) (Nat.le_of_ble_eq_true rfl) dX12_gloves_33 rfl ?_
      obtain rfl := Option.some.inj h
      exact sm_iret dX12_gloves_36 rfl
    · refine sm_if_ne (tgt := 37) (q := 31) dX12_gloves_28 (by decide) rfl (fun _ => ?_) (fun he => absurd he hb7)
      refine sm_aload_n (q := 38) dX12_gloves_37 rfl rfl 0 rfl ?_
      obtain ⟨p9, hc_p9, h⟩ := sm_bd_e h
      refine sm_callVv (q := 41) (As := []) (S := []) (e_X12_keep hc_p9) mv_X12_387 hc1 rfl (by decide) (Nat.le_of_ble_eq_true rfl) dX12_gloves_38 rfl ?_
      refine sm_aload_n (q := 42) dX12_gloves_41 rfl rfl 0 rfl ?_
      refine sm_getR (r := R a0 26) (q := 45) dX12_gloves_42 rfl fk_X12_79 hc1 (by decide) (by decide) rfl ?_
      refine sm_iload_n (q := 46) dX12_gloves_45 rfl rfl 1 rfl ?_
      refine sm_iconst (v := 0) (q := 47) dX12_gloves_46 rfl (by decide) ?_
      refine sm_aload_n (q := 48) dX12_gloves_47 rfl rfl 0 rfl ?_
      refine sm_getR (r := R a0 26) (q := 51) dX12_gloves_48 rfl fk_X12_79 hc1 (by decide) (by decide) rfl ?_
      refine sm_iload_n (q := 52) dX12_gloves_51 rfl rfl 1 rfl ?_
      obtain ⟨hc10, h⟩ := sm_gd_e h
      refine sm_iald (n := (sm_kd (R a0 26)).2) (q := 53) dX12_gloves_52 rfl (Prod.ext hc10.1 rfl) hc10.2 ?_
      refine sm_iload_n (q := 54) dX12_gloves_53 rfl rfl 2 rfl ?_
      refine sm_isub (q := 55) dX12_gloves_54 rfl ?_
      refine sm_mmx (q := 58) dX12_gloves_55 rfl mm_X12_328 (Nat.le_of_ble_eq_true rfl) ?_
      obtain ⟨I11, hI11, h⟩ := sm_lt_e h
      refine sm_iast (n := (sm_kd (R a0 26)).2) (q := 59) dX12_gloves_58 rfl (Prod.ext hc10.1 rfl) hc10.2 ?_
      refine sm_memI hI11 ?_
      refine sm_aload_n (q := 60) dX12_gloves_59 rfl rfl 0 rfl ?_
      refine sm_getR (r := R a0 26) (q := 63) dX12_gloves_60 rfl fk_X12_79 hc1 (by decide) (by decide) rfl ?_
      refine sm_iload_n (q := 64) dX12_gloves_63 rfl rfl 1 rfl ?_
      refine sm_iald (n := (sm_kd (R a0 26)).2) (q := 65) dX12_gloves_64 rfl (Prod.ext hc10.1 rfl) hc10.2 ?_
      obtain rfl := Option.some.inj h
      exact sm_iret dX12_gloves_65 rfl
theorem e_X12_gloves {l : Launch} {N : Nat} {R : Nat → Nat → Nat} {a0 : Nat} {a1 : Int32} {a2 : Int32} {I : (Nat → Nat → Int32)} {y : (Int32 × (Nat → Nat → Int32))} (h : f_X12_gloves N R a0 a1 a2 I = some y) : sm_E l 2 mX12_gloves [.inr (.inl a0), .inl a1, .inl a2] (I, R) (.inl (some (.inl y.1))) (y.2, R) :=
  sm_meth (by decide) (Nat.le_of_ble_eq_true rfl) (w_X12_gloves N R a0 a1 a2 I y h)
def f_X12_begin (N : Nat) (R : Nat → Nat → Nat) : Nat → Int32 → Int32 → (Nat → Nat → Int32) → Option (Int32 × (Nat → Nat → Int32)) := fun a0 a1 a2 I =>
  sm_gd (sm_kd a0 = (12, 59)) <|
  sm_lt (sm_up I a0 (sm_up (I a0) 3 (0 : Int32))) fun I2 =>
  (f_X12_isPupil N R a0 a1 I2).bind fun p3 =>
  if p3.1 = 0 then (
    (f_X12_fail N R a0 (1 : Int32) p3.2).bind fun p5 =>
    some (p5.1, p5.2))
  else (
    (f_X12_isPiece N R a0 a2 p3.2).bind fun p6 =>
    if p6.1 = 0 then (
      (f_X12_fail N R a0 (1 : Int32) p6.2).bind fun p8 =>
      some (p8.1, p8.2))
    else (
      sm_gd ((sm_kd (R a0 27)).1 = 13 ∧ ¬ (a1 < 0 ∨ (sm_kd (R a0 27)).2 ≤ (a1).toNatClampNeg)) <|
      if (p6.2 (R a0 27) (a1).toNatClampNeg) = a2 then (
        (f_X12_refuse N R a0 (1 : Int32) p6.2).bind fun p11 =>
        some (p11.1, p11.2))
      else (
        (f_X12_keep N R a0 p6.2).bind fun p12 =>
        sm_lt (sm_up p12.2 (R a0 27) (sm_up (p12.2 (R a0 27)) (a1).toNatClampNeg a2)) fun I13 =>
        sm_gd ((sm_kd (R a0 28)).1 = 13 ∧ ¬ (a1 < 0 ∨ (sm_kd (R a0 28)).2 ≤ (a1).toNatClampNeg)) <|
        sm_lt (sm_up I13 (R a0 28) (sm_up (I13 (R a0 28)) (a1).toNatClampNeg (0 : Int32))) fun I15 =>
        some ((p12.2 (R a0 27) (a1).toNatClampNeg), I15))))
set_option maxHeartbeats 4000000 in
set_option maxRecDepth 100000 in
theorem w_X12_begin {l : Launch} (N : Nat) (R : Nat → Nat → Nat) : ∀ (a0 : Nat) (a1 : Int32) (a2 : Int32) (I : (Nat → Nat → Int32)) (y : (Int32 × (Nat → Nat → Int32))), f_X12_begin N R a0 a1 a2 I = some y → sm_W l 2 mX12_begin 0 [(0, .inr (.inl a0)), (1, .inl a1), (2, .inl a2)] [] (I, R) (.inl (some (.inl y.1))) (y.2, R) := by
  intro a0 a1 a2 I y h
  unfold f_X12_begin at h
  refine sm_aload_n (q := 1) dX12_begin_0 rfl rfl 0 rfl ?_
  refine sm_iconst (v := 0) (q := 2) dX12_begin_1 rfl (by decide) ?_
  obtain ⟨hc1, h⟩ := sm_gd_e h
  obtain ⟨I2, hI2, h⟩ := sm_lt_e h
  refine sm_putI (q := 5) dX12_begin_2 rfl fk_X12_152 hc1 (by decide) (by decide) ?_
  refine sm_memI hI2 ?_
  refine sm_aload_n (q := 6) dX12_begin_5 rfl rfl 0 rfl ?_
  refine sm_iload_n (q := 7) dX12_begin_6 rfl rfl 1 rfl ?_
  obtain ⟨p3, hc_p3, h⟩ := sm_bd_e h
  refine sm_callVi (q := 10) (As := [.inl a1]) (S := []) (e_X12_isPupil hc_p3) mv_X12_375 hc1 rfl (by decide) (Nat.le_of_ble_eq_true rfl) dX12_begin_7 rfl ?_
  rcases sm_if_e h with ⟨hb4, h⟩ | ⟨hb4, h⟩
  · refine sm_if_eq (tgt := 21) (q := 13) dX12_begin_10 (by decide) rfl (fun _ => ?_) (fun hn => absurd hb4 hn)
    refine sm_aload_n (q := 22) dX12_begin_21 rfl rfl 0 rfl ?_
    refine sm_iconst (v := 1) (q := 23) dX12_begin_22 rfl (by decide) ?_
    obtain ⟨p5, hc_p5, h⟩ := sm_bd_e h
    refine sm_callVi (q := 26) (As := [.inl (1 : Int32)]) (S := []) (e_X12_fail hc_p5) mv_X12_283 hc1 rfl (by decide) (Nat.le_of_ble_eq_true rfl) dX12_begin_23 rfl ?_
    obtain rfl := Option.some.inj h
    exact sm_iret dX12_begin_26 rfl
  · refine sm_if_eq (tgt := 21) (q := 13) dX12_begin_10 (by decide) rfl (fun ht => absurd ht hb4) (fun _ => ?_)
    refine sm_aload_n (q := 14) dX12_begin_13 rfl rfl 0 rfl ?_
    refine sm_iload_n (q := 15) dX12_begin_14 rfl rfl 2 rfl ?_
    obtain ⟨p6, hc_p6, h⟩ := sm_bd_e h
    refine sm_callVi (q := 18) (As := [.inl a2]) (S := []) (e_X12_isPiece hc_p6) mv_X12_367 hc1 rfl (by decide) (Nat.le_of_ble_eq_true rfl) dX12_begin_15 rfl ?_
    rcases sm_if_e h with ⟨hb7, h⟩ | ⟨hb7, h⟩
    · refine sm_if_ne (tgt := 27) (q := 21) dX12_begin_18 (by decide) rfl (fun hn => absurd hb7 hn) (fun _ => ?_)
      refine sm_aload_n (q := 22) dX12_begin_21 rfl rfl 0 rfl ?_
      refine sm_iconst (v := 1) (q := 23) dX12_begin_22 rfl (by decide) ?_
      obtain ⟨p8, hc_p8, h⟩ := sm_bd_e h
      refine sm_callVi (q := 26) (As := [.inl (1 : Int32)]) (S := []) (e_X12_fail hc_p8) mv_X12_283 hc1 rfl (by decide) (Nat.le_of_ble_eq_true rfl) dX12_begin_23 rfl ?_
      obtain rfl := Option.some.inj h
      exact sm_iret dX12_begin_26 rfl
    · refine sm_if_ne (tgt := 27) (q := 21) dX12_begin_18 (by decide) rfl (fun _ => ?_) (fun he => absurd he hb7)
      refine sm_aload_n (q := 28) dX12_begin_27 rfl rfl 0 rfl ?_
      refine sm_getR (r := R a0 27) (q := 31) dX12_begin_28 rfl fk_X12_82 hc1 (by decide) (by decide) rfl ?_
      refine sm_iload_n (q := 32) dX12_begin_31 rfl rfl 1 rfl ?_
      obtain ⟨hc9, h⟩ := sm_gd_e h
      refine sm_iald (n := (sm_kd (R a0 27)).2) (q := 33) dX12_begin_32 rfl (Prod.ext hc9.1 rfl) hc9.2 ?_
      refine sm_iload_n (q := 34) dX12_begin_33 rfl rfl 2 rfl ?_
      rcases sm_if_e h with ⟨hb10, h⟩ | ⟨hb10, h⟩
      · refine sm_icmp_ne (tgt := 43) (q := 37) dX12_begin_34 (by decide) rfl (fun hn => absurd hb10 hn) (fun _ => ?_)
        refine sm_aload_n (q := 38) dX12_begin_37 rfl rfl 0 rfl ?_
        refine sm_iconst (v := 1) (q := 39) dX12_begin_38 rfl (by decide) ?_
        obtain ⟨p11, hc_p11, h⟩ := sm_bd_e h
        refine sm_callVi (q := 42) (As := [.inl (1 : Int32)]) (S := []) (e_X12_refuse hc_p11) mv_X12_384 hc1 rfl (by decide) (Nat.le_of_ble_eq_true rfl) dX12_begin_39 rfl ?_
        obtain rfl := Option.some.inj h
        exact sm_iret dX12_begin_42 rfl
      · refine sm_icmp_ne (tgt := 43) (q := 37) dX12_begin_34 (by decide) rfl (fun _ => ?_) (fun he => absurd he hb10)
        refine sm_aload_n (q := 44) dX12_begin_43 rfl rfl 0 rfl ?_
        obtain ⟨p12, hc_p12, h⟩ := sm_bd_e h
        refine sm_callVv (q := 47) (As := []) (S := []) (e_X12_keep hc_p12) mv_X12_387 hc1 rfl (by decide) (Nat.le_of_ble_eq_true rfl) dX12_begin_44 rfl ?_
        refine sm_aload_n (q := 48) dX12_begin_47 rfl rfl 0 rfl ?_
        refine sm_getR (r := R a0 27) (q := 51) dX12_begin_48 rfl fk_X12_82 hc1 (by decide) (by decide) rfl ?_
        refine sm_iload_n (q := 52) dX12_begin_51 rfl rfl 1 rfl ?_
        refine sm_iald (n := (sm_kd (R a0 27)).2) (q := 53) dX12_begin_52 rfl (Prod.ext hc9.1 rfl) hc9.2 ?_
        refine sm_istore_n (L' := [(3, .inl (p12.2 (R a0 27) (a1).toNatClampNeg)), (0, .inr (.inl a0)), (1, .inl a1), (2, .inl a2)]) (q := 54) dX12_begin_53 rfl rfl (by decide) rfl ?_
        refine sm_aload_n (q := 55) dX12_begin_54 rfl rfl 1 rfl ?_
        refine sm_getR (r := R a0 27) (q := 58) dX12_begin_55 rfl fk_X12_82 hc1 (by decide) (by decide) rfl ?_
        refine sm_iload_n (q := 59) dX12_begin_58 rfl rfl 2 rfl ?_
        refine sm_iload_n (q := 60) dX12_begin_59 rfl rfl 3 rfl ?_
        obtain ⟨I13, hI13, h⟩ := sm_lt_e h
        refine sm_iast (n := (sm_kd (R a0 27)).2) (q := 61) dX12_begin_60 rfl (Prod.ext hc9.1 rfl) hc9.2 ?_
        refine sm_memI hI13 ?_
        refine sm_aload_n (q := 62) dX12_begin_61 rfl rfl 1 rfl ?_
        refine sm_getR (r := R a0 28) (q := 65) dX12_begin_62 rfl fk_X12_85 hc1 (by decide) (by decide) rfl ?_
        refine sm_iload_n (q := 66) dX12_begin_65 rfl rfl 2 rfl ?_
        refine sm_iconst (v := 0) (q := 67) dX12_begin_66 rfl (by decide) ?_
        obtain ⟨hc14, h⟩ := sm_gd_e h
        obtain ⟨I15, hI15, h⟩ := sm_lt_e h
        refine sm_iast (n := (sm_kd (R a0 28)).2) (q := 68) dX12_begin_67 rfl (Prod.ext hc14.1 rfl) hc14.2 ?_
        refine sm_memI hI15 ?_
        refine sm_iload_n (q := 69) dX12_begin_68 rfl rfl 0 rfl ?_
        obtain rfl := Option.some.inj h
        exact sm_iret dX12_begin_69 rfl
theorem e_X12_begin {l : Launch} {N : Nat} {R : Nat → Nat → Nat} {a0 : Nat} {a1 : Int32} {a2 : Int32} {I : (Nat → Nat → Int32)} {y : (Int32 × (Nat → Nat → Int32))} (h : f_X12_begin N R a0 a1 a2 I = some y) : sm_E l 2 mX12_begin [.inr (.inl a0), .inl a1, .inl a2] (I, R) (.inl (some (.inl y.1))) (y.2, R) :=
  sm_meth (by decide) (Nat.le_of_ble_eq_true rfl) (w_X12_begin N R a0 a1 a2 I y h)
def f_X12_pianos (N : Nat) (R : Nat → Nat → Nat) : Nat → Int32 → (Nat → Nat → Int32) → Option (Int32 × (Nat → Nat → Int32)) := fun a0 a1 I =>
  sm_gd (sm_kd a0 = (12, 59)) <|
  sm_lt (sm_up I a0 (sm_up (I a0) 3 (0 : Int32))) fun I2 =>
  (f_X12_isIn N R (Int32.toInt64 a1) (1 : Int64) (4 : Int64) I2).bind fun p3 =>
  if p3.1 = 0 then (
    (f_X12_refuse N R a0 (1 : Int32) p3.2).bind fun p5 =>
    some (p5.1, p5.2))
  else (
    (f_X12_keep N R a0 p3.2).bind fun p6 =>
    sm_lt (sm_up p6.2 a0 (sm_up (p6.2 a0) 32 a1)) fun I7 =>
    some ((p6.2 a0 32), I7))
set_option maxHeartbeats 4000000 in
set_option maxRecDepth 100000 in
theorem w_X12_pianos {l : Launch} (N : Nat) (R : Nat → Nat → Nat) : ∀ (a0 : Nat) (a1 : Int32) (I : (Nat → Nat → Int32)) (y : (Int32 × (Nat → Nat → Int32))), f_X12_pianos N R a0 a1 I = some y → sm_W l 2 mX12_pianos 0 [(0, .inr (.inl a0)), (1, .inl a1)] [] (I, R) (.inl (some (.inl y.1))) (y.2, R) := by
  intro a0 a1 I y h
  unfold f_X12_pianos at h
  refine sm_aload_n (q := 1) dX12_pianos_0 rfl rfl 0 rfl ?_
  refine sm_iconst (v := 0) (q := 2) dX12_pianos_1 rfl (by decide) ?_
  obtain ⟨hc1, h⟩ := sm_gd_e h
  obtain ⟨I2, hI2, h⟩ := sm_lt_e h
  refine sm_putI (q := 5) dX12_pianos_2 rfl fk_X12_152 hc1 (by decide) (by decide) ?_
  refine sm_memI hI2 ?_
  refine sm_iload_n (q := 6) dX12_pianos_5 rfl rfl 1 rfl ?_
  refine sm_i2l (v := (Int32.toInt64 a1)) (q := 7) dX12_pianos_6 rfl rfl ?_
  refine sm_lconst (v := 1) (q := 8) dX12_pianos_7 rfl (by decide) ?_
  refine sm_ldc2 (q := 11) dX12_pianos_8 rfl co_X12_398 ?_
  obtain ⟨p3, hc_p3, h⟩ := sm_bd_e h
  refine sm_callSi (q := 14) (As := [.inr (.inr (Int32.toInt64 a1)), .inr (.inr (1 : Int64)), .inr (.inr (4 : Int64))]) (S := []) (e_X12_isIn hc_p3) ms_X12_155 rfl (by decide) (Nat.le_of_ble_eq_true rfl) dX12_pianos_11 rfl ?_
  rcases sm_if_e h with ⟨hb4, h⟩ | ⟨hb4, h⟩
  · refine sm_if_ne (tgt := 23) (q := 17) dX12_pianos_14 (by decide) rfl (fun hn => absurd hb4 hn) (fun _ => ?_)
    refine sm_aload_n (q := 18) dX12_pianos_17 rfl rfl 0 rfl ?_
    refine sm_iconst (v := 1) (q := 19) dX12_pianos_18 rfl (by decide) ?_
    obtain ⟨p5, hc_p5, h⟩ := sm_bd_e h
    refine sm_callVi (q := 22) (As := [.inl (1 : Int32)]) (S := []) (e_X12_refuse hc_p5) mv_X12_384 hc1 rfl (by decide) (Nat.le_of_ble_eq_true rfl) dX12_pianos_19 rfl ?_
    obtain rfl := Option.some.inj h
    exact sm_iret dX12_pianos_22 rfl
  · refine sm_if_ne (tgt := 23) (q := 17) dX12_pianos_14 (by decide) rfl (fun _ => ?_) (fun he => absurd he hb4)
    refine sm_aload_n (q := 24) dX12_pianos_23 rfl rfl 0 rfl ?_
    obtain ⟨p6, hc_p6, h⟩ := sm_bd_e h
    refine sm_callVv (q := 27) (As := []) (S := []) (e_X12_keep hc_p6) mv_X12_387 hc1 rfl (by decide) (Nat.le_of_ble_eq_true rfl) dX12_pianos_24 rfl ?_
    refine sm_aload_n (q := 28) dX12_pianos_27 rfl rfl 0 rfl ?_
    refine sm_getI (q := 31) dX12_pianos_28 rfl fk_X12_149 hc1 (by decide) (by decide) ?_
    refine sm_istore_n (L' := [(2, .inl (p6.2 a0 32)), (0, .inr (.inl a0)), (1, .inl a1)]) (q := 32) dX12_pianos_31 rfl rfl (by decide) rfl ?_
    refine sm_aload_n (q := 33) dX12_pianos_32 rfl rfl 1 rfl ?_
    refine sm_iload_n (q := 34) dX12_pianos_33 rfl rfl 2 rfl ?_
    obtain ⟨I7, hI7, h⟩ := sm_lt_e h
    refine sm_putI (q := 37) dX12_pianos_34 rfl fk_X12_149 hc1 (by decide) (by decide) ?_
    refine sm_memI hI7 ?_
    refine sm_iload_n (q := 38) dX12_pianos_37 rfl rfl 0 rfl ?_
    obtain rfl := Option.some.inj h
    exact sm_iret dX12_pianos_38 rfl
theorem e_X12_pianos {l : Launch} {N : Nat} {R : Nat → Nat → Nat} {a0 : Nat} {a1 : Int32} {I : (Nat → Nat → Int32)} {y : (Int32 × (Nat → Nat → Int32))} (h : f_X12_pianos N R a0 a1 I = some y) : sm_E l 2 mX12_pianos [.inr (.inl a0), .inl a1] (I, R) (.inl (some (.inl y.1))) (y.2, R) :=
  sm_meth (by decide) (Nat.le_of_ble_eq_true rfl) (w_X12_pianos N R a0 a1 I y h)
def f_X12_undo (N : Nat) (R : Nat → Nat → Nat) : Nat → (Nat → Nat → Int32) → Option (Int32 × (Nat → Nat → Int32)) := fun a0 I =>
  sm_gd (sm_kd a0 = (12, 59)) <|
  sm_lt (sm_up I a0 (sm_up (I a0) 3 (0 : Int32))) fun I2 =>
  if (I2 a0 33) = 0 then (
    some ((-1 : Int32), I2))
  else (
    sm_lt (sm_up I2 a0 (sm_up (I2 a0) 33 ((I2 a0 33) - (1 : Int32)))) fun I4 =>
    (f_X12_unpack N R a0 (R a0 30) ((37 : Int32) * (I4 a0 33)) I4).bind fun p5 =>
    some ((p5.2 a0 33), p5.2))
set_option maxHeartbeats 4000000 in
set_option maxRecDepth 100000 in
theorem w_X12_undo {l : Launch} (N : Nat) (R : Nat → Nat → Nat) : ∀ (a0 : Nat) (I : (Nat → Nat → Int32)) (y : (Int32 × (Nat → Nat → Int32))), f_X12_undo N R a0 I = some y → sm_W l 1 mX12_undo 0 [(0, .inr (.inl a0))] [] (I, R) (.inl (some (.inl y.1))) (y.2, R) := by
  intro a0 I y h
  unfold f_X12_undo at h
  refine sm_aload_n (q := 1) dX12_undo_0 rfl rfl 0 rfl ?_
  refine sm_iconst (v := 0) (q := 2) dX12_undo_1 rfl (by decide) ?_
  obtain ⟨hc1, h⟩ := sm_gd_e h
  obtain ⟨I2, hI2, h⟩ := sm_lt_e h
  refine sm_putI (q := 5) dX12_undo_2 rfl fk_X12_152 hc1 (by decide) (by decide) ?_
  refine sm_memI hI2 ?_
  refine sm_aload_n (q := 6) dX12_undo_5 rfl rfl 0 rfl ?_
  refine sm_getI (q := 9) dX12_undo_6 rfl fk_X12_299 hc1 (by decide) (by decide) ?_
  rcases sm_if_e h with ⟨hb3, h⟩ | ⟨hb3, h⟩
  · refine sm_if_ne (tgt := 14) (q := 12) dX12_undo_9 (by decide) rfl (fun hn => absurd hb3 hn) (fun _ => ?_)
    refine sm_iconst (v := -1) (q := 13) dX12_undo_12 rfl (by decide) ?_
    obtain rfl := Option.some.inj h
    exact sm_iret dX12_undo_13 rfl
  · refine sm_if_ne (tgt := 14) (q := 12) dX12_undo_9 (by decide) rfl (fun _ => ?_) (fun he => absurd he hb3)
    refine sm_aload_n (q := 15) dX12_undo_14 rfl rfl 0 rfl ?_
    refine sm_dup (q := 16) dX12_undo_15 rfl rfl ?_
    refine sm_getI (q := 19) dX12_undo_16 rfl fk_X12_299 hc1 (by decide) (by decide) ?_
    refine sm_iconst (v := 1) (q := 20) dX12_undo_19 rfl (by decide) ?_
    refine sm_isub (q := 21) dX12_undo_20 rfl ?_
    obtain ⟨I4, hI4, h⟩ := sm_lt_e h
    refine sm_putI (q := 24) dX12_undo_21 rfl fk_X12_299 hc1 (by decide) (by decide) ?_
    refine sm_memI hI4 ?_
    refine sm_aload_n (q := 25) dX12_undo_24 rfl rfl 0 rfl ?_
    refine sm_aload_n (q := 26) dX12_undo_25 rfl rfl 0 rfl ?_
    refine sm_getR (r := R a0 30) (q := 29) dX12_undo_26 rfl fk_X12_89 hc1 (by decide) (by decide) rfl ?_
    refine sm_bipush (v := 37) (q := 31) dX12_undo_29 rfl (by decide) ?_
    refine sm_aload_n (q := 32) dX12_undo_31 rfl rfl 0 rfl ?_
    refine sm_getI (q := 35) dX12_undo_32 rfl fk_X12_299 hc1 (by decide) (by decide) ?_
    refine sm_imul (q := 36) dX12_undo_35 rfl ?_
    obtain ⟨p5, hc_p5, h⟩ := sm_bd_e h
    refine sm_callVv (q := 39) (As := [.inr (.inl (R a0 30)), .inl ((37 : Int32) * (I4 a0 33))]) (S := []) (e_X12_unpack hc_p5) mv_X12_400 hc1 rfl (by decide) (Nat.le_of_ble_eq_true rfl) dX12_undo_36 rfl ?_
    refine sm_aload_n (q := 40) dX12_undo_39 rfl rfl 0 rfl ?_
    refine sm_getI (q := 43) dX12_undo_40 rfl fk_X12_299 hc1 (by decide) (by decide) ?_
    obtain rfl := Option.some.inj h
    exact sm_iret dX12_undo_43 rfl
theorem e_X12_undo {l : Launch} {N : Nat} {R : Nat → Nat → Nat} {a0 : Nat} {I : (Nat → Nat → Int32)} {y : (Int32 × (Nat → Nat → Int32))} (h : f_X12_undo N R a0 I = some y) : sm_E l 1 mX12_undo [.inr (.inl a0)] (I, R) (.inl (some (.inl y.1))) (y.2, R) :=
  sm_meth (by decide) (Nat.le_of_ble_eq_true rfl) (w_X12_undo N R a0 I y h)
def f_X12_then (N : Nat) (R : Nat → Nat → Nat) : Nat → Int32 → Int32 → Int32 → (Nat → Nat → Int32) → Option (Int32 × (Nat → Nat → Int32)) := fun a0 a1 a2 a3 I =>
  sm_gd (sm_kd a0 = (12, 59)) <|
  sm_lt (sm_up I a0 (sm_up (I a0) 3 (0 : Int32))) fun I2 =>
  (f_X12_isPupil N R a0 a1 I2).bind fun p3 =>
  if p3.1 = 0 then (
    (f_X12_fail N R a0 (1 : Int32) p3.2).bind fun p5 =>
    some (p5.1, p5.2))
  else (
    (f_X12_isIn N R (Int32.toInt64 a3) (0 : Int64) (2 : Int64) p3.2).bind fun p6 =>
    if p6.1 = 0 then (
      (f_X12_fail N R a0 (1 : Int32) p6.2).bind fun p8 =>
      some (p8.1, p8.2))
    else (
      (f_X12_isIn N R (Int32.toInt64 a2) (0 : Int64) (60 : Int64) p6.2).bind fun p9 =>
      if p9.1 = 0 then (
        (f_X12_fail N R a0 (2 : Int32) p9.2).bind fun p11 =>
        some (p11.1, p11.2))
      else (
        (f_X12_pack N R a0 (R a0 37) (0 : Int32) p9.2).bind fun p12 =>
        (f_X12_goOn N R a0 a2 p12.2).bind fun p13 =>
        if a3 = 0 then (
          sm_gd ((sm_kd (R a0 25)).1 = 13 ∧ ¬ (a1 < 0 ∨ (sm_kd (R a0 25)).2 ≤ (a1).toNatClampNeg)) <|
          (f_X12_unpack N R a0 (R a0 37) (0 : Int32) p13.2).bind fun p16 =>
          some ((p13.2 (R a0 25) (a1).toNatClampNeg), p16.2))
        else (
          if a3 = (1 : Int32) then (
            sm_gd ((sm_kd (R a0 28)).1 = 13 ∧ ¬ (a1 < 0 ∨ (sm_kd (R a0 28)).2 ≤ (a1).toNatClampNeg)) <|
            (f_X12_unpack N R a0 (R a0 37) (0 : Int32) p13.2).bind fun p19 =>
            some ((p13.2 (R a0 28) (a1).toNatClampNeg), p19.2))
          else (
            sm_gd ((sm_kd (R a0 26)).1 = 13 ∧ ¬ (a1 < 0 ∨ (sm_kd (R a0 26)).2 ≤ (a1).toNatClampNeg)) <|
            (f_X12_unpack N R a0 (R a0 37) (0 : Int32) p13.2).bind fun p21 =>
            some ((p13.2 (R a0 26) (a1).toNatClampNeg), p21.2))))))
set_option maxHeartbeats 4000000 in
set_option maxRecDepth 100000 in
theorem w_X12_then {l : Launch} (N : Nat) (R : Nat → Nat → Nat) : ∀ (a0 : Nat) (a1 : Int32) (a2 : Int32) (a3 : Int32) (I : (Nat → Nat → Int32)) (y : (Int32 × (Nat → Nat → Int32))), f_X12_then N R a0 a1 a2 a3 I = some y → sm_W l 6 mX12_then 0 [(0, .inr (.inl a0)), (1, .inl a1), (2, .inl a2), (3, .inl a3)] [] (I, R) (.inl (some (.inl y.1))) (y.2, R) := by
  intro a0 a1 a2 a3 I y h
  unfold f_X12_then at h
  refine sm_aload_n (q := 1) dX12_then_0 rfl rfl 0 rfl ?_
  refine sm_iconst (v := 0) (q := 2) dX12_then_1 rfl (by decide) ?_
  obtain ⟨hc1, h⟩ := sm_gd_e h
  obtain ⟨I2, hI2, h⟩ := sm_lt_e h
  refine sm_putI (q := 5) dX12_then_2 rfl fk_X12_152 hc1 (by decide) (by decide) ?_
  refine sm_memI hI2 ?_
  refine sm_aload_n (q := 6) dX12_then_5 rfl rfl 0 rfl ?_
  refine sm_iload_n (q := 7) dX12_then_6 rfl rfl 1 rfl ?_
  obtain ⟨p3, hc_p3, h⟩ := sm_bd_e h
  refine sm_callVi (q := 10) (As := [.inl a1]) (S := []) (e_X12_isPupil hc_p3) mv_X12_375 hc1 rfl (by decide) (Nat.le_of_ble_eq_true rfl) dX12_then_7 rfl ?_
  rcases sm_if_e h with ⟨hb4, h⟩ | ⟨hb4, h⟩
  · refine sm_if_eq (tgt := 25) (q := 13) dX12_then_10 (by decide) rfl (fun _ => ?_) (fun hn => absurd hb4 hn)
    refine sm_aload_n (q := 26) dX12_then_25 rfl rfl 0 rfl ?_
    refine sm_iconst (v := 1) (q := 27) dX12_then_26 rfl (by decide) ?_
    obtain ⟨p5, hc_p5, h⟩ := sm_bd_e h
    refine sm_callVi (q := 30) (As := [.inl (1 : Int32)]) (S := []) (e_X12_fail hc_p5) mv_X12_283 hc1 rfl (by decide) (Nat.le_of_ble_eq_true rfl) dX12_then_27 rfl ?_
    obtain rfl := Option.some.inj h
    exact sm_iret dX12_then_30 rfl
  · refine sm_if_eq (tgt := 25) (q := 13) dX12_then_10 (by decide) rfl (fun ht => absurd ht hb4) (fun _ => ?_)
    refine sm_iload_n (q := 14) dX12_then_13 rfl rfl 3 rfl ?_
    refine sm_i2l (v := (Int32.toInt64 a3)) (q := 15) dX12_then_14 rfl rfl ?_
    refine sm_lconst (v := 0) (q := 16) dX12_then_15 rfl (by decide) ?_
    refine sm_ldc2 (q := 19) dX12_then_16 rfl co_X12_370 ?_
    obtain ⟨p6, hc_p6, h⟩ := sm_bd_e h
    refine sm_callSi (q := 22) (As := [.inr (.inr (Int32.toInt64 a3)), .inr (.inr (0 : Int64)), .inr (.inr (2 : Int64))]) (S := []) (e_X12_isIn hc_p6) ms_X12_155 rfl (by decide) (Nat.le_of_ble_eq_true rfl) dX12_then_19 rfl ?_
    rcases sm_if_e h with ⟨hb7, h⟩ | ⟨hb7, h⟩
    · refine sm_if_ne (tgt := 31) (q := 25) dX12_then_22 (by decide) rfl (fun hn => absurd hb7 hn) (fun _ => ?_)
      refine sm_aload_n (q := 26) dX12_then_25 rfl rfl 0 rfl ?_
      refine sm_iconst (v := 1) (q := 27) dX12_then_26 rfl (by decide) ?_
      obtain ⟨p8, hc_p8, h⟩ := sm_bd_e h
      refine sm_callVi (q := 30) (As := [.inl (1 : Int32)]) (S := []) (e_X12_fail hc_p8) mv_X12_283 hc1 rfl (by decide) (Nat.le_of_ble_eq_true rfl) dX12_then_27 rfl ?_
      obtain rfl := Option.some.inj h
      exact sm_iret dX12_then_30 rfl
    · refine sm_if_ne (tgt := 31) (q := 25) dX12_then_22 (by decide) rfl (fun _ => ?_) (fun he => absurd he hb7)
      refine sm_iload_n (q := 32) dX12_then_31 rfl rfl 2 rfl ?_
      refine sm_i2l (v := (Int32.toInt64 a2)) (q := 33) dX12_then_32 rfl rfl ?_
      refine sm_lconst (v := 0) (q := 34) dX12_then_33 rfl (by decide) ?_
      refine sm_ldc2 (q := 37) dX12_then_34 rfl co_X12_403 ?_
      obtain ⟨p9, hc_p9, h⟩ := sm_bd_e h
      refine sm_callSi (q := 40) (As := [.inr (.inr (Int32.toInt64 a2)), .inr (.inr (0 : Int64)), .inr (.inr (60 : Int64))]) (S := []) (e_X12_isIn hc_p9) ms_X12_155 rfl (by decide) (Nat.le_of_ble_eq_true rfl) dX12_then_37 rfl ?_
      rcases sm_if_e h with ⟨hb10, h⟩ | ⟨hb10, h⟩
      · refine sm_if_ne (tgt := 49) (q := 43) dX12_then_40 (by decide) rfl (fun hn => absurd hb10 hn) (fun _ => ?_)
        refine sm_aload_n (q := 44) dX12_then_43 rfl rfl 0 rfl ?_
        refine sm_iconst (v := 2) (q := 45) dX12_then_44 rfl (by decide) ?_
        obtain ⟨p11, hc_p11, h⟩ := sm_bd_e h
        refine sm_callVi (q := 48) (As := [.inl (2 : Int32)]) (S := []) (e_X12_fail hc_p11) mv_X12_283 hc1 rfl (by decide) (Nat.le_of_ble_eq_true rfl) dX12_then_45 rfl ?_
        obtain rfl := Option.some.inj h
        exact sm_iret dX12_then_48 rfl
      · refine sm_if_ne (tgt := 49) (q := 43) dX12_then_40 (by decide) rfl (fun _ => ?_) (fun he => absurd he hb10)
        refine sm_aload_n (q := 50) dX12_then_49 rfl rfl 0 rfl ?_
        refine sm_aload_n (q := 51) dX12_then_50 rfl rfl 0 rfl ?_
        refine sm_getR (r := R a0 37) (q := 54) dX12_then_51 rfl fk_X12_98 hc1 (by decide) (by decide) rfl ?_
        refine sm_iconst (v := 0) (q := 55) dX12_then_54 rfl (by decide) ?_
        obtain ⟨p12, hc_p12, h⟩ := sm_bd_e h
        refine sm_callVv (q := 58) (As := [.inr (.inl (R a0 37)), .inl (0 : Int32)]) (S := []) (e_X12_pack hc_p12) mv_X12_378 hc1 rfl (by decide) (Nat.le_of_ble_eq_true rfl) dX12_then_55 rfl ?_
        refine sm_aload_n (q := 59) dX12_then_58 rfl rfl 0 rfl ?_
        refine sm_iload_n (q := 60) dX12_then_59 rfl rfl 2 rfl ?_
        obtain ⟨p13, hc_p13, h⟩ := sm_bd_e h
        refine sm_callVv (q := 63) (As := [.inl a2]) (S := []) (e_X12_goOn hc_p13) mv_X12_390 hc1 rfl (by decide) (Nat.le_of_ble_eq_true rfl) dX12_then_60 rfl ?_
        refine sm_iload_n (q := 64) dX12_then_63 rfl rfl 3 rfl ?_
        rcases sm_if_e h with ⟨hb14, h⟩ | ⟨hb14, h⟩
        · refine sm_if_ne (tgt := 76) (q := 67) dX12_then_64 (by decide) rfl (fun hn => absurd hb14 hn) (fun _ => ?_)
          refine sm_aload_n (q := 68) dX12_then_67 rfl rfl 0 rfl ?_
          refine sm_getR (r := R a0 25) (q := 71) dX12_then_68 rfl fk_X12_76 hc1 (by decide) (by decide) rfl ?_
          refine sm_iload_n (q := 72) dX12_then_71 rfl rfl 1 rfl ?_
          obtain ⟨hc15, h⟩ := sm_gd_e h
          refine sm_iald (n := (sm_kd (R a0 25)).2) (q := 73) dX12_then_72 rfl (Prod.ext hc15.1 rfl) hc15.2 ?_
          refine sm_goto (q := 96) dX12_then_73 (by decide) ?_
          refine sm_istore (L' := [(4, .inl (p13.2 (R a0 25) (a1).toNatClampNeg)), (0, .inr (.inl a0)), (1, .inl a1), (2, .inl a2), (3, .inl a3)]) (q := 98) dX12_then_96 rfl (by decide) rfl ?_
          refine sm_aload_n (q := 99) dX12_then_98 rfl rfl 1 rfl ?_
          refine sm_aload_n (q := 100) dX12_then_99 rfl rfl 1 rfl ?_
          refine sm_getR (r := R a0 37) (q := 103) dX12_then_100 rfl fk_X12_98 hc1 (by decide) (by decide) rfl ?_
          refine sm_iconst (v := 0) (q := 104) dX12_then_103 rfl (by decide) ?_
          obtain ⟨p16, hc_p16, h⟩ := sm_bd_e h
          refine sm_callVv (q := 107) (As := [.inr (.inl (R a0 37)), .inl (0 : Int32)]) (S := []) (e_X12_unpack hc_p16) mv_X12_400 hc1 rfl (by decide) (Nat.le_of_ble_eq_true rfl) dX12_then_104 rfl ?_
          refine sm_iload (q := 109) dX12_then_107 rfl 0 rfl ?_
          obtain rfl := Option.some.inj h
          exact sm_iret dX12_then_109 rfl
        · refine sm_if_ne (tgt := 76) (q := 67) dX12_then_64 (by decide) rfl (fun _ => ?_) (fun he => absurd he hb14)
          refine sm_iload_n (q := 77) dX12_then_76 rfl rfl 3 rfl ?_
          refine sm_iconst (v := 1) (q := 78) dX12_then_77 rfl (by decide) ?_
          rcases sm_if_e h with ⟨hb17, h⟩ | ⟨hb17, h⟩
          · refine sm_icmp_ne (tgt := 90) (q := 81) dX12_then_78 (by decide) rfl (fun hn => absurd hb17 hn) (fun _ => ?_)
            refine sm_aload_n (q := 82) dX12_then_81 rfl rfl 0 rfl ?_
            refine sm_getR (r := R a0 28) (q := 85) dX12_then_82 rfl fk_X12_85 hc1 (by decide) (by decide) rfl ?_
            refine sm_iload_n (q := 86) dX12_then_85 rfl rfl 1 rfl ?_
            obtain ⟨hc18, h⟩ := sm_gd_e h
            refine sm_iald (n := (sm_kd (R a0 28)).2) (q := 87) dX12_then_86 rfl (Prod.ext hc18.1 rfl) hc18.2 ?_
            refine sm_goto (q := 96) dX12_then_87 (by decide) ?_
            refine sm_istore (L' := [(4, .inl (p13.2 (R a0 28) (a1).toNatClampNeg)), (0, .inr (.inl a0)), (1, .inl a1), (2, .inl a2), (3, .inl a3)]) (q := 98) dX12_then_96 rfl (by decide) rfl ?_
            refine sm_aload_n (q := 99) dX12_then_98 rfl rfl 1 rfl ?_
            refine sm_aload_n (q := 100) dX12_then_99 rfl rfl 1 rfl ?_
            refine sm_getR (r := R a0 37) (q := 103) dX12_then_100 rfl fk_X12_98 hc1 (by decide) (by decide) rfl ?_
            refine sm_iconst (v := 0) (q := 104) dX12_then_103 rfl (by decide) ?_
            obtain ⟨p19, hc_p19, h⟩ := sm_bd_e h
            refine sm_callVv (q := 107) (As := [.inr (.inl (R a0 37)), .inl (0 : Int32)]) (S := []) (e_X12_unpack hc_p19) mv_X12_400 hc1 rfl (by decide) (Nat.le_of_ble_eq_true rfl) dX12_then_104 rfl ?_
            refine sm_iload (q := 109) dX12_then_107 rfl 0 rfl ?_
            obtain rfl := Option.some.inj h
            exact sm_iret dX12_then_109 rfl
          · refine sm_icmp_ne (tgt := 90) (q := 81) dX12_then_78 (by decide) rfl (fun _ => ?_) (fun he => absurd he hb17)
            refine sm_aload_n (q := 91) dX12_then_90 rfl rfl 0 rfl ?_
            refine sm_getR (r := R a0 26) (q := 94) dX12_then_91 rfl fk_X12_79 hc1 (by decide) (by decide) rfl ?_
            refine sm_iload_n (q := 95) dX12_then_94 rfl rfl 1 rfl ?_
            obtain ⟨hc20, h⟩ := sm_gd_e h
            refine sm_iald (n := (sm_kd (R a0 26)).2) (q := 96) dX12_then_95 rfl (Prod.ext hc20.1 rfl) hc20.2 ?_
            refine sm_istore (L' := [(4, .inl (p13.2 (R a0 26) (a1).toNatClampNeg)), (0, .inr (.inl a0)), (1, .inl a1), (2, .inl a2), (3, .inl a3)]) (q := 98) dX12_then_96 rfl (by decide) rfl ?_
            refine sm_aload_n (q := 99) dX12_then_98 rfl rfl 1 rfl ?_
            refine sm_aload_n (q := 100) dX12_then_99 rfl rfl 1 rfl ?_
            refine sm_getR (r := R a0 37) (q := 103) dX12_then_100 rfl fk_X12_98 hc1 (by decide) (by decide) rfl ?_
            refine sm_iconst (v := 0) (q := 104) dX12_then_103 rfl (by decide) ?_
            obtain ⟨p21, hc_p21, h⟩ := sm_bd_e h
            refine sm_callVv (q := 107) (As := [.inr (.inl (R a0 37)), .inl (0 : Int32)]) (S := []) (e_X12_unpack hc_p21) mv_X12_400 hc1 rfl (by decide) (Nat.le_of_ble_eq_true rfl) dX12_then_104 rfl ?_
            refine sm_iload (q := 109) dX12_then_107 rfl 0 rfl ?_
            obtain rfl := Option.some.inj h
            exact sm_iret dX12_then_109 rfl
theorem e_X12_then {l : Launch} {N : Nat} {R : Nat → Nat → Nat} {a0 : Nat} {a1 : Int32} {a2 : Int32} {a3 : Int32} {I : (Nat → Nat → Int32)} {y : (Int32 × (Nat → Nat → Int32))} (h : f_X12_then N R a0 a1 a2 a3 I = some y) : sm_E l 6 mX12_then [.inr (.inl a0), .inl a1, .inl a2, .inl a3] (I, R) (.inl (some (.inl y.1))) (y.2, R) :=
  sm_meth (by decide) (Nat.le_of_ble_eq_true rfl) (w_X12_then N R a0 a1 a2 a3 I y h)
def f_X12_done_32 (N : Nat) (R : Nat → Nat → Nat) : Nat → Nat → Int32 → Int32 → Int32 → (Nat → Nat → Int32) → Option (Int32 × (Nat → Nat → Int32))
  | 0, _, _, _, _, _ => none
  | n + 1, a0, a1, a2, a3, I =>
    if (60 : Int32) < a3 then (
      sm_gd (sm_kd a0 = (12, 59)) <|
      (f_X12_unpack N R a0 (R a0 37) (0 : Int32) I).bind fun p3 =>
      some (a2, p3.2))
    else (
      if a2 = (-1 : Int32) then (
        sm_gd (sm_kd a0 = (12, 59)) <|
        (f_X12_isDone N R a0 a1 I).bind fun p6 =>
        if p6.1 = 0 then (
          (f_X12_aWeek N R a0 p6.2).bind fun p8 =>
          f_X12_done_32 N R n a0 a1 a2 (a3 + 1) p8.2)
        else (
          (f_X12_aWeek N R a0 p6.2).bind fun p9 =>
          f_X12_done_32 N R n a0 a1 a3 (a3 + 1) p9.2))
      else (
        sm_gd (sm_kd a0 = (12, 59)) <|
        (f_X12_unpack N R a0 (R a0 37) (0 : Int32) I).bind fun p11 =>
        some (a2, p11.2)))
def f_X12_done (N : Nat) (R : Nat → Nat → Nat) : Nat → Int32 → (Nat → Nat → Int32) → Option (Int32 × (Nat → Nat → Int32)) := fun a0 a1 I =>
  sm_gd (sm_kd a0 = (12, 59)) <|
  sm_lt (sm_up I a0 (sm_up (I a0) 3 (0 : Int32))) fun I2 =>
  (f_X12_isPupil N R a0 a1 I2).bind fun p3 =>
  if p3.1 = 0 then (
    (f_X12_fail N R a0 (1 : Int32) p3.2).bind fun p5 =>
    some (p5.1, p5.2))
  else (
    (f_X12_pack N R a0 (R a0 37) (0 : Int32) p3.2).bind fun p6 =>
    f_X12_done_32 N R N a0 a1 (-1 : Int32) (0 : Int32) p6.2)
set_option maxHeartbeats 4000000 in
set_option maxRecDepth 100000 in
theorem w_X12_done_32 {l : Launch} (N : Nat) (R : Nat → Nat → Nat) : ∀ (n : Nat) (a0 : Nat) (a1 : Int32) (a2 : Int32) (a3 : Int32) (I : (Nat → Nat → Int32)) (y : (Int32 × (Nat → Nat → Int32))), f_X12_done_32 N R n a0 a1 a2 a3 I = some y → sm_W l 5 mX12_done 32 [(0, .inr (.inl a0)), (1, .inl a1), (2, .inl a2), (3, .inl a3)] [] (I, R) (.inl (some (.inl y.1))) (y.2, R) := by
  intro n
  induction n with
  | zero => intro a0 a1 a2 a3 I y h; cases h
  | succ n ih =>
    intro a0 a1 a2 a3 I y h
    rw [f_X12_done_32] at h
    refine sm_iload_n (q := 33) dX12_done_32 rfl rfl 3 rfl ?_
    refine sm_bipush (v := 60) (q := 35) dX12_done_33 rfl (by decide) ?_
    rcases sm_if_e h with ⟨hb1, h⟩ | ⟨hb1, h⟩
    · refine sm_icmp_gt (tgt := 63) (q := 38) dX12_done_35 (by decide) rfl (fun _ => ?_) (fun hn => absurd hb1 hn)
      refine sm_aload_n (q := 64) dX12_done_63 rfl rfl 0 rfl ?_
      refine sm_aload_n (q := 65) dX12_done_64 rfl rfl 0 rfl ?_
      obtain ⟨hc2, h⟩ := sm_gd_e h
      refine sm_getR (r := R a0 37) (q := 68) dX12_done_65 rfl fk_X12_98 hc2 (by decide) (by decide) rfl ?_
      refine sm_iconst (v := 0) (q := 69) dX12_done_68 rfl (by decide) ?_
      obtain ⟨p3, hc_p3, h⟩ := sm_bd_e h
      refine sm_callVv (q := 72) (As := [.inr (.inl (R a0 37)), .inl (0 : Int32)]) (S := []) (e_X12_unpack hc_p3) mv_X12_400 hc2 rfl (by decide) (Nat.le_of_ble_eq_true rfl) dX12_done_69 rfl ?_
      refine sm_iload_n (q := 73) dX12_done_72 rfl rfl 2 rfl ?_
      obtain rfl := Option.some.inj h
      exact sm_iret dX12_done_73 rfl
    · refine sm_icmp_gt (tgt := 63) (q := 38) dX12_done_35 (by decide) rfl (fun ht => absurd ht hb1) (fun _ => ?_)
      refine sm_iload_n (q := 39) dX12_done_38 rfl rfl 2 rfl ?_
      refine sm_iconst (v := -1) (q := 40) dX12_done_39 rfl (by decide) ?_
      rcases sm_if_e h with ⟨hb4, h⟩ | ⟨hb4, h⟩
      · refine sm_icmp_ne (tgt := 63) (q := 43) dX12_done_40 (by decide) rfl (fun hn => absurd hb4 hn) (fun _ => ?_)
        refine sm_aload_n (q := 44) dX12_done_43 rfl rfl 0 rfl ?_
        refine sm_iload_n (q := 45) dX12_done_44 rfl rfl 1 rfl ?_
        obtain ⟨hc5, h⟩ := sm_gd_e h
        obtain ⟨p6, hc_p6, h⟩ := sm_bd_e h
        refine sm_callVi (q := 48) (As := [.inl a1]) (S := []) (e_X12_isDone hc_p6) mv_X12_313 hc5 rfl (by decide) (Nat.le_of_ble_eq_true rfl) dX12_done_45 rfl ?_
        rcases sm_if_e h with ⟨hb7, h⟩ | ⟨hb7, h⟩
        · refine sm_if_eq (tgt := 53) (q := 51) dX12_done_48 (by decide) rfl (fun _ => ?_) (fun hn => absurd hb7 hn)
          refine sm_aload_n (q := 54) dX12_done_53 rfl rfl 0 rfl ?_
          obtain ⟨p8, hc_p8, h⟩ := sm_bd_e h
          refine sm_callVv (q := 57) (As := []) (S := []) (e_X12_aWeek hc_p8) mv_X12_346 hc5 rfl (by decide) (Nat.le_of_ble_eq_true rfl) dX12_done_54 rfl ?_
          refine sm_iinc (v := (a3 + 1)) (L' := [(3, .inl (a3 + 1)), (0, .inr (.inl a0)), (1, .inl a1), (2, .inl a2)]) (q := 60) dX12_done_57 rfl 3 rfl rfl (by decide) rfl ?_
          refine sm_goto (q := 32) dX12_done_60 (by decide) ?_
          refine sm_pick [1, 2, 3, 0] rfl ?_
          exact ih _ _ _ _ _ _ h
        · refine sm_if_eq (tgt := 53) (q := 51) dX12_done_48 (by decide) rfl (fun ht => absurd ht hb7) (fun _ => ?_)
          refine sm_iload_n (q := 52) dX12_done_51 rfl rfl 3 rfl ?_
          refine sm_istore_n (L' := [(2, .inl a3), (0, .inr (.inl a0)), (1, .inl a1), (3, .inl a3)]) (q := 53) dX12_done_52 rfl rfl (by decide) rfl ?_
          refine sm_aload_n (q := 54) dX12_done_53 rfl rfl 1 rfl ?_
          obtain ⟨p9, hc_p9, h⟩ := sm_bd_e h
          refine sm_callVv (q := 57) (As := []) (S := []) (e_X12_aWeek hc_p9) mv_X12_346 hc5 rfl (by decide) (Nat.le_of_ble_eq_true rfl) dX12_done_54 rfl ?_
          refine sm_iinc (v := (a3 + 1)) (L' := [(3, .inl (a3 + 1)), (2, .inl a3), (0, .inr (.inl a0)), (1, .inl a1)]) (q := 60) dX12_done_57 rfl 3 rfl rfl (by decide) rfl ?_
          refine sm_goto (q := 32) dX12_done_60 (by decide) ?_
          refine sm_pick [2, 3, 1, 0] rfl ?_
          exact ih _ _ _ _ _ _ h
      · refine sm_icmp_ne (tgt := 63) (q := 43) dX12_done_40 (by decide) rfl (fun _ => ?_) (fun he => absurd he hb4)
        refine sm_aload_n (q := 64) dX12_done_63 rfl rfl 0 rfl ?_
        refine sm_aload_n (q := 65) dX12_done_64 rfl rfl 0 rfl ?_
        obtain ⟨hc10, h⟩ := sm_gd_e h
        refine sm_getR (r := R a0 37) (q := 68) dX12_done_65 rfl fk_X12_98 hc10 (by decide) (by decide) rfl ?_
        refine sm_iconst (v := 0) (q := 69) dX12_done_68 rfl (by decide) ?_
        obtain ⟨p11, hc_p11, h⟩ := sm_bd_e h
        refine sm_callVv (q := 72) (As := [.inr (.inl (R a0 37)), .inl (0 : Int32)]) (S := []) (e_X12_unpack hc_p11) mv_X12_400 hc10 rfl (by decide) (Nat.le_of_ble_eq_true rfl) dX12_done_69 rfl ?_
        refine sm_iload_n (q := 73) dX12_done_72 rfl rfl 2 rfl ?_
        obtain rfl := Option.some.inj h
        exact sm_iret dX12_done_73 rfl
set_option maxHeartbeats 4000000 in
set_option maxRecDepth 100000 in
theorem w_X12_done {l : Launch} (N : Nat) (R : Nat → Nat → Nat) : ∀ (a0 : Nat) (a1 : Int32) (I : (Nat → Nat → Int32)) (y : (Int32 × (Nat → Nat → Int32))), f_X12_done N R a0 a1 I = some y → sm_W l 5 mX12_done 0 [(0, .inr (.inl a0)), (1, .inl a1)] [] (I, R) (.inl (some (.inl y.1))) (y.2, R) := by
  intro a0 a1 I y h
  unfold f_X12_done at h
  refine sm_aload_n (q := 1) dX12_done_0 rfl rfl 0 rfl ?_
  refine sm_iconst (v := 0) (q := 2) dX12_done_1 rfl (by decide) ?_
  obtain ⟨hc1, h⟩ := sm_gd_e h
  obtain ⟨I2, hI2, h⟩ := sm_lt_e h
  refine sm_putI (q := 5) dX12_done_2 rfl fk_X12_152 hc1 (by decide) (by decide) ?_
  refine sm_memI hI2 ?_
  refine sm_aload_n (q := 6) dX12_done_5 rfl rfl 0 rfl ?_
  refine sm_iload_n (q := 7) dX12_done_6 rfl rfl 1 rfl ?_
  obtain ⟨p3, hc_p3, h⟩ := sm_bd_e h
  refine sm_callVi (q := 10) (As := [.inl a1]) (S := []) (e_X12_isPupil hc_p3) mv_X12_375 hc1 rfl (by decide) (Nat.le_of_ble_eq_true rfl) dX12_done_7 rfl ?_
  rcases sm_if_e h with ⟨hb4, h⟩ | ⟨hb4, h⟩
  · refine sm_if_ne (tgt := 19) (q := 13) dX12_done_10 (by decide) rfl (fun hn => absurd hb4 hn) (fun _ => ?_)
    refine sm_aload_n (q := 14) dX12_done_13 rfl rfl 0 rfl ?_
    refine sm_iconst (v := 1) (q := 15) dX12_done_14 rfl (by decide) ?_
    obtain ⟨p5, hc_p5, h⟩ := sm_bd_e h
    refine sm_callVi (q := 18) (As := [.inl (1 : Int32)]) (S := []) (e_X12_fail hc_p5) mv_X12_283 hc1 rfl (by decide) (Nat.le_of_ble_eq_true rfl) dX12_done_15 rfl ?_
    obtain rfl := Option.some.inj h
    exact sm_iret dX12_done_18 rfl
  · refine sm_if_ne (tgt := 19) (q := 13) dX12_done_10 (by decide) rfl (fun _ => ?_) (fun he => absurd he hb4)
    refine sm_aload_n (q := 20) dX12_done_19 rfl rfl 0 rfl ?_
    refine sm_aload_n (q := 21) dX12_done_20 rfl rfl 0 rfl ?_
    refine sm_getR (r := R a0 37) (q := 24) dX12_done_21 rfl fk_X12_98 hc1 (by decide) (by decide) rfl ?_
    refine sm_iconst (v := 0) (q := 25) dX12_done_24 rfl (by decide) ?_
    obtain ⟨p6, hc_p6, h⟩ := sm_bd_e h
    refine sm_callVv (q := 28) (As := [.inr (.inl (R a0 37)), .inl (0 : Int32)]) (S := []) (e_X12_pack hc_p6) mv_X12_378 hc1 rfl (by decide) (Nat.le_of_ble_eq_true rfl) dX12_done_25 rfl ?_
    refine sm_iconst (v := -1) (q := 29) dX12_done_28 rfl (by decide) ?_
    refine sm_istore_n (L' := [(2, .inl (-1 : Int32)), (0, .inr (.inl a0)), (1, .inl a1)]) (q := 30) dX12_done_29 rfl rfl (by decide) rfl ?_
    refine sm_iconst (v := 0) (q := 31) dX12_done_30 rfl (by decide) ?_
    refine sm_istore_n (L' := [(3, .inl (0 : Int32)), (2, .inl (-1 : Int32)), (0, .inr (.inl a0)), (1, .inl a1)]) (q := 32) dX12_done_31 rfl rfl (by decide) rfl ?_
    refine sm_pick [2, 3, 1, 0] rfl ?_
    exact w_X12_done_32 N R N _ _ _ _ _ _ h
theorem e_X12_done {l : Launch} {N : Nat} {R : Nat → Nat → Nat} {a0 : Nat} {a1 : Int32} {I : (Nat → Nat → Int32)} {y : (Int32 × (Nat → Nat → Int32))} (h : f_X12_done N R a0 a1 I = some y) : sm_E l 5 mX12_done [.inr (.inl a0), .inl a1] (I, R) (.inl (some (.inl y.1))) (y.2, R) :=
  sm_meth (by decide) (Nat.le_of_ble_eq_true rfl) (w_X12_done N R a0 a1 I y h)
def f_X12_heard (N : Nat) (R : Nat → Nat → Nat) : Nat → Int32 → (Nat → Nat → Int32) → Option (Int32 × (Nat → Nat → Int32)) := fun a0 a1 I =>
  sm_gd (sm_kd a0 = (12, 59)) <|
  sm_lt (sm_up I a0 (sm_up (I a0) 3 (0 : Int32))) fun I2 =>
  (f_X12_isIn N R (Int32.toInt64 a1) (0 : Int64) (60 : Int64) I2).bind fun p3 =>
  if p3.1 = 0 then (
    (f_X12_fail N R a0 (1 : Int32) p3.2).bind fun p5 =>
    some (p5.1, p5.2))
  else (
    (f_X12_pack N R a0 (R a0 37) (0 : Int32) p3.2).bind fun p6 =>
    (f_X12_allBars N R a0 p6.2).bind fun p7 =>
    (f_X12_goOn N R a0 a1 p7.2).bind fun p8 =>
    (f_X12_allBars N R a0 p8.2).bind fun p9 =>
    (f_X12_unpack N R a0 (R a0 37) (0 : Int32) p9.2).bind fun p10 =>
    some ((p9.1 - p7.1), p10.2))
set_option maxHeartbeats 4000000 in
set_option maxRecDepth 100000 in
theorem w_X12_heard {l : Launch} (N : Nat) (R : Nat → Nat → Nat) : ∀ (a0 : Nat) (a1 : Int32) (I : (Nat → Nat → Int32)) (y : (Int32 × (Nat → Nat → Int32))), f_X12_heard N R a0 a1 I = some y → sm_W l 6 mX12_heard 0 [(0, .inr (.inl a0)), (1, .inl a1)] [] (I, R) (.inl (some (.inl y.1))) (y.2, R) := by
  intro a0 a1 I y h
  unfold f_X12_heard at h
  refine sm_aload_n (q := 1) dX12_heard_0 rfl rfl 0 rfl ?_
  refine sm_iconst (v := 0) (q := 2) dX12_heard_1 rfl (by decide) ?_
  obtain ⟨hc1, h⟩ := sm_gd_e h
  obtain ⟨I2, hI2, h⟩ := sm_lt_e h
  refine sm_putI (q := 5) dX12_heard_2 rfl fk_X12_152 hc1 (by decide) (by decide) ?_
  refine sm_memI hI2 ?_
  refine sm_iload_n (q := 6) dX12_heard_5 rfl rfl 1 rfl ?_
  refine sm_i2l (v := (Int32.toInt64 a1)) (q := 7) dX12_heard_6 rfl rfl ?_
  refine sm_lconst (v := 0) (q := 8) dX12_heard_7 rfl (by decide) ?_
  refine sm_ldc2 (q := 11) dX12_heard_8 rfl co_X12_403 ?_
  obtain ⟨p3, hc_p3, h⟩ := sm_bd_e h
  refine sm_callSi (q := 14) (As := [.inr (.inr (Int32.toInt64 a1)), .inr (.inr (0 : Int64)), .inr (.inr (60 : Int64))]) (S := []) (e_X12_isIn hc_p3) ms_X12_155 rfl (by decide) (Nat.le_of_ble_eq_true rfl) dX12_heard_11 rfl ?_
  rcases sm_if_e h with ⟨hb4, h⟩ | ⟨hb4, h⟩
  · refine sm_if_ne (tgt := 23) (q := 17) dX12_heard_14 (by decide) rfl (fun hn => absurd hb4 hn) (fun _ => ?_)
    refine sm_aload_n (q := 18) dX12_heard_17 rfl rfl 0 rfl ?_
    refine sm_iconst (v := 1) (q := 19) dX12_heard_18 rfl (by decide) ?_
    obtain ⟨p5, hc_p5, h⟩ := sm_bd_e h
    refine sm_callVi (q := 22) (As := [.inl (1 : Int32)]) (S := []) (e_X12_fail hc_p5) mv_X12_283 hc1 rfl (by decide) (Nat.le_of_ble_eq_true rfl) dX12_heard_19 rfl ?_
    obtain rfl := Option.some.inj h
    exact sm_iret dX12_heard_22 rfl
  · refine sm_if_ne (tgt := 23) (q := 17) dX12_heard_14 (by decide) rfl (fun _ => ?_) (fun he => absurd he hb4)
    refine sm_aload_n (q := 24) dX12_heard_23 rfl rfl 0 rfl ?_
    refine sm_aload_n (q := 25) dX12_heard_24 rfl rfl 0 rfl ?_
    refine sm_getR (r := R a0 37) (q := 28) dX12_heard_25 rfl fk_X12_98 hc1 (by decide) (by decide) rfl ?_
    refine sm_iconst (v := 0) (q := 29) dX12_heard_28 rfl (by decide) ?_
    obtain ⟨p6, hc_p6, h⟩ := sm_bd_e h
    refine sm_callVv (q := 32) (As := [.inr (.inl (R a0 37)), .inl (0 : Int32)]) (S := []) (e_X12_pack hc_p6) mv_X12_378 hc1 rfl (by decide) (Nat.le_of_ble_eq_true rfl) dX12_heard_29 rfl ?_
    refine sm_aload_n (q := 33) dX12_heard_32 rfl rfl 0 rfl ?_
    obtain ⟨p7, hc_p7, h⟩ := sm_bd_e h
    refine sm_callVi (q := 36) (As := []) (S := []) (e_X12_allBars hc_p7) mv_X12_405 hc1 rfl (by decide) (Nat.le_of_ble_eq_true rfl) dX12_heard_33 rfl ?_
    refine sm_istore_n (L' := [(2, .inl p7.1), (0, .inr (.inl a0)), (1, .inl a1)]) (q := 37) dX12_heard_36 rfl rfl (by decide) rfl ?_
    refine sm_aload_n (q := 38) dX12_heard_37 rfl rfl 1 rfl ?_
    refine sm_iload_n (q := 39) dX12_heard_38 rfl rfl 2 rfl ?_
    obtain ⟨p8, hc_p8, h⟩ := sm_bd_e h
    refine sm_callVv (q := 42) (As := [.inl a1]) (S := []) (e_X12_goOn hc_p8) mv_X12_390 hc1 rfl (by decide) (Nat.le_of_ble_eq_true rfl) dX12_heard_39 rfl ?_
    refine sm_aload_n (q := 43) dX12_heard_42 rfl rfl 1 rfl ?_
    obtain ⟨p9, hc_p9, h⟩ := sm_bd_e h
    refine sm_callVi (q := 46) (As := []) (S := []) (e_X12_allBars hc_p9) mv_X12_405 hc1 rfl (by decide) (Nat.le_of_ble_eq_true rfl) dX12_heard_43 rfl ?_
    refine sm_iload_n (q := 47) dX12_heard_46 rfl rfl 0 rfl ?_
    refine sm_isub (q := 48) dX12_heard_47 rfl ?_
    refine sm_istore_n (L' := [(3, .inl (p9.1 - p7.1)), (2, .inl p7.1), (0, .inr (.inl a0)), (1, .inl a1)]) (q := 49) dX12_heard_48 rfl rfl (by decide) rfl ?_
    refine sm_aload_n (q := 50) dX12_heard_49 rfl rfl 2 rfl ?_
    refine sm_aload_n (q := 51) dX12_heard_50 rfl rfl 2 rfl ?_
    refine sm_getR (r := R a0 37) (q := 54) dX12_heard_51 rfl fk_X12_98 hc1 (by decide) (by decide) rfl ?_
    refine sm_iconst (v := 0) (q := 55) dX12_heard_54 rfl (by decide) ?_
    obtain ⟨p10, hc_p10, h⟩ := sm_bd_e h
    refine sm_callVv (q := 58) (As := [.inr (.inl (R a0 37)), .inl (0 : Int32)]) (S := []) (e_X12_unpack hc_p10) mv_X12_400 hc1 rfl (by decide) (Nat.le_of_ble_eq_true rfl) dX12_heard_55 rfl ?_
    refine sm_iload_n (q := 59) dX12_heard_58 rfl rfl 0 rfl ?_
    obtain rfl := Option.some.inj h
    exact sm_iret dX12_heard_59 rfl
theorem e_X12_heard {l : Launch} {N : Nat} {R : Nat → Nat → Nat} {a0 : Nat} {a1 : Int32} {I : (Nat → Nat → Int32)} {y : (Int32 × (Nat → Nat → Int32))} (h : f_X12_heard N R a0 a1 I = some y) : sm_E l 6 mX12_heard [.inr (.inl a0), .inl a1] (I, R) (.inl (some (.inl y.1))) (y.2, R) :=
  sm_meth (by decide) (Nat.le_of_ble_eq_true rfl) (w_X12_heard N R a0 a1 I y h)
