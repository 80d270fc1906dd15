def f_X12_thrown (N : Nat) (R : Nat → Nat → Nat) : Nat → (Nat → Nat → Int32) → Option (Int32 × (Nat → Nat → Int32)) := fun a0 I =>
  sm_gd (sm_kd a0 = (12, 59)) <|
  some ((I a0 3), I)
set_option maxHeartbeats 4000000 in
set_option maxRecDepth 100000 in
theorem w_X12_thrown {l : Launch} (N : Nat) (R : Nat → Nat → Nat) : ∀ (a0 : Nat) (I : (Nat → Nat → Int32)) (y : (Int32 × (Nat → Nat → Int32))), f_X12_thrown N R a0 I = some y → sm_W l 0 mX12_thrown 0 [(0, .inr (.inl a0))] [] (I, R) (.inl (some (.inl y.1))) (y.2, R) := by
  intro a0 I y h
  unfold f_X12_thrown at h
  refine sm_aload_n (q := 1) dX12_thrown_0 rfl rfl 0 rfl ?_
  obtain ⟨hc1, h⟩ := sm_gd_e h
  refine sm_getI (q := 4) dX12_thrown_1 rfl fk_X12_152 hc1 (by decide) (by decide) ?_
  obtain rfl := Option.some.inj h
  exact sm_iret dX12_thrown_4 rfl
theorem e_X12_thrown {l : Launch} {N : Nat} {R : Nat → Nat → Nat} {a0 : Nat} {I : (Nat → Nat → Int32)} {y : (Int32 × (Nat → Nat → Int32))} (h : f_X12_thrown N R a0 I = some y) : sm_E l 0 mX12_thrown [.inr (.inl a0)] (I, R) (.inl (some (.inl y.1))) (y.2, R) :=
  sm_meth (by decide) (Nat.le_of_ble_eq_true rfl) (w_X12_thrown N R a0 I y h)
def f_X12_fail (N : Nat) (R : Nat → Nat → Nat) : Nat → Int32 → (Nat → Nat → Int32) → Option (Int32 × (Nat → Nat → Int32)) := fun a0 a1 I =>
  sm_gd (sm_kd a0 = (12, 59)) <|
  sm_lt (sm_up I a0 (sm_up (I a0) 3 a1)) fun I2 =>
  some ((0 : Int32), I2)
set_option maxHeartbeats 4000000 in
set_option maxRecDepth 100000 in
theorem w_X12_fail {l : Launch} (N : Nat) (R : Nat → Nat → Nat) : ∀ (a0 : Nat) (a1 : Int32) (I : (Nat → Nat → Int32)) (y : (Int32 × (Nat → Nat → Int32))), f_X12_fail N R a0 a1 I = some y → sm_W l 0 mX12_fail 0 [(0, .inr (.inl a0)), (1, .inl a1)] [] (I, R) (.inl (some (.inl y.1))) (y.2, R) := by
  intro a0 a1 I y h
  unfold f_X12_fail at h
  refine sm_aload_n (q := 1) dX12_fail_0 rfl rfl 0 rfl ?_
  refine sm_iload_n (q := 2) dX12_fail_1 rfl rfl 1 rfl ?_
  obtain ⟨hc1, h⟩ := sm_gd_e h
  obtain ⟨I2, hI2, h⟩ := sm_lt_e h
  refine sm_putI (q := 5) dX12_fail_2 rfl fk_X12_152 hc1 (by decide) (by decide) ?_
  refine sm_memI hI2 ?_
  refine sm_iconst (v := 0) (q := 6) dX12_fail_5 rfl (by decide) ?_
  obtain rfl := Option.some.inj h
  exact sm_iret dX12_fail_6 rfl
theorem e_X12_fail {l : Launch} {N : Nat} {R : Nat → Nat → Nat} {a0 : Nat} {a1 : Int32} {I : (Nat → Nat → Int32)} {y : (Int32 × (Nat → Nat → Int32))} (h : f_X12_fail N R a0 a1 I = some y) : sm_E l 0 mX12_fail [.inr (.inl a0), .inl a1] (I, R) (.inl (some (.inl y.1))) (y.2, R) :=
  sm_meth (by decide) (Nat.le_of_ble_eq_true rfl) (w_X12_fail N R a0 a1 I y h)
def f_X12_isIn (N : Nat) (R : Nat → Nat → Nat) : Int64 → Int64 → Int64 → (Nat → Nat → Int32) → Option (Int32 × (Nat → Nat → Int32)) := fun a0 a2 a4 I =>
  if (lg_cmp a0 a2) < 0 then (
    some ((0 : Int32), I))
  else (
    if 0 < (lg_cmp a0 a4) then (
      some ((0 : Int32), I))
    else (
      some ((1 : Int32), I)))
set_option maxHeartbeats 4000000 in
set_option maxRecDepth 100000 in
theorem w_X12_isIn {l : Launch} (N : Nat) (R : Nat → Nat → Nat) : ∀ (a0 : Int64) (a2 : Int64) (a4 : Int64) (I : (Nat → Nat → Int32)) (y : (Int32 × (Nat → Nat → Int32))), f_X12_isIn N R a0 a2 a4 I = some y → sm_W l 0 mX12_isIn 0 [(0, .inr (.inr a0)), (2, .inr (.inr a2)), (4, .inr (.inr a4))] [] (I, R) (.inl (some (.inl y.1))) (y.2, R) := by
  intro a0 a2 a4 I y h
  unfold f_X12_isIn at h
  refine sm_lload_n (q := 1) dX12_isIn_0 rfl rfl 0 rfl ?_
  refine sm_lload_n (q := 2) dX12_isIn_1 rfl rfl 1 rfl ?_
  refine sm_lcmp (q := 3) dX12_isIn_2 rfl ?_
  rcases sm_if_e h with ⟨hb1, h⟩ | ⟨hb1, h⟩
  · refine sm_if_lt (tgt := 17) (q := 6) dX12_isIn_3 (by decide) rfl (fun _ => ?_) (fun hn => absurd hb1 hn)
    refine sm_iconst (v := 0) (q := 18) dX12_isIn_17 rfl (by decide) ?_
    obtain rfl := Option.some.inj h
    exact sm_zret dX12_isIn_18 rfl (by decide)
  · refine sm_if_lt (tgt := 17) (q := 6) dX12_isIn_3 (by decide) rfl (fun ht => absurd ht hb1) (fun _ => ?_)
    refine sm_lload_n (q := 7) dX12_isIn_6 rfl rfl 0 rfl ?_
    refine sm_lload (q := 9) dX12_isIn_7 rfl 2 rfl ?_
    refine sm_lcmp (q := 10) dX12_isIn_9 rfl ?_
    rcases sm_if_e h with ⟨hb2, h⟩ | ⟨hb2, h⟩
    · refine sm_if_gt (tgt := 17) (q := 13) dX12_isIn_10 (by decide) rfl (fun _ => ?_) (fun hn => absurd hb2 hn)
      refine sm_iconst (v := 0) (q := 18) dX12_isIn_17 rfl (by decide) ?_
      obtain rfl := Option.some.inj h
      exact sm_zret dX12_isIn_18 rfl (by decide)
    · refine sm_if_gt (tgt := 17) (q := 13) dX12_isIn_10 (by decide) rfl (fun ht => absurd ht hb2) (fun _ => ?_)
      refine sm_iconst (v := 1) (q := 14) dX12_isIn_13 rfl (by decide) ?_
      refine sm_goto (q := 18) dX12_isIn_14 (by decide) ?_
      obtain rfl := Option.some.inj h
      exact sm_zret dX12_isIn_18 rfl (by decide)
theorem e_X12_isIn {l : Launch} {N : Nat} {R : Nat → Nat → Nat} {a0 : Int64} {a1 : Int64} {a2 : Int64} {I : (Nat → Nat → Int32)} {y : (Int32 × (Nat → Nat → Int32))} (h : f_X12_isIn N R a0 a1 a2 I = some y) : sm_E l 0 mX12_isIn [.inr (.inr a0), .inr (.inr a1), .inr (.inr a2)] (I, R) (.inl (some (.inl y.1))) (y.2, R) :=
  sm_meth (by decide) (Nat.le_of_ble_eq_true rfl) (w_X12_isIn N R a0 a1 a2 I y h)
def f_X12_isOf (N : Nat) (R : Nat → Nat → Nat) : Int32 → Int32 → (Nat → Nat → Int32) → Option (Int32 × (Nat → Nat → Int32)) := fun a0 a1 I =>
  if ((a0 >>> (a1 &&& 31)) &&& (1 : Int32)) = (1 : Int32) then (
    some ((1 : Int32), I))
  else (
    some ((0 : Int32), I))
set_option maxHeartbeats 4000000 in
set_option maxRecDepth 100000 in
theorem w_X12_isOf {l : Launch} (N : Nat) (R : Nat → Nat → Nat) : ∀ (a0 : Int32) (a1 : Int32) (I : (Nat → Nat → Int32)) (y : (Int32 × (Nat → Nat → Int32))), f_X12_isOf N R a0 a1 I = some y → sm_W l 0 mX12_isOf 0 [(0, .inl a0), (1, .inl a1)] [] (I, R) (.inl (some (.inl y.1))) (y.2, R) := by
  intro a0 a1 I y h
  unfold f_X12_isOf at h
  refine sm_iload_n (q := 1) dX12_isOf_0 rfl rfl 0 rfl ?_
  refine sm_iload_n (q := 2) dX12_isOf_1 rfl rfl 1 rfl ?_
  refine sm_ishr (q := 3) dX12_isOf_2 rfl ?_
  refine sm_iconst (v := 1) (q := 4) dX12_isOf_3 rfl (by decide) ?_
  refine sm_iand (q := 5) dX12_isOf_4 rfl ?_
  refine sm_iconst (v := 1) (q := 6) dX12_isOf_5 rfl (by decide) ?_
  rcases sm_if_e h with ⟨hb1, h⟩ | ⟨hb1, h⟩
  · refine sm_icmp_ne (tgt := 13) (q := 9) dX12_isOf_6 (by decide) rfl (fun hn => absurd hb1 hn) (fun _ => ?_)
    refine sm_iconst (v := 1) (q := 10) dX12_isOf_9 rfl (by decide) ?_
    refine sm_goto (q := 14) dX12_isOf_10 (by decide) ?_
    obtain rfl := Option.some.inj h
    exact sm_zret dX12_isOf_14 rfl (by decide)
  · refine sm_icmp_ne (tgt := 13) (q := 9) dX12_isOf_6 (by decide) rfl (fun _ => ?_) (fun he => absurd he hb1)
    refine sm_iconst (v := 0) (q := 14) dX12_isOf_13 rfl (by decide) ?_
    obtain rfl := Option.some.inj h
    exact sm_zret dX12_isOf_14 rfl (by decide)
theorem e_X12_isOf {l : Launch} {N : Nat} {R : Nat → Nat → Nat} {a0 : Int32} {a1 : Int32} {I : (Nat → Nat → Int32)} {y : (Int32 × (Nat → Nat → Int32))} (h : f_X12_isOf N R a0 a1 I = some y) : sm_E l 0 mX12_isOf [.inl a0, .inl a1] (I, R) (.inl (some (.inl y.1))) (y.2, R) :=
  sm_meth (by decide) (Nat.le_of_ble_eq_true rfl) (w_X12_isOf N R a0 a1 I y h)
def f_X12_bitsOf_4 (N : Nat) (R : Nat → Nat → Nat) : Nat → Int32 → Int32 → (Nat → Nat → Int32) → Option (Int32 × (Nat → Nat → Int32))
  | 0, _, _, _ => none
  | n + 1, a1, a2, I =>
    if a2 = 0 then (
      some (a1, I))
    else (
      f_X12_bitsOf_4 N R n (a1 + 1) (a2 &&& (a2 - (1 : Int32))) I)
def f_X12_bitsOf (N : Nat) (R : Nat → Nat → Nat) : Int32 → (Nat → Nat → Int32) → Option (Int32 × (Nat → Nat → Int32)) := fun a0 I =>
  f_X12_bitsOf_4 N R N (0 : Int32) a0 I
set_option maxHeartbeats 4000000 in
set_option maxRecDepth 100000 in
theorem w_X12_bitsOf_4 {l : Launch} (N : Nat) (R : Nat → Nat → Nat) : ∀ (n : Nat) (a1 : Int32) (a2 : Int32) (I : (Nat → Nat → Int32)) (y : (Int32 × (Nat → Nat → Int32))), f_X12_bitsOf_4 N R n a1 a2 I = some y → sm_W l 0 mX12_bitsOf 4 [(1, .inl a1), (2, .inl a2)] [] (I, R) (.inl (some (.inl y.1))) (y.2, R) := by
  intro n
  induction n with
  | zero => intro a1 a2 I y h; cases h
  | succ n ih =>
    intro a1 a2 I y h
    rw [f_X12_bitsOf_4] at h
    refine sm_iload_n (q := 5) dX12_bitsOf_4 rfl rfl 1 rfl ?_
    rcases sm_if_e h with ⟨hb1, h⟩ | ⟨hb1, h⟩
    · refine sm_if_eq (tgt := 20) (q := 8) dX12_bitsOf_5 (by decide) rfl (fun _ => ?_) (fun hn => absurd hb1 hn)
      refine sm_iload_n (q := 21) dX12_bitsOf_20 rfl rfl 0 rfl ?_
      obtain rfl := Option.some.inj h
      exact sm_iret dX12_bitsOf_21 rfl
    · refine sm_if_eq (tgt := 20) (q := 8) dX12_bitsOf_5 (by decide) rfl (fun ht => absurd ht hb1) (fun _ => ?_)
      refine sm_iinc (v := (a1 + 1)) (L' := [(1, .inl (a1 + 1)), (2, .inl a2)]) (q := 11) dX12_bitsOf_8 rfl 0 rfl rfl (by decide) rfl ?_
      refine sm_iload_n (q := 12) dX12_bitsOf_11 rfl rfl 1 rfl ?_
      refine sm_iload_n (q := 13) dX12_bitsOf_12 rfl rfl 1 rfl ?_
      refine sm_iconst (v := 1) (q := 14) dX12_bitsOf_13 rfl (by decide) ?_
      refine sm_isub (q := 15) dX12_bitsOf_14 rfl ?_
      refine sm_iand (q := 16) dX12_bitsOf_15 rfl ?_
      refine sm_istore_n (L' := [(2, .inl (a2 &&& (a2 - (1 : Int32)))), (1, .inl (a1 + 1))]) (q := 17) dX12_bitsOf_16 rfl rfl (by decide) rfl ?_
      refine sm_goto (q := 4) dX12_bitsOf_17 (by decide) ?_
      refine sm_pick [1, 0] rfl ?_
      exact ih _ _ _ _ h
set_option maxHeartbeats 4000000 in
set_option maxRecDepth 100000 in
theorem w_X12_bitsOf {l : Launch} (N : Nat) (R : Nat → Nat → Nat) : ∀ (a0 : Int32) (I : (Nat → Nat → Int32)) (y : (Int32 × (Nat → Nat → Int32))), f_X12_bitsOf N R a0 I = some y → sm_W l 0 mX12_bitsOf 0 [(0, .inl a0)] [] (I, R) (.inl (some (.inl y.1))) (y.2, R) := by
  intro a0 I y h
  unfold f_X12_bitsOf at h
  refine sm_iconst (v := 0) (q := 1) dX12_bitsOf_0 rfl (by decide) ?_
  refine sm_istore_n (L' := [(1, .inl (0 : Int32)), (0, .inl a0)]) (q := 2) dX12_bitsOf_1 rfl rfl (by decide) rfl ?_
  refine sm_iload_n (q := 3) dX12_bitsOf_2 rfl rfl 1 rfl ?_
  refine sm_istore_n (L' := [(2, .inl a0), (1, .inl (0 : Int32)), (0, .inl a0)]) (q := 4) dX12_bitsOf_3 rfl rfl (by decide) rfl ?_
  refine sm_pick [1, 0] rfl ?_
  exact w_X12_bitsOf_4 N R N _ _ _ _ h
theorem e_X12_bitsOf {l : Launch} {N : Nat} {R : Nat → Nat → Nat} {a0 : Int32} {I : (Nat → Nat → Int32)} {y : (Int32 × (Nat → Nat → Int32))} (h : f_X12_bitsOf N R a0 I = some y) : sm_E l 0 mX12_bitsOf [.inl a0] (I, R) (.inl (some (.inl y.1))) (y.2, R) :=
  sm_meth (by decide) (Nat.le_of_ble_eq_true rfl) (w_X12_bitsOf N R a0 I y h)
def f_X12_isPiece (N : Nat) (R : Nat → Nat → Nat) : Nat → Int32 → (Nat → Nat → Int32) → Option (Int32 × (Nat → Nat → Int32)) := fun a0 a1 I =>
  sm_gd (sm_kd a0 = (12, 59)) <|
  sm_gd ((sm_kd (R a0 4)).1 = 13 ∧ ¬ ((0 : Int32) < 0 ∨ (sm_kd (R a0 4)).2 ≤ ((0 : Int32)).toNatClampNeg)) <|
  (f_X12_isIn N R (Int32.toInt64 a1) (0 : Int64) (Int32.toInt64 ((I (R a0 4) ((0 : Int32)).toNatClampNeg) - (1 : Int32))) I).bind fun p3 =>
  sm_gd (p3.1 = 0 ∨ p3.1 = 1) <|
  some (p3.1, p3.2)
set_option maxHeartbeats 4000000 in
set_option maxRecDepth 100000 in
theorem w_X12_isPiece {l : Launch} (N : Nat) (R : Nat → Nat → Nat) : ∀ (a0 : Nat) (a1 : Int32) (I : (Nat → Nat → Int32)) (y : (Int32 × (Nat → Nat → Int32))), f_X12_isPiece N R a0 a1 I = some y → sm_W l 1 mX12_isPiece 0 [(0, .inr (.inl a0)), (1, .inl a1)] [] (I, R) (.inl (some (.inl y.1))) (y.2, R) := by
  intro a0 a1 I y h
  unfold f_X12_isPiece at h
  refine sm_iload_n (q := 1) dX12_isPiece_0 rfl rfl 1 rfl ?_
  refine sm_i2l (v := (Int32.toInt64 a1)) (q := 2) dX12_isPiece_1 rfl rfl ?_
  refine sm_lconst (v := 0) (q := 3) dX12_isPiece_2 rfl (by decide) ?_
  refine sm_aload_n (q := 4) dX12_isPiece_3 rfl rfl 0 rfl ?_
  obtain ⟨hc1, h⟩ := sm_gd_e h
  refine sm_getR (r := R a0 4) (q := 7) dX12_isPiece_4 rfl fk_X12_41 hc1 (by decide) (by decide) rfl ?_
  refine sm_iconst (v := 0) (q := 8) dX12_isPiece_7 rfl (by decide) ?_
  obtain ⟨hc2, h⟩ := sm_gd_e h
  refine sm_iald (n := (sm_kd (R a0 4)).2) (q := 9) dX12_isPiece_8 rfl (Prod.ext hc2.1 rfl) hc2.2 ?_
  refine sm_iconst (v := 1) (q := 10) dX12_isPiece_9 rfl (by decide) ?_
  refine sm_isub (q := 11) dX12_isPiece_10 rfl ?_
  refine sm_i2l (v := (Int32.toInt64 ((I (R a0 4) ((0 : Int32)).toNatClampNeg) - (1 : Int32)))) (q := 12) dX12_isPiece_11 rfl rfl ?_
  obtain ⟨p3, hc_p3, h⟩ := sm_bd_e h
  refine sm_callSi (q := 15) (As := [.inr (.inr (Int32.toInt64 a1)), .inr (.inr (0 : Int64)), .inr (.inr (Int32.toInt64 ((I (R a0 4) ((0 : Int32)).toNatClampNeg) - (1 : Int32))))]) (S := []) (e_X12_isIn hc_p3) ms_X12_155 rfl (by decide) (Nat.le_of_ble_eq_true rfl) dX12_isPiece_12 rfl ?_
  obtain ⟨hc4, h⟩ := sm_gd_e h
  obtain rfl := Option.some.inj h
  exact sm_zret dX12_isPiece_15 rfl hc4
theorem e_X12_isPiece {l : Launch} {N : Nat} {R : Nat → Nat → Nat} {a0 : Nat} {a1 : Int32} {I : (Nat → Nat → Int32)} {y : (Int32 × (Nat → Nat → Int32))} (h : f_X12_isPiece N R a0 a1 I = some y) : sm_E l 1 mX12_isPiece [.inr (.inl a0), .inl a1] (I, R) (.inl (some (.inl y.1))) (y.2, R) :=
  sm_meth (by decide) (Nat.le_of_ble_eq_true rfl) (w_X12_isPiece N R a0 a1 I y h)
def f_X12_isPupil (N : Nat) (R : Nat → Nat → Nat) : Nat → Int32 → (Nat → Nat → Int32) → Option (Int32 × (Nat → Nat → Int32)) := fun a0 a1 I =>
  sm_gd (sm_kd a0 = (12, 59)) <|
  sm_gd ((sm_kd (R a0 4)).1 = 13 ∧ ¬ ((1 : Int32) < 0 ∨ (sm_kd (R a0 4)).2 ≤ ((1 : Int32)).toNatClampNeg)) <|
  (f_X12_isIn N R (Int32.toInt64 a1) (0 : Int64) (Int32.toInt64 ((I (R a0 4) ((1 : Int32)).toNatClampNeg) - (1 : Int32))) I).bind fun p3 =>
  sm_gd (p3.1 = 0 ∨ p3.1 = 1) <|
  some (p3.1, p3.2)
set_option maxHeartbeats 4000000 in
set_option maxRecDepth 100000 in
theorem w_X12_isPupil {l : Launch} (N : Nat) (R : Nat → Nat → Nat) : ∀ (a0 : Nat) (a1 : Int32) (I : (Nat → Nat → Int32)) (y : (Int32 × (Nat → Nat → Int32))), f_X12_isPupil N R a0 a1 I = some y → sm_W l 1 mX12_isPupil 0 [(0, .inr (.inl a0)), (1, .inl a1)] [] (I, R) (.inl (some (.inl y.1))) (y.2, R) := by
  intro a0 a1 I y h
  unfold f_X12_isPupil at h
  refine sm_iload_n (q := 1) dX12_isPupil_0 rfl rfl 1 rfl ?_
  refine sm_i2l (v := (Int32.toInt64 a1)) (q := 2) dX12_isPupil_1 rfl rfl ?_
  refine sm_lconst (v := 0) (q := 3) dX12_isPupil_2 rfl (by decide) ?_
  refine sm_aload_n (q := 4) dX12_isPupil_3 rfl rfl 0 rfl ?_
  obtain ⟨hc1, h⟩ := sm_gd_e h
  refine sm_getR (r := R a0 4) (q := 7) dX12_isPupil_4 rfl fk_X12_41 hc1 (by decide) (by decide) rfl ?_
  refine sm_iconst (v := 1) (q := 8) dX12_isPupil_7 rfl (by decide) ?_
  obtain ⟨hc2, h⟩ := sm_gd_e h
  refine sm_iald (n := (sm_kd (R a0 4)).2) (q := 9) dX12_isPupil_8 rfl (Prod.ext hc2.1 rfl) hc2.2 ?_
  refine sm_iconst (v := 1) (q := 10) dX12_isPupil_9 rfl (by decide) ?_
  refine sm_isub (q := 11) dX12_isPupil_10 rfl ?_
  refine sm_i2l (v := (Int32.toInt64 ((I (R a0 4) ((1 : Int32)).toNatClampNeg) - (1 : Int32)))) (q := 12) dX12_isPupil_11 rfl rfl ?_
  obtain ⟨p3, hc_p3, h⟩ := sm_bd_e h
  refine sm_callSi (q := 15) (As := [.inr (.inr (Int32.toInt64 a1)), .inr (.inr (0 : Int64)), .inr (.inr (Int32.toInt64 ((I (R a0 4) ((1 : Int32)).toNatClampNeg) - (1 : Int32))))]) (S := []) (e_X12_isIn hc_p3) ms_X12_155 rfl (by decide) (Nat.le_of_ble_eq_true rfl) dX12_isPupil_12 rfl ?_
  obtain ⟨hc4, h⟩ := sm_gd_e h
  obtain rfl := Option.some.inj h
  exact sm_zret dX12_isPupil_15 rfl hc4
theorem e_X12_isPupil {l : Launch} {N : Nat} {R : Nat → Nat → Nat} {a0 : Nat} {a1 : Int32} {I : (Nat → Nat → Int32)} {y : (Int32 × (Nat → Nat → Int32))} (h : f_X12_isPupil N R a0 a1 I = some y) : sm_E l 1 mX12_isPupil [.inr (.inl a0), .inl a1] (I, R) (.inl (some (.inl y.1))) (y.2, R) :=
  sm_meth (by decide) (Nat.le_of_ble_eq_true rfl) (w_X12_isPupil N R a0 a1 I y h)
def f_X12_feed_76 (N : Nat) (R : Nat → Nat → Nat) (k_23 : Nat → Int32 → Int32 → Int32 → Int32 → Int32 → Int32 → (Nat → Nat → Int32) → Option (Int32 × (Nat → Nat → Int32))) : Nat → Int32 → Int32 → Int32 → Int32 → Int32 → Int32 → Int32 → (Nat → Nat → Int32) → Option (Int32 × (Nat → Nat → Int32)) := fun a0 a1 a2 a3 a4 a5 a6 b0 I =>
  sm_gd (sm_kd a0 = (12, 59)) <|
  sm_gd ((sm_kd (R a0 14)).1 = 13 ∧ ¬ ((I a0 15) < 0 ∨ (sm_kd (R a0 14)).2 ≤ ((I a0 15)).toNatClampNeg)) <|
  sm_lt (sm_up I (R a0 14) (sm_up (I (R a0 14)) ((I a0 15)).toNatClampNeg ((b0 >>> (((24 : Int32) - ((8 : Int32) * (a6 - a6 / (4 : Int32) * (4 : Int32)))) &&& 31)) &&& (255 : Int32)))) fun I3 =>
  sm_lt (sm_up I3 a0 (sm_up (I3 a0) 15 ((I3 a0 15) + (1 : Int32)))) fun I4 =>
  k_23 a0 a1 a2 a3 a4 a5 (a6 + 1) I4
def f_X12_feed_23 (N : Nat) (R : Nat → Nat → Nat) : Nat → Nat → Int32 → Int32 → Int32 → Int32 → Int32 → Int32 → (Nat → Nat → Int32) → Option (Int32 × (Nat → Nat → Int32))
  | 0, _, _, _, _, _, _, _, _ => none
  | n + 1, a0, a1, a2, a3, a4, a5, a6, I =>
    if (20 : Int32) ≤ a6 then (
      sm_gd (sm_kd a0 = (12, 59)) <|
      some ((I a0 15), I))
    else (
      if (4 : Int32) ≤ a6 then (
        if (8 : Int32) ≤ a6 then (
          if (12 : Int32) ≤ a6 then (
            if (16 : Int32) ≤ a6 then (
              f_X12_feed_76 N R (fun z0 z1 z2 z3 z4 z5 z6 J => f_X12_feed_23 N R n z0 z1 z2 z3 z4 z5 z6 J) a0 a1 a2 a3 a4 a5 a6 a5 I)
            else (
              f_X12_feed_76 N R (fun z0 z1 z2 z3 z4 z5 z6 J => f_X12_feed_23 N R n z0 z1 z2 z3 z4 z5 z6 J) a0 a1 a2 a3 a4 a5 a6 a4 I))
          else (
            f_X12_feed_76 N R (fun z0 z1 z2 z3 z4 z5 z6 J => f_X12_feed_23 N R n z0 z1 z2 z3 z4 z5 z6 J) a0 a1 a2 a3 a4 a5 a6 a3 I))
        else (
          f_X12_feed_76 N R (fun z0 z1 z2 z3 z4 z5 z6 J => f_X12_feed_23 N R n z0 z1 z2 z3 z4 z5 z6 J) a0 a1 a2 a3 a4 a5 a6 a2 I))
      else (
        f_X12_feed_76 N R (fun z0 z1 z2 z3 z4 z5 z6 J => f_X12_feed_23 N R n z0 z1 z2 z3 z4 z5 z6 J) a0 a1 a2 a3 a4 a5 a6 a1 I))
def f_X12_feed (N : Nat) (R : Nat → Nat → Nat) : Nat → Int32 → Int32 → Int32 → Int32 → Int32 → (Nat → Nat → Int32) → Option (Int32 × (Nat → Nat → Int32)) := fun a0 a1 a2 a3 a4 a5 I =>
  sm_gd (sm_kd a0 = (12, 59)) <|
  sm_lt (sm_up I a0 (sm_up (I a0) 3 (0 : Int32))) fun I2 =>
  if ((I2 a0 15) + (20 : Int32)) ≤ (700 : Int32) then (
    f_X12_feed_23 N R N a0 a1 a2 a3 a4 a5 (0 : Int32) I2)
  else (
    some ((-1 : Int32), I2))
set_option maxHeartbeats 4000000 in
set_option maxRecDepth 100000 in
theorem w_X12_feed_76 {l : Launch} (N : Nat) (R : Nat → Nat → Nat) (k_23 : Nat → Int32 → Int32 → Int32 → Int32 → Int32 → Int32 → (Nat → Nat → Int32) → Option (Int32 × (Nat → Nat → Int32))) (hk_23 : ∀ (a0 : Nat) (a1 : Int32) (a2 : Int32) (a3 : Int32) (a4 : Int32) (a5 : Int32) (a6 : Int32) (I : (Nat → Nat → Int32)) (y : (Int32 × (Nat → Nat → Int32))), k_23 a0 a1 a2 a3 a4 a5 a6 I = some y → sm_W l 0 mX12_feed 23 [(0, .inr (.inl a0)), (1, .inl a1), (2, .inl a2), (3, .inl a3), (4, .inl a4), (5, .inl a5), (6, .inl a6)] [] (I, R) (.inl (some (.inl y.1))) (y.2, R)) : ∀ (a0 : Nat) (a1 : Int32) (a2 : Int32) (a3 : Int32) (a4 : Int32) (a5 : Int32) (a6 : Int32) (b0 : Int32) (I : (Nat → Nat → Int32)) (y : (Int32 × (Nat → Nat → Int32))), f_X12_feed_76 N R k_23 a0 a1 a2 a3 a4 a5 a6 b0 I = some y → sm_W l 0 mX12_feed 76 [(0, .inr (.inl a0)), (1, .inl a1), (2, .inl a2), (3, .inl a3), (4, .inl a4), (5, .inl a5), (6, .inl a6)] [.inl b0] (I, R) (.inl (some (.inl y.1))) (y.2, R) := by
  intro a0 a1 a2 a3 a4 a5 a6 b0 I y h
  unfold f_X12_feed_76 at h
  refine sm_istore (L' := [(7, .inl b0), (0, .inr (.inl a0)), (1, .inl a1), (2, .inl a2), (3, .inl a3), (4, .inl a4), (5, .inl a5), (6, .inl a6)]) (q := 78) dX12_feed_76 rfl (by decide) rfl ?_
  refine sm_aload_n (q := 79) dX12_feed_78 rfl rfl 1 rfl ?_
  obtain ⟨hc1, h⟩ := sm_gd_e h
  refine sm_getR (r := R a0 14) (q := 82) dX12_feed_79 rfl fk_X12_69 hc1 (by decide) (by decide) rfl ?_
  refine sm_aload_n (q := 83) dX12_feed_82 rfl rfl 1 rfl ?_
  refine sm_getI (q := 86) dX12_feed_83 rfl fk_X12_159 hc1 (by decide) (by decide) ?_
  refine sm_iload (q := 88) dX12_feed_86 rfl 0 rfl ?_
  refine sm_bipush (v := 24) (q := 90) dX12_feed_88 rfl (by decide) ?_
  refine sm_bipush (v := 8) (q := 92) dX12_feed_90 rfl (by decide) ?_
  refine sm_iload (q := 94) dX12_feed_92 rfl 7 rfl ?_
  refine sm_iconst (v := 4) (q := 95) dX12_feed_94 rfl (by decide) ?_
  refine sm_irem (q := 96) dX12_feed_95 rfl (by decide) ?_
  refine sm_imul (q := 97) dX12_feed_96 rfl ?_
  refine sm_isub (q := 98) dX12_feed_97 rfl ?_
  refine sm_ishr (q := 99) dX12_feed_98 rfl ?_
  refine sm_sipush (v := 255) (q := 102) dX12_feed_99 rfl (by decide) ?_
  refine sm_iand (q := 103) dX12_feed_102 rfl ?_
  obtain ⟨hc2, h⟩ := sm_gd_e h
  obtain ⟨I3, hI3, h⟩ := sm_lt_e h
  refine sm_iast (n := (sm_kd (R a0 14)).2) (q := 104) dX12_feed_103 rfl (Prod.ext hc2.1 rfl) hc2.2 ?_
  refine sm_memI hI3 ?_
  refine sm_aload_n (q := 105) dX12_feed_104 rfl rfl 1 rfl ?_
  refine sm_dup (q := 106) dX12_feed_105 rfl rfl ?_
  refine sm_getI (q := 109) dX12_feed_106 rfl fk_X12_159 hc1 (by decide) (by decide) ?_
  refine sm_iconst (v := 1) (q := 110) dX12_feed_109 rfl (by decide) ?_
  refine sm_iadd (q := 111) dX12_feed_110 rfl ?_
  obtain ⟨I4, hI4, h⟩ := sm_lt_e h
  refine sm_putI (q := 114) dX12_feed_111 rfl fk_X12_159 hc1 (by decide) (by decide) ?_
  refine sm_memI hI4 ?_
  refine sm_iinc (v := (a6 + 1)) (L' := [(6, .inl (a6 + 1)), (7, .inl b0), (0, .inr (.inl a0)), (1, .inl a1), (2, .inl a2), (3, .inl a3), (4, .inl a4), (5, .inl a5)]) (q := 117) dX12_feed_114 rfl 7 rfl rfl (by decide) rfl ?_
  refine sm_goto (q := 23) dX12_feed_117 (by decide) ?_
  refine sm_pick [2, 3, 4, 5, 6, 7, 0] rfl ?_
  exact hk_23 _ _ _ _ _ _ _ _ _ h
set_option maxHeartbeats 4000000 in
set_option maxRecDepth 100000 in
theorem w_X12_feed_23 {l : Launch} (N : Nat) (R : Nat → Nat → Nat) : ∀ (n : Nat) (a0 : Nat) (a1 : Int32) (a2 : Int32) (a3 : Int32) (a4 : Int32) (a5 : Int32) (a6 : Int32) (I : (Nat → Nat → Int32)) (y : (Int32 × (Nat → Nat → Int32))), f_X12_feed_23 N R n a0 a1 a2 a3 a4 a5 a6 I = some y → sm_W l 0 mX12_feed 23 [(0, .inr (.inl a0)), (1, .inl a1), (2, .inl a2), (3, .inl a3), (4, .inl a4), (5, .inl a5), (6, .inl a6)] [] (I, R) (.inl (some (.inl y.1))) (y.2, R) := by
  intro n
  induction n with
  | zero => intro a0 a1 a2 a3 a4 a5 a6 I y h; cases h
  | succ n ih =>
    intro a0 a1 a2 a3 a4 a5 a6 I y h
    rw [f_X12_feed_23] at h
    refine sm_iload (q := 25) dX12_feed_23 rfl 6 rfl ?_
    refine sm_bipush (v := 20) (q := 27) dX12_feed_25 rfl (by decide) ?_
    rcases sm_if_e h with ⟨hb1, h⟩ | ⟨hb1, h⟩
    · refine sm_icmp_ge (tgt := 120) (q := 30) dX12_feed_27 (by decide) rfl (fun _ => ?_) (fun hn => absurd hb1 hn)
      refine sm_aload_n (q := 121) dX12_feed_120 rfl rfl 0 rfl ?_
      obtain ⟨hc2, h⟩ := sm_gd_e h
      refine sm_getI (q := 124) dX12_feed_121 rfl fk_X12_159 hc2 (by decide) (by decide) ?_
      obtain rfl := Option.some.inj h
      exact sm_iret dX12_feed_124 rfl
    · refine sm_icmp_ge (tgt := 120) (q := 30) dX12_feed_27 (by decide) rfl (fun ht => absurd ht hb1) (fun _ => ?_)
      refine sm_iload (q := 32) dX12_feed_30 rfl 6 rfl ?_
      refine sm_iconst (v := 4) (q := 33) dX12_feed_32 rfl (by decide) ?_
      rcases sm_if_e h with ⟨hb3, h⟩ | ⟨hb3, h⟩
      · refine sm_icmp_ge (tgt := 40) (q := 36) dX12_feed_33 (by decide) rfl (fun _ => ?_) (fun hn => absurd hb3 hn)
        refine sm_iload (q := 42) dX12_feed_40 rfl 6 rfl ?_
        refine sm_bipush (v := 8) (q := 44) dX12_feed_42 rfl (by decide) ?_
        rcases sm_if_e h with ⟨hb4, h⟩ | ⟨hb4, h⟩
        · refine sm_icmp_ge (tgt := 51) (q := 47) dX12_feed_44 (by decide) rfl (fun _ => ?_) (fun hn => absurd hb4 hn)
          refine sm_iload (q := 53) dX12_feed_51 rfl 6 rfl ?_
          refine sm_bipush (v := 12) (q := 55) dX12_feed_53 rfl (by decide) ?_
          rcases sm_if_e h with ⟨hb5, h⟩ | ⟨hb5, h⟩
          · refine sm_icmp_ge (tgt := 62) (q := 58) dX12_feed_55 (by decide) rfl (fun _ => ?_) (fun hn => absurd hb5 hn)
            refine sm_iload (q := 64) dX12_feed_62 rfl 6 rfl ?_
            refine sm_bipush (v := 16) (q := 66) dX12_feed_64 rfl (by decide) ?_
            rcases sm_if_e h with ⟨hb6, h⟩ | ⟨hb6, h⟩
            · refine sm_icmp_ge (tgt := 74) (q := 69) dX12_feed_66 (by decide) rfl (fun _ => ?_) (fun hn => absurd hb6 hn)
              refine sm_iload (q := 76) dX12_feed_74 rfl 5 rfl ?_
              refine sm_pick [0, 1, 2, 3, 4, 5, 6] rfl ?_
              exact w_X12_feed_76 N R (fun z0 z1 z2 z3 z4 z5 z6 J => f_X12_feed_23 N R n z0 z1 z2 z3 z4 z5 z6 J) (fun z0 z1 z2 z3 z4 z5 z6 J y h => ih z0 z1 z2 z3 z4 z5 z6 J y h) _ _ _ _ _ _ _ _ _ _ h
            · refine sm_icmp_ge (tgt := 74) (q := 69) dX12_feed_66 (by decide) rfl (fun ht => absurd ht hb6) (fun _ => ?_)
              refine sm_iload (q := 71) dX12_feed_69 rfl 4 rfl ?_
              refine sm_goto (q := 76) dX12_feed_71 (by decide) ?_
              refine sm_pick [0, 1, 2, 3, 4, 5, 6] rfl ?_
              exact w_X12_feed_76 N R (fun z0 z1 z2 z3 z4 z5 z6 J => f_X12_feed_23 N R n z0 z1 z2 z3 z4 z5 z6 J) (fun z0 z1 z2 z3 z4 z5 z6 J y h => ih z0 z1 z2 z3 z4 z5 z6 J y h) _ _ _ _ _ _ _ _ _ _ h
          · refine sm_icmp_ge (tgt := 62) (q := 58) dX12_feed_55 (by decide) rfl (fun ht => absurd ht hb5) (fun _ => ?_)
            refine sm_iload_n (q := 59) dX12_feed_58 rfl rfl 3 rfl ?_
            refine sm_goto (q := 76) dX12_feed_59 (by decide) ?_
            refine sm_pick [0, 1, 2, 3, 4, 5, 6] rfl ?_
            exact w_X12_feed_76 N R (fun z0 z1 z2 z3 z4 z5 z6 J => f_X12_feed_23 N R n z0 z1 z2 z3 z4 z5 z6 J) (fun z0 z1 z2 z3 z4 z5 z6 J y h => ih z0 z1 z2 z3 z4 z5 z6 J y h) _ _ _ _ _ _ _ _ _ _ h
        · refine sm_icmp_ge (tgt := 51) (q := 47) dX12_feed_44 (by decide) rfl (fun ht => absurd ht hb4) (fun _ => ?_)
          refine sm_iload_n (q := 48) dX12_feed_47 rfl rfl 2 rfl ?_
          refine sm_goto (q := 76) dX12_feed_48 (by decide) ?_
          refine sm_pick [0, 1, 2, 3, 4, 5, 6] rfl ?_
          exact w_X12_feed_76 N R (fun z0 z1 z2 z3 z4 z5 z6 J => f_X12_feed_23 N R n z0 z1 z2 z3 z4 z5 z6 J) (fun z0 z1 z2 z3 z4 z5 z6 J y h => ih z0 z1 z2 z3 z4 z5 z6 J y h) _ _ _ _ _ _ _ _ _ _ h
      · refine sm_icmp_ge (tgt := 40) (q := 36) dX12_feed_33 (by decide) rfl (fun ht => absurd ht hb3) (fun _ => ?_)
        refine sm_iload_n (q := 37) dX12_feed_36 rfl rfl 1 rfl ?_
        refine sm_goto (q := 76) dX12_feed_37 (by decide) ?_
        refine sm_pick [0, 1, 2, 3, 4, 5, 6] rfl ?_
        exact w_X12_feed_76 N R (fun z0 z1 z2 z3 z4 z5 z6 J => f_X12_feed_23 N R n z0 z1 z2 z3 z4 z5 z6 J) (fun z0 z1 z2 z3 z4 z5 z6 J y h => ih z0 z1 z2 z3 z4 z5 z6 J y h) _ _ _ _ _ _ _ _ _ _ h
set_option maxHeartbeats 4000000 in
set_option maxRecDepth 100000 in
theorem w_X12_feed {l : Launch} (N : Nat) (R : Nat → Nat → Nat) : ∀ (a0 : Nat) (a1 : Int32) (a2 : Int32) (a3 : Int32) (a4 : Int32) (a5 : Int32) (I : (Nat → Nat → Int32)) (y : (Int32 × (Nat → Nat → Int32))), f_X12_feed N R a0 a1 a2 a3 a4 a5 I = some y → sm_W l 0 mX12_feed 0 [(0, .inr (.inl a0)), (1, .inl a1), (2, .inl a2), (3, .inl a3), (4, .inl a4), (5, .inl a5)] [] (I, R) (.inl (some (.inl y.1))) (y.2, R) := by
  intro a0 a1 a2 a3 a4 a5 I y h
  unfold f_X12_feed at h
  refine sm_aload_n (q := 1) dX12_feed_0 rfl rfl 0 rfl ?_
  refine sm_iconst (v := 0) (q := 2) dX12_feed_1 rfl (by decide) ?_
  obtain ⟨hc1, h⟩ := sm_gd_e h
  obtain ⟨I2, hI2, h⟩ := sm_lt_e h
  refine sm_putI (q := 5) dX12_feed_2 rfl fk_X12_152 hc1 (by decide) (by decide) ?_
  refine sm_memI hI2 ?_
  refine sm_aload_n (q := 6) dX12_feed_5 rfl rfl 0 rfl ?_
  refine sm_getI (q := 9) dX12_feed_6 rfl fk_X12_159 hc1 (by decide) (by decide) ?_
  refine sm_bipush (v := 20) (q := 11) dX12_feed_9 rfl (by decide) ?_
  refine sm_iadd (q := 12) dX12_feed_11 rfl ?_
  refine sm_sipush (v := 700) (q := 15) dX12_feed_12 rfl (by decide) ?_
  rcases sm_if_e h with ⟨hb3, h⟩ | ⟨hb3, h⟩
  · refine sm_icmp_le (tgt := 20) (q := 18) dX12_feed_15 (by decide) rfl (fun _ => ?_) (fun hn => absurd hb3 hn)
    refine sm_iconst (v := 0) (q := 21) dX12_feed_20 rfl (by decide) ?_
    refine sm_istore (L' := [(6, .inl (0 : Int32)), (0, .inr (.inl a0)), (1, .inl a1), (2, .inl a2), (3, .inl a3), (4, .inl a4), (5, .inl a5)]) (q := 23) dX12_feed_21 rfl (by decide) rfl ?_
    refine sm_pick [1, 2, 3, 4, 5, 6, 0] rfl ?_
    exact w_X12_feed_23 N R N _ _ _ _ _ _ _ _ _ h
  · refine sm_icmp_le (tgt := 20) (q := 18) dX12_feed_15 (by decide) rfl (fun ht => absurd ht hb3) (fun _ => ?_)
    refine sm_iconst (v := -1) (q := 19) dX12_feed_18 rfl (by decide) ?_
    obtain rfl := Option.some.inj h
    exact sm_iret dX12_feed_19 rfl
theorem e_X12_feed {l : Launch} {N : Nat} {R : Nat → Nat → Nat} {a0 : Nat} {a1 : Int32} {a2 : Int32} {a3 : Int32} {a4 : Int32} {a5 : Int32} {I : (Nat → Nat → Int32)} {y : (Int32 × (Nat → Nat → Int32))} (h : f_X12_feed N R a0 a1 a2 a3 a4 a5 I = some y) : sm_E l 0 mX12_feed [.inr (.inl a0), .inl a1, .inl a2, .inl a3, .inl a4, .inl a5] (I, R) (.inl (some (.inl y.1))) (y.2, R) :=
  sm_meth (by decide) (Nat.le_of_ble_eq_true rfl) (w_X12_feed N R a0 a1 a2 a3 a4 a5 I y h)
def f_X12_byteAt (N : Nat) (R : Nat → Nat → Nat) : Nat → Int32 → (Nat → Nat → Int32) → Option (Int32 × (Nat → Nat → Int32)) := fun a0 a1 I =>
  sm_gd (sm_kd a0 = (12, 59)) <|
  if (I a0 17) ≤ a1 then (
    some ((-1 : Int32), I))
  else (
    sm_gd ((sm_kd (R a0 14)).1 = 13 ∧ ¬ (a1 < 0 ∨ (sm_kd (R a0 14)).2 ≤ (a1).toNatClampNeg)) <|
    some ((I (R a0 14) (a1).toNatClampNeg), I))
set_option maxHeartbeats 4000000 in
set_option maxRecDepth 100000 in
theorem w_X12_byteAt {l : Launch} (N : Nat) (R : Nat → Nat → Nat) : ∀ (a0 : Nat) (a1 : Int32) (I : (Nat → Nat → Int32)) (y : (Int32 × (Nat → Nat → Int32))), f_X12_byteAt N R a0 a1 I = some y → sm_W l 0 mX12_byteAt 0 [(0, .inr (.inl a0)), (1, .inl a1)] [] (I, R) (.inl (some (.inl y.1))) (y.2, R) := by
  intro a0 a1 I y h
  unfold f_X12_byteAt at h
  refine sm_iload_n (q := 1) dX12_byteAt_0 rfl rfl 1 rfl ?_
  refine sm_aload_n (q := 2) dX12_byteAt_1 rfl rfl 0 rfl ?_
  obtain ⟨hc1, h⟩ := sm_gd_e h
  refine sm_getI (q := 5) dX12_byteAt_2 rfl fk_X12_162 hc1 (by decide) (by decide) ?_
  rcases sm_if_e h with ⟨hb2, h⟩ | ⟨hb2, h⟩
  · refine sm_icmp_ge (tgt := 17) (q := 8) dX12_byteAt_5 (by decide) rfl (fun _ => ?_) (fun hn => absurd hb2 hn)
    refine sm_iconst (v := -1) (q := 18) dX12_byteAt_17 rfl (by decide) ?_
    obtain rfl := Option.some.inj h
    exact sm_iret dX12_byteAt_18 rfl
  · refine sm_icmp_ge (tgt := 17) (q := 8) dX12_byteAt_5 (by decide) rfl (fun ht => absurd ht hb2) (fun _ => ?_)
    refine sm_aload_n (q := 9) dX12_byteAt_8 rfl rfl 0 rfl ?_
    refine sm_getR (r := R a0 14) (q := 12) dX12_byteAt_9 rfl fk_X12_69 hc1 (by decide) (by decide) rfl ?_
    refine sm_iload_n (q := 13) dX12_byteAt_12 rfl rfl 1 rfl ?_
    obtain ⟨hc3, h⟩ := sm_gd_e h
    refine sm_iald (n := (sm_kd (R a0 14)).2) (q := 14) dX12_byteAt_13 rfl (Prod.ext hc3.1 rfl) hc3.2 ?_
    refine sm_goto (q := 18) dX12_byteAt_14 (by decide) ?_
    obtain rfl := Option.some.inj h
    exact sm_iret dX12_byteAt_18 rfl
theorem e_X12_byteAt {l : Launch} {N : Nat} {R : Nat → Nat → Nat} {a0 : Nat} {a1 : Int32} {I : (Nat → Nat → Int32)} {y : (Int32 × (Nat → Nat → Int32))} (h : f_X12_byteAt N R a0 a1 I = some y) : sm_E l 0 mX12_byteAt [.inr (.inl a0), .inl a1] (I, R) (.inl (some (.inl y.1))) (y.2, R) :=
  sm_meth (by decide) (Nat.le_of_ble_eq_true rfl) (w_X12_byteAt N R a0 a1 I y h)
def f_X12_isLetter (N : Nat) (R : Nat → Nat → Nat) : Int32 → (Nat → Nat → Int32) → Option (Int32 × (Nat → Nat → Int32)) := fun a0 I =>
  if a0 < (97 : Int32) then (
    some ((0 : Int32), I))
  else (
    if (122 : Int32) < a0 then (
      some ((0 : Int32), I))
    else (
      some ((1 : Int32), I)))
set_option maxHeartbeats 4000000 in
set_option maxRecDepth 100000 in
theorem w_X12_isLetter {l : Launch} (N : Nat) (R : Nat → Nat → Nat) : ∀ (a0 : Int32) (I : (Nat → Nat → Int32)) (y : (Int32 × (Nat → Nat → Int32))), f_X12_isLetter N R a0 I = some y → sm_W l 0 mX12_isLetter 0 [(0, .inl a0)] [] (I, R) (.inl (some (.inl y.1))) (y.2, R) := by
  intro a0 I y h
  unfold f_X12_isLetter at h
  refine sm_iload_n (q := 1) dX12_isLetter_0 rfl rfl 0 rfl ?_
  refine sm_bipush (v := 97) (q := 3) dX12_isLetter_1 rfl (by decide) ?_
  rcases sm_if_e h with ⟨hb1, h⟩ | ⟨hb1, h⟩
  · refine sm_icmp_lt (tgt := 16) (q := 6) dX12_isLetter_3 (by decide) rfl (fun _ => ?_) (fun hn => absurd hb1 hn)
    refine sm_iconst (v := 0) (q := 17) dX12_isLetter_16 rfl (by decide) ?_
    obtain rfl := Option.some.inj h
    exact sm_zret dX12_isLetter_17 rfl (by decide)
  · refine sm_icmp_lt (tgt := 16) (q := 6) dX12_isLetter_3 (by decide) rfl (fun ht => absurd ht hb1) (fun _ => ?_)
    refine sm_iload_n (q := 7) dX12_isLetter_6 rfl rfl 0 rfl ?_
    refine sm_bipush (v := 122) (q := 9) dX12_isLetter_7 rfl (by decide) ?_
    rcases sm_if_e h with ⟨hb2, h⟩ | ⟨hb2, h⟩
    · refine sm_icmp_gt (tgt := 16) (q := 12) dX12_isLetter_9 (by decide) rfl (fun _ => ?_) (fun hn => absurd hb2 hn)
      refine sm_iconst (v := 0) (q := 17) dX12_isLetter_16 rfl (by decide) ?_
      obtain rfl := Option.some.inj h
      exact sm_zret dX12_isLetter_17 rfl (by decide)
    · refine sm_icmp_gt (tgt := 16) (q := 12) dX12_isLetter_9 (by decide) rfl (fun ht => absurd ht hb2) (fun _ => ?_)
      refine sm_iconst (v := 1) (q := 13) dX12_isLetter_12 rfl (by decide) ?_
      refine sm_goto (q := 17) dX12_isLetter_13 (by decide) ?_
      obtain rfl := Option.some.inj h
      exact sm_zret dX12_isLetter_17 rfl (by decide)
theorem e_X12_isLetter {l : Launch} {N : Nat} {R : Nat → Nat → Nat} {a0 : Int32} {I : (Nat → Nat → Int32)} {y : (Int32 × (Nat → Nat → Int32))} (h : f_X12_isLetter N R a0 I = some y) : sm_E l 0 mX12_isLetter [.inl a0] (I, R) (.inl (some (.inl y.1))) (y.2, R) :=
  sm_meth (by decide) (Nat.le_of_ble_eq_true rfl) (w_X12_isLetter N R a0 I y h)
def f_X12_isDigit (N : Nat) (R : Nat → Nat → Nat) : Int32 → (Nat → Nat → Int32) → Option (Int32 × (Nat → Nat → Int32)) := fun a0 I =>
  if a0 < (48 : Int32) then (
    some ((0 : Int32), I))
  else (
    if (57 : Int32) < a0 then (
      some ((0 : Int32), I))
    else (
      some ((1 : Int32), I)))
set_option maxHeartbeats 4000000 in
set_option maxRecDepth 100000 in
theorem w_X12_isDigit {l : Launch} (N : Nat) (R : Nat → Nat → Nat) : ∀ (a0 : Int32) (I : (Nat → Nat → Int32)) (y : (Int32 × (Nat → Nat → Int32))), f_X12_isDigit N R a0 I = some y → sm_W l 0 mX12_isDigit 0 [(0, .inl a0)] [] (I, R) (.inl (some (.inl y.1))) (y.2, R) := by
  intro a0 I y h
  unfold f_X12_isDigit at h
  refine sm_iload_n (q := 1) dX12_isDigit_0 rfl rfl 0 rfl ?_
  refine sm_bipush (v := 48) (q := 3) dX12_isDigit_1 rfl (by decide) ?_
  rcases sm_if_e h with ⟨hb1, h⟩ | ⟨hb1, h⟩
  · refine sm_icmp_lt (tgt := 16) (q := 6) dX12_isDigit_3 (by decide) rfl (fun _ => ?_) (fun hn => absurd hb1 hn)
    refine sm_iconst (v := 0) (q := 17) dX12_isDigit_16 rfl (by decide) ?_
    obtain rfl := Option.some.inj h
    exact sm_zret dX12_isDigit_17 rfl (by decide)
  · refine sm_icmp_lt (tgt := 16) (q := 6) dX12_isDigit_3 (by decide) rfl (fun ht => absurd ht hb1) (fun _ => ?_)
    refine sm_iload_n (q := 7) dX12_isDigit_6 rfl rfl 0 rfl ?_
    refine sm_bipush (v := 57) (q := 9) dX12_isDigit_7 rfl (by decide) ?_
    rcases sm_if_e h with ⟨hb2, h⟩ | ⟨hb2, h⟩
    · refine sm_icmp_gt (tgt := 16) (q := 12) dX12_isDigit_9 (by decide) rfl (fun _ => ?_) (fun hn => absurd hb2 hn)
      refine sm_iconst (v := 0) (q := 17) dX12_isDigit_16 rfl (by decide) ?_
      obtain rfl := Option.some.inj h
      exact sm_zret dX12_isDigit_17 rfl (by decide)
    · refine sm_icmp_gt (tgt := 16) (q := 12) dX12_isDigit_9 (by decide) rfl (fun ht => absurd ht hb2) (fun _ => ?_)
      refine sm_iconst (v := 1) (q := 13) dX12_isDigit_12 rfl (by decide) ?_
      refine sm_goto (q := 17) dX12_isDigit_13 (by decide) ?_
      obtain rfl := Option.some.inj h
      exact sm_zret dX12_isDigit_17 rfl (by decide)
theorem e_X12_isDigit {l : Launch} {N : Nat} {R : Nat → Nat → Nat} {a0 : Int32} {I : (Nat → Nat → Int32)} {y : (Int32 × (Nat → Nat → Int32))} (h : f_X12_isDigit N R a0 I = some y) : sm_E l 0 mX12_isDigit [.inl a0] (I, R) (.inl (some (.inl y.1))) (y.2, R) :=
  sm_meth (by decide) (Nat.le_of_ble_eq_true rfl) (w_X12_isDigit N R a0 I y h)
def f_X12_isMark (N : Nat) (R : Nat → Nat → Nat) : Int32 → (Nat → Nat → Int32) → Option (Int32 × (Nat → Nat → Int32)) := fun a0 I =>
  if a0 = (59 : Int32) then (
    some ((1 : Int32), I))
  else (
    if a0 = (40 : Int32) then (
      some ((1 : Int32), I))
    else (
      if a0 = (41 : Int32) then (
        some ((1 : Int32), I))
      else (
        if a0 = (43 : Int32) then (
          some ((1 : Int32), I))
        else (
          if a0 = (45 : Int32) then (
            some ((1 : Int32), I))
          else (
            if a0 = (42 : Int32) then (
              some ((1 : Int32), I))
            else (
              if a0 = (47 : Int32) then (
                some ((1 : Int32), I))
              else (
                if a0 = (60 : Int32) then (
                  some ((1 : Int32), I))
                else (
                  if a0 = (61 : Int32) then (
                    some ((1 : Int32), I))
                  else (
                    some ((0 : Int32), I))))))))))
set_option maxHeartbeats 4000000 in
set_option maxRecDepth 100000 in
theorem w_X12_isMark {l : Launch} (N : Nat) (R : Nat → Nat → Nat) : ∀ (a0 : Int32) (I : (Nat → Nat → Int32)) (y : (Int32 × (Nat → Nat → Int32))), f_X12_isMark N R a0 I = some y → sm_W l 0 mX12_isMark 0 [(0, .inl a0)] [] (I, R) (.inl (some (.inl y.1))) (y.2, R) := by
  intro a0 I y h
  unfold f_X12_isMark at h
  refine sm_iload_n (q := 1) dX12_isMark_0 rfl rfl 0 rfl ?_
  refine sm_bipush (v := 59) (q := 3) dX12_isMark_1 rfl (by decide) ?_
  rcases sm_if_e h with ⟨hb1, h⟩ | ⟨hb1, h⟩
  · refine sm_icmp_eq (tgt := 54) (q := 6) dX12_isMark_3 (by decide) rfl (fun _ => ?_) (fun hn => absurd hb1 hn)
    refine sm_iconst (v := 1) (q := 55) dX12_isMark_54 rfl (by decide) ?_
    refine sm_goto (q := 59) dX12_isMark_55 (by decide) ?_
    obtain rfl := Option.some.inj h
    exact sm_zret dX12_isMark_59 rfl (by decide)
  · refine sm_icmp_eq (tgt := 54) (q := 6) dX12_isMark_3 (by decide) rfl (fun ht => absurd ht hb1) (fun _ => ?_)
    refine sm_iload_n (q := 7) dX12_isMark_6 rfl rfl 0 rfl ?_
    refine sm_bipush (v := 40) (q := 9) dX12_isMark_7 rfl (by decide) ?_
    rcases sm_if_e h with ⟨hb2, h⟩ | ⟨hb2, h⟩
    · refine sm_icmp_eq (tgt := 54) (q := 12) dX12_isMark_9 (by decide) rfl (fun _ => ?_) (fun hn => absurd hb2 hn)
      refine sm_iconst (v := 1) (q := 55) dX12_isMark_54 rfl (by decide) ?_
      refine sm_goto (q := 59) dX12_isMark_55 (by decide) ?_
      obtain rfl := Option.some.inj h
      exact sm_zret dX12_isMark_59 rfl (by decide)
    · refine sm_icmp_eq (tgt := 54) (q := 12) dX12_isMark_9 (by decide) rfl (fun ht => absurd ht hb2) (fun _ => ?_)
      refine sm_iload_n (q := 13) dX12_isMark_12 rfl rfl 0 rfl ?_
      refine sm_bipush (v := 41) (q := 15) dX12_isMark_13 rfl (by decide) ?_
      rcases sm_if_e h with ⟨hb3, h⟩ | ⟨hb3, h⟩
      · refine sm_icmp_eq (tgt := 54) (q := 18) dX12_isMark_15 (by decide) rfl (fun _ => ?_) (fun hn => absurd hb3 hn)
        refine sm_iconst (v := 1) (q := 55) dX12_isMark_54 rfl (by decide) ?_
        refine sm_goto (q := 59) dX12_isMark_55 (by decide) ?_
        obtain rfl := Option.some.inj h
        exact sm_zret dX12_isMark_59 rfl (by decide)
      · refine sm_icmp_eq (tgt := 54) (q := 18) dX12_isMark_15 (by decide) rfl (fun ht => absurd ht hb3) (fun _ => ?_)
        refine sm_iload_n (q := 19) dX12_isMark_18 rfl rfl 0 rfl ?_
        refine sm_bipush (v := 43) (q := 21) dX12_isMark_19 rfl (by decide) ?_
        rcases sm_if_e h with ⟨hb4, h⟩ | ⟨hb4, h⟩
        · refine sm_icmp_eq (tgt := 54) (q := 24) dX12_isMark_21 (by decide) rfl (fun _ => ?_) (fun hn => absurd hb4 hn)
          refine sm_iconst (v := 1) (q := 55) dX12_isMark_54 rfl (by decide) ?_
          refine sm_goto (q := 59) dX12_isMark_55 (by decide) ?_
          obtain rfl := Option.some.inj h
          exact sm_zret dX12_isMark_59 rfl (by decide)
        · refine sm_icmp_eq (tgt := 54) (q := 24) dX12_isMark_21 (by decide) rfl (fun ht => absurd ht hb4) (fun _ => ?_)
          refine sm_iload_n (q := 25) dX12_isMark_24 rfl rfl 0 rfl ?_
          refine sm_bipush (v := 45) (q := 27) dX12_isMark_25 rfl (by decide) ?_
          rcases sm_if_e h with ⟨hb5, h⟩ | ⟨hb5, h⟩
          · refine sm_icmp_eq (tgt := 54) (q := 30) dX12_isMark_27 (by decide) rfl (fun _ => ?_) (fun hn => absurd hb5 hn)
            refine sm_iconst (v := 1) (q := 55) dX12_isMark_54 rfl (by decide) ?_
            refine sm_goto (q := 59) dX12_isMark_55 (by decide) ?_
            obtain rfl := Option.some.inj h
            exact sm_zret dX12_isMark_59 rfl (by decide)
          · refine sm_icmp_eq (tgt := 54) (q := 30) dX12_isMark_27 (by decide) rfl (fun ht => absurd ht hb5) (fun _ => ?_)
            refine sm_iload_n (q := 31) dX12_isMark_30 rfl rfl 0 rfl ?_
            refine sm_bipush (v := 42) (q := 33) dX12_isMark_31 rfl (by decide) ?_
            rcases sm_if_e h with ⟨hb6, h⟩ | ⟨hb6, h⟩
            · refine sm_icmp_eq (tgt := 54) (q := 36) dX12_isMark_33 (by decide) rfl (fun _ => ?_) (fun hn => absurd hb6 hn)
              refine sm_iconst (v := 1) (q := 55) dX12_isMark_54 rfl (by decide) ?_
              refine sm_goto (q := 59) dX12_isMark_55 (by decide) ?_
              obtain rfl := Option.some.inj h
              exact sm_zret dX12_isMark_59 rfl (by decide)
            · refine sm_icmp_eq (tgt := 54) (q := 36) dX12_isMark_33 (by decide) rfl (fun ht => absurd ht hb6) (fun _ => ?_)
              refine sm_iload_n (q := 37) dX12_isMark_36 rfl rfl 0 rfl ?_
              refine sm_bipush (v := 47) (q := 39) dX12_isMark_37 rfl (by decide) ?_
              rcases sm_if_e h with ⟨hb7, h⟩ | ⟨hb7, h⟩
              · refine sm_icmp_eq (tgt := 54) (q := 42) dX12_isMark_39 (by decide) rfl (fun _ => ?_) (fun hn => absurd hb7 hn)
                refine sm_iconst (v := 1) (q := 55) dX12_isMark_54 rfl (by decide) ?_
                refine sm_goto (q := 59) dX12_isMark_55 (by decide) ?_
                obtain rfl := Option.some.inj h
                exact sm_zret dX12_isMark_59 rfl (by decide)
              · refine sm_icmp_eq (tgt := 54) (q := 42) dX12_isMark_39 (by decide) rfl (fun ht => absurd ht hb7) (fun _ => ?_)
                refine sm_iload_n (q := 43) dX12_isMark_42 rfl rfl 0 rfl ?_
                refine sm_bipush (v := 60) (q := 45) dX12_isMark_43 rfl (by decide) ?_
                rcases sm_if_e h with ⟨hb8, h⟩ | ⟨hb8, h⟩
                · refine sm_icmp_eq (tgt := 54) (q := 48) dX12_isMark_45 (by decide) rfl (fun _ => ?_) (fun hn => absurd hb8 hn)
                  refine sm_iconst (v := 1) (q := 55) dX12_isMark_54 rfl (by decide) ?_
                  refine sm_goto (q := 59) dX12_isMark_55 (by decide) ?_
                  obtain rfl := Option.some.inj h
                  exact sm_zret dX12_isMark_59 rfl (by decide)
                · refine sm_icmp_eq (tgt := 54) (q := 48) dX12_isMark_45 (by decide) rfl (fun ht => absurd ht hb8) (fun _ => ?_)
                  refine sm_iload_n (q := 49) dX12_isMark_48 rfl rfl 0 rfl ?_
                  refine sm_bipush (v := 61) (q := 51) dX12_isMark_49 rfl (by decide) ?_
                  rcases sm_if_e h with ⟨hb9, h⟩ | ⟨hb9, h⟩
                  · refine sm_icmp_ne (tgt := 58) (q := 54) dX12_isMark_51 (by decide) rfl (fun hn => absurd hb9 hn) (fun _ => ?_)
                    refine sm_iconst (v := 1) (q := 55) dX12_isMark_54 rfl (by decide) ?_
                    refine sm_goto (q := 59) dX12_isMark_55 (by decide) ?_
                    obtain rfl := Option.some.inj h
                    exact sm_zret dX12_isMark_59 rfl (by decide)
                  · refine sm_icmp_ne (tgt := 58) (q := 54) dX12_isMark_51 (by decide) rfl (fun _ => ?_) (fun he => absurd he hb9)
                    refine sm_iconst (v := 0) (q := 59) dX12_isMark_58 rfl (by decide) ?_
                    obtain rfl := Option.some.inj h
                    exact sm_zret dX12_isMark_59 rfl (by decide)
theorem e_X12_isMark {l : Launch} {N : Nat} {R : Nat → Nat → Nat} {a0 : Int32} {I : (Nat → Nat → Int32)} {y : (Int32 × (Nat → Nat → Int32))} (h : f_X12_isMark N R a0 I = some y) : sm_E l 0 mX12_isMark [.inl a0] (I, R) (.inl (some (.inl y.1))) (y.2, R) :=
  sm_meth (by decide) (Nat.le_of_ble_eq_true rfl) (w_X12_isMark N R a0 I y h)
def f_X12_stepOn_76 (N : Nat) (R : Nat → Nat → Nat) : Nat → Nat → (Nat → Nat → Int32) → Option (Unit × (Nat → Nat → Int32))
  | 0, _, _ => none
  | n + 1, a0, I =>
    sm_gd (sm_kd a0 = (12, 59)) <|
    (f_X12_byteAt N R a0 (I a0 16) I).bind fun p2 =>
    (f_X12_isLetter N R p2.1 p2.2).bind fun p3 =>
    if p3.1 = 0 then (
      sm_lt (sm_up p3.2 a0 (sm_up (p3.2 a0) 18 (1 : Int32))) fun I5 =>
      sm_lt (sm_up I5 a0 (sm_up (I5 a0) 21 (I5 a0 16))) fun I6 =>
      some ((), I6))
    else (
      sm_lt (sm_up p3.2 a0 (sm_up (p3.2 a0) 16 ((p3.2 a0 16) + (1 : Int32)))) fun I7 =>
      f_X12_stepOn_76 N R n a0 I7)
def f_X12_stepOn_123 (N : Nat) (R : Nat → Nat → Nat) : Nat → Nat → (Nat → Nat → Int32) → Option (Unit × (Nat → Nat → Int32))
  | 0, _, _ => none
  | n + 1, a0, I =>
    sm_gd (sm_kd a0 = (12, 59)) <|
    (f_X12_byteAt N R a0 (I a0 16) I).bind fun p2 =>
    (f_X12_isDigit N R p2.1 p2.2).bind fun p3 =>
    if p3.1 = 0 then (
      sm_lt (sm_up p3.2 a0 (sm_up (p3.2 a0) 18 (2 : Int32))) fun I5 =>
      sm_lt (sm_up I5 a0 (sm_up (I5 a0) 21 (I5 a0 16))) fun I6 =>
      some ((), I6))
    else (
      (f_X12_byteAt N R a0 (p3.2 a0 16) p3.2).bind fun p7 =>
      sm_lt (sm_up p7.2 a0 (sm_up (p7.2 a0) 19 (sm_mn (100000 : Int32) ((((10 : Int32) * (p3.2 a0 19)) + p7.1) - (48 : Int32))))) fun I8 =>
      sm_lt (sm_up I8 a0 (sm_up (I8 a0) 16 ((I8 a0 16) + (1 : Int32)))) fun I9 =>
      f_X12_stepOn_123 N R n a0 I9)
def f_X12_stepOn_0 (N : Nat) (R : Nat → Nat → Nat) : Nat → Nat → (Nat → Nat → Int32) → Option (Unit × (Nat → Nat → Int32))
  | 0, _, _ => none
  | n + 1, a0, I =>
    sm_gd (sm_kd a0 = (12, 59)) <|
    (f_X12_byteAt N R a0 (I a0 16) I).bind fun p2 =>
    if p2.1 = (32 : Int32) then (
      sm_lt (sm_up p2.2 a0 (sm_up (p2.2 a0) 16 ((p2.2 a0 16) + (1 : Int32)))) fun I4 =>
      f_X12_stepOn_0 N R n a0 I4)
    else (
      (f_X12_byteAt N R a0 (p2.2 a0 16) p2.2).bind fun p5 =>
      if p5.1 = (10 : Int32) then (
        sm_lt (sm_up p5.2 a0 (sm_up (p5.2 a0) 16 ((p5.2 a0 16) + (1 : Int32)))) fun I7 =>
        f_X12_stepOn_0 N R n a0 I7)
      else (
        sm_lt (sm_up p5.2 a0 (sm_up (p5.2 a0) 20 (p5.2 a0 16))) fun I8 =>
        (f_X12_byteAt N R a0 (I8 a0 16) I8).bind fun p9 =>
        if p9.1 = (-1 : Int32) then (
          sm_lt (sm_up p9.2 a0 (sm_up (p9.2 a0) 18 (0 : Int32))) fun I11 =>
          sm_lt (sm_up I11 a0 (sm_up (I11 a0) 21 (I11 a0 16))) fun I12 =>
          some ((), I12))
        else (
          (f_X12_isLetter N R p9.1 p9.2).bind fun p13 =>
          if p13.1 = 0 then (
            (f_X12_isDigit N R p9.1 p13.2).bind fun p15 =>
            if p15.1 = 0 then (
              sm_lt (sm_up p15.2 a0 (sm_up (p15.2 a0) 16 ((p15.2 a0 16) + (1 : Int32)))) fun I17 =>
              (f_X12_isMark N R p9.1 I17).bind fun p18 =>
              if p18.1 = 0 then (
                sm_lt (sm_up p18.2 a0 (sm_up (p18.2 a0) 18 (4 : Int32))) fun I20 =>
                sm_lt (sm_up I20 a0 (sm_up (I20 a0) 21 (I20 a0 16))) fun I21 =>
                some ((), I21))
              else (
                sm_lt (sm_up p18.2 a0 (sm_up (p18.2 a0) 18 (3 : Int32))) fun I22 =>
                sm_lt (sm_up I22 a0 (sm_up (I22 a0) 21 (I22 a0 16))) fun I23 =>
                some ((), I23)))
            else (
              sm_lt (sm_up p15.2 a0 (sm_up (p15.2 a0) 19 (0 : Int32))) fun I24 =>
              f_X12_stepOn_123 N R N a0 I24))
          else (
            f_X12_stepOn_76 N R N a0 p13.2))))
def f_X12_stepOn (N : Nat) (R : Nat → Nat → Nat) : Nat → (Nat → Nat → Int32) → Option (Unit × (Nat → Nat → Int32)) := fun a0 I =>
  f_X12_stepOn_0 N R N a0 I
set_option maxHeartbeats 4000000 in
set_option maxRecDepth 100000 in
theorem w_X12_stepOn_76 {l : Launch} (N : Nat) (R : Nat → Nat → Nat) : ∀ (n : Nat) (a0 : Nat) (I : (Nat → Nat → Int32)) (y : (Unit × (Nat → Nat → Int32))), f_X12_stepOn_76 N R n a0 I = some y → sm_W l 1 mX12_stepOn 76 [(0, .inr (.inl a0))] [] (I, R) (.inl none) (y.2, R) := by
  intro n
  induction n with
  | zero => intro a0 I y h; cases h
  | succ n ih =>
    intro a0 I y h
    rw [f_X12_stepOn_76] at h
    refine sm_aload_n (q := 77) dX12_stepOn_76 rfl rfl 0 rfl ?_
    refine sm_aload_n (q := 78) dX12_stepOn_77 rfl rfl 0 rfl ?_
    obtain ⟨hc1, h⟩ := sm_gd_e h
    refine sm_getI (q := 81) dX12_stepOn_78 rfl fk_X12_165 hc1 (by decide) (by decide) ?_
    obtain ⟨p2, hc_p2, h⟩ := sm_bd_e h
    refine sm_callVi (q := 84) (As := [.inl (I a0 16)]) (S := []) (e_X12_byteAt hc_p2) mv_X12_168 hc1 rfl (by decide) (Nat.le_of_ble_eq_true rfl) dX12_stepOn_81 rfl ?_
    obtain ⟨p3, hc_p3, h⟩ := sm_bd_e h
    refine sm_callSi (q := 87) (As := [.inl p2.1]) (S := []) (e_X12_isLetter hc_p3) ms_X12_178 rfl (by decide) (Nat.le_of_ble_eq_true rfl) dX12_stepOn_84 rfl ?_
    rcases sm_if_e h with ⟨hb4, h⟩ | ⟨hb4, h⟩
    · refine sm_if_eq (tgt := 103) (q := 90) dX12_stepOn_87 (by decide) rfl (fun _ => ?_) (fun hn => absurd hb4 hn)
      refine sm_aload_n (q := 104) dX12_stepOn_103 rfl rfl 0 rfl ?_
      refine sm_iconst (v := 1) (q := 105) dX12_stepOn_104 rfl (by decide) ?_
      obtain ⟨I5, hI5, h⟩ := sm_lt_e h
      refine sm_putI (q := 108) dX12_stepOn_105 rfl fk_X12_175 hc1 (by decide) (by decide) ?_
      refine sm_memI hI5 ?_
      refine sm_goto (q := 212) dX12_stepOn_108 (by decide) ?_
      refine sm_aload_n (q := 213) dX12_stepOn_212 rfl rfl 0 rfl ?_
      refine sm_aload_n (q := 214) dX12_stepOn_213 rfl rfl 0 rfl ?_
      refine sm_getI (q := 217) dX12_stepOn_214 rfl fk_X12_165 hc1 (by decide) (by decide) ?_
      obtain ⟨I6, hI6, h⟩ := sm_lt_e h
      refine sm_putI (q := 220) dX12_stepOn_217 rfl fk_X12_198 hc1 (by decide) (by decide) ?_
      refine sm_memI hI6 ?_
      obtain rfl := Option.some.inj h
      exact sm_vret dX12_stepOn_220 rfl
    · refine sm_if_eq (tgt := 103) (q := 90) dX12_stepOn_87 (by decide) rfl (fun ht => absurd ht hb4) (fun _ => ?_)
      refine sm_aload_n (q := 91) dX12_stepOn_90 rfl rfl 0 rfl ?_
      refine sm_dup (q := 92) dX12_stepOn_91 rfl rfl ?_
      refine sm_getI (q := 95) dX12_stepOn_92 rfl fk_X12_165 hc1 (by decide) (by decide) ?_
      refine sm_iconst (v := 1) (q := 96) dX12_stepOn_95 rfl (by decide) ?_
      refine sm_iadd (q := 97) dX12_stepOn_96 rfl ?_
      obtain ⟨I7, hI7, h⟩ := sm_lt_e h
      refine sm_putI (q := 100) dX12_stepOn_97 rfl fk_X12_165 hc1 (by decide) (by decide) ?_
      refine sm_memI hI7 ?_
      refine sm_goto (q := 76) dX12_stepOn_100 (by decide) ?_
      refine sm_pick [0] rfl ?_
      exact ih _ _ _ h
set_option maxHeartbeats 4000000 in
set_option maxRecDepth 100000 in
theorem w_X12_stepOn_123 {l : Launch} (N : Nat) (R : Nat → Nat → Nat) : ∀ (n : Nat) (a0 : Nat) (I : (Nat → Nat → Int32)) (y : (Unit × (Nat → Nat → Int32))), f_X12_stepOn_123 N R n a0 I = some y → sm_W l 1 mX12_stepOn 123 [(0, .inr (.inl a0))] [] (I, R) (.inl none) (y.2, R) := by
  intro n
  induction n with
  | zero => intro a0 I y h; cases h
  | succ n ih =>
    intro a0 I y h
    rw [f_X12_stepOn_123] at h
    refine sm_aload_n (q := 124) dX12_stepOn_123 rfl rfl 0 rfl ?_
    refine sm_aload_n (q := 125) dX12_stepOn_124 rfl rfl 0 rfl ?_
    obtain ⟨hc1, h⟩ := sm_gd_e h
    refine sm_getI (q := 128) dX12_stepOn_125 rfl fk_X12_165 hc1 (by decide) (by decide) ?_
    obtain ⟨p2, hc_p2, h⟩ := sm_bd_e h
    refine sm_callVi (q := 131) (As := [.inl (I a0 16)]) (S := []) (e_X12_byteAt hc_p2) mv_X12_168 hc1 rfl (by decide) (Nat.le_of_ble_eq_true rfl) dX12_stepOn_128 rfl ?_
    obtain ⟨p3, hc_p3, h⟩ := sm_bd_e h
    refine sm_callSi (q := 134) (As := [.inl p2.1]) (S := []) (e_X12_isDigit hc_p3) ms_X12_182 rfl (by decide) (Nat.le_of_ble_eq_true rfl) dX12_stepOn_131 rfl ?_
    rcases sm_if_e h with ⟨hb4, h⟩ | ⟨hb4, h⟩
    · refine sm_if_eq (tgt := 178) (q := 137) dX12_stepOn_134 (by decide) rfl (fun _ => ?_) (fun hn => absurd hb4 hn)
      refine sm_aload_n (q := 179) dX12_stepOn_178 rfl rfl 0 rfl ?_
      refine sm_iconst (v := 2) (q := 180) dX12_stepOn_179 rfl (by decide) ?_
      obtain ⟨I5, hI5, h⟩ := sm_lt_e h
      refine sm_putI (q := 183) dX12_stepOn_180 rfl fk_X12_175 hc1 (by decide) (by decide) ?_
      refine sm_memI hI5 ?_
      refine sm_goto (q := 212) dX12_stepOn_183 (by decide) ?_
      refine sm_aload_n (q := 213) dX12_stepOn_212 rfl rfl 0 rfl ?_
      refine sm_aload_n (q := 214) dX12_stepOn_213 rfl rfl 0 rfl ?_
      refine sm_getI (q := 217) dX12_stepOn_214 rfl fk_X12_165 hc1 (by decide) (by decide) ?_
      obtain ⟨I6, hI6, h⟩ := sm_lt_e h
      refine sm_putI (q := 220) dX12_stepOn_217 rfl fk_X12_198 hc1 (by decide) (by decide) ?_
      refine sm_memI hI6 ?_
      obtain rfl := Option.some.inj h
      exact sm_vret dX12_stepOn_220 rfl
    · refine sm_if_eq (tgt := 178) (q := 137) dX12_stepOn_134 (by decide) rfl (fun ht => absurd ht hb4) (fun _ => ?_)
      refine sm_aload_n (q := 138) dX12_stepOn_137 rfl rfl 0 rfl ?_
      refine sm_ldc (q := 140) dX12_stepOn_138 rfl co_X12_188 ?_
      refine sm_bipush (v := 10) (q := 142) dX12_stepOn_140 rfl (by decide) ?_
      refine sm_aload_n (q := 143) dX12_stepOn_142 rfl rfl 0 rfl ?_
      refine sm_getI (q := 146) dX12_stepOn_143 rfl fk_X12_185 hc1 (by decide) (by decide) ?_
      refine sm_imul (q := 147) dX12_stepOn_146 rfl ?_
      refine sm_aload_n (q := 148) dX12_stepOn_147 rfl rfl 0 rfl ?_
      refine sm_aload_n (q := 149) dX12_stepOn_148 rfl rfl 0 rfl ?_
      refine sm_getI (q := 152) dX12_stepOn_149 rfl fk_X12_165 hc1 (by decide) (by decide) ?_
      obtain ⟨p7, hc_p7, h⟩ := sm_bd_e h
      refine sm_callVi (q := 155) (As := [.inl (p3.2 a0 16)]) (S := [.inl ((10 : Int32) * (p3.2 a0 19)), .inl (100000 : Int32), .inr (.inl a0)]) (e_X12_byteAt hc_p7) mv_X12_168 hc1 rfl (by decide) (Nat.le_of_ble_eq_true rfl) dX12_stepOn_152 rfl ?_
      refine sm_iadd (q := 156) dX12_stepOn_155 rfl ?_
      refine sm_bipush (v := 48) (q := 158) dX12_stepOn_156 rfl (by decide) ?_
      refine sm_isub (q := 159) dX12_stepOn_158 rfl ?_
      refine sm_mmn (q := 162) dX12_stepOn_159 rfl mm_X12_189 (Nat.le_of_ble_eq_true rfl) ?_
      obtain ⟨I8, hI8, h⟩ := sm_lt_e h
      refine sm_putI (q := 165) dX12_stepOn_162 rfl fk_X12_185 hc1 (by decide) (by decide) ?_
      refine sm_memI hI8 ?_
      refine sm_aload_n (q := 166) dX12_stepOn_165 rfl rfl 0 rfl ?_
      refine sm_dup (q := 167) dX12_stepOn_166 rfl rfl ?_
      refine sm_getI (q := 170) dX12_stepOn_167 rfl fk_X12_165 hc1 (by decide) (by decide) ?_
      refine sm_iconst (v := 1) (q := 171) dX12_stepOn_170 rfl (by decide) ?_
      refine sm_iadd (q := 172) dX12_stepOn_171 rfl ?_
      obtain ⟨I9, hI9, h⟩ := sm_lt_e h
      refine sm_putI (q := 175) dX12_stepOn_172 rfl fk_X12_165 hc1 (by decide) (by decide) ?_
      refine sm_memI hI9 ?_
      refine sm_goto (q := 123) dX12_stepOn_175 (by decide) ?_
      refine sm_pick [0] rfl ?_
      exact ih _ _ _ h
set_option maxHeartbeats 4000000 in
set_option maxRecDepth 100000 in
theorem w_X12_stepOn_0 {l : Launch} (N : Nat) (R : Nat → Nat → Nat) : ∀ (n : Nat) (a0 : Nat) (I : (Nat → Nat → Int32)) (y : (Unit × (Nat → Nat → Int32))), f_X12_stepOn_0 N R n a0 I = some y → sm_W l 1 mX12_stepOn 0 [(0, .inr (.inl a0))] [] (I, R) (.inl none) (y.2, R) := by
  intro n
  induction n with
  | zero => intro a0 I y h; cases h
  | succ n ih =>
    intro a0 I y h
    rw [f_X12_stepOn_0] at h
    refine sm_aload_n (q := 1) dX12_stepOn_0 rfl rfl 0 rfl ?_
    refine sm_aload_n (q := 2) dX12_stepOn_1 rfl rfl 0 rfl ?_
    obtain ⟨hc1, h⟩ := sm_gd_e h
    refine sm_getI (q := 5) dX12_stepOn_2 rfl fk_X12_165 hc1 (by decide) (by decide) ?_
    obtain ⟨p2, hc_p2, h⟩ := sm_bd_e h
    refine sm_callVi (q := 8) (As := [.inl (I a0 16)]) (S := []) (e_X12_byteAt hc_p2) mv_X12_168 hc1 rfl (by decide) (Nat.le_of_ble_eq_true rfl) dX12_stepOn_5 rfl ?_
    refine sm_bipush (v := 32) (q := 10) dX12_stepOn_8 rfl (by decide) ?_
    rcases sm_if_e h with ⟨hb3, h⟩ | ⟨hb3, h⟩
    · refine sm_icmp_eq (tgt := 26) (q := 13) dX12_stepOn_10 (by decide) rfl (fun _ => ?_) (fun hn => absurd hb3 hn)
      refine sm_aload_n (q := 27) dX12_stepOn_26 rfl rfl 0 rfl ?_
      refine sm_dup (q := 28) dX12_stepOn_27 rfl rfl ?_
      refine sm_getI (q := 31) dX12_stepOn_28 rfl fk_X12_165 hc1 (by decide) (by decide) ?_
      refine sm_iconst (v := 1) (q := 32) dX12_stepOn_31 rfl (by decide) ?_
      refine sm_iadd (q := 33) dX12_stepOn_32 rfl ?_
      obtain ⟨I4, hI4, h⟩ := sm_lt_e h
      refine sm_putI (q := 36) dX12_stepOn_33 rfl fk_X12_165 hc1 (by decide) (by decide) ?_
      refine sm_memI hI4 ?_
      refine sm_goto (q := 0) dX12_stepOn_36 (by decide) ?_
      refine sm_pick [0] rfl ?_
      exact ih _ _ _ h
    · refine sm_icmp_eq (tgt := 26) (q := 13) dX12_stepOn_10 (by decide) rfl (fun ht => absurd ht hb3) (fun _ => ?_)
      refine sm_aload_n (q := 14) dX12_stepOn_13 rfl rfl 0 rfl ?_
      refine sm_aload_n (q := 15) dX12_stepOn_14 rfl rfl 0 rfl ?_
      refine sm_getI (q := 18) dX12_stepOn_15 rfl fk_X12_165 hc1 (by decide) (by decide) ?_
      obtain ⟨p5, hc_p5, h⟩ := sm_bd_e h
      refine sm_callVi (q := 21) (As := [.inl (p2.2 a0 16)]) (S := []) (e_X12_byteAt hc_p5) mv_X12_168 hc1 rfl (by decide) (Nat.le_of_ble_eq_true rfl) dX12_stepOn_18 rfl ?_
      refine sm_bipush (v := 10) (q := 23) dX12_stepOn_21 rfl (by decide) ?_
      rcases sm_if_e h with ⟨hb6, h⟩ | ⟨hb6, h⟩
      · refine sm_icmp_ne (tgt := 39) (q := 26) dX12_stepOn_23 (by decide) rfl (fun hn => absurd hb6 hn) (fun _ => ?_)
        refine sm_aload_n (q := 27) dX12_stepOn_26 rfl rfl 0 rfl ?_
        refine sm_dup (q := 28) dX12_stepOn_27 rfl rfl ?_
        refine sm_getI (q := 31) dX12_stepOn_28 rfl fk_X12_165 hc1 (by decide) (by decide) ?_
        refine sm_iconst (v := 1) (q := 32) dX12_stepOn_31 rfl (by decide) ?_
        refine sm_iadd (q := 33) dX12_stepOn_32 rfl ?_
        obtain ⟨I7, hI7, h⟩ := sm_lt_e h
        refine sm_putI (q := 36) dX12_stepOn_33 rfl fk_X12_165 hc1 (by decide) (by decide) ?_
        refine sm_memI hI7 ?_
        refine sm_goto (q := 0) dX12_stepOn_36 (by decide) ?_
        refine sm_pick [0] rfl ?_
        exact ih _ _ _ h
      · refine sm_icmp_ne (tgt := 39) (q := 26) dX12_stepOn_23 (by decide) rfl (fun _ => ?_) (fun he => absurd he hb6)
        refine sm_aload_n (q := 40) dX12_stepOn_39 rfl rfl 0 rfl ?_
        refine sm_aload_n (q := 41) dX12_stepOn_40 rfl rfl 0 rfl ?_
        refine sm_getI (q := 44) dX12_stepOn_41 rfl fk_X12_165 hc1 (by decide) (by decide) ?_
        obtain ⟨I8, hI8, h⟩ := sm_lt_e h
        refine sm_putI (q := 47) dX12_stepOn_44 rfl fk_X12_172 hc1 (by decide) (by decide) ?_
        refine sm_memI hI8 ?_
        refine sm_aload_n (q := 48) dX12_stepOn_47 rfl rfl 0 rfl ?_
        refine sm_aload_n (q := 49) dX12_stepOn_48 rfl rfl 0 rfl ?_
        refine sm_getI (q := 52) dX12_stepOn_49 rfl fk_X12_165 hc1 (by decide) (by decide) ?_
        obtain ⟨p9, hc_p9, h⟩ := sm_bd_e h
        refine sm_callVi (q := 55) (As := [.inl (I8 a0 16)]) (S := []) (e_X12_byteAt hc_p9) mv_X12_168 hc1 rfl (by decide) (Nat.le_of_ble_eq_true rfl) dX12_stepOn_52 rfl ?_
        refine sm_istore_n (L' := [(1, .inl p9.1), (0, .inr (.inl a0))]) (q := 56) dX12_stepOn_55 rfl rfl (by decide) rfl ?_
        refine sm_iload_n (q := 57) dX12_stepOn_56 rfl rfl 0 rfl ?_
        refine sm_iconst (v := -1) (q := 58) dX12_stepOn_57 rfl (by decide) ?_
        rcases sm_if_e h with ⟨hb10, h⟩ | ⟨hb10, h⟩
        · refine sm_icmp_ne (tgt := 69) (q := 61) dX12_stepOn_58 (by decide) rfl (fun hn => absurd hb10 hn) (fun _ => ?_)
          refine sm_aload_n (q := 62) dX12_stepOn_61 rfl rfl 1 rfl ?_
          refine sm_iconst (v := 0) (q := 63) dX12_stepOn_62 rfl (by decide) ?_
          obtain ⟨I11, hI11, h⟩ := sm_lt_e h
          refine sm_putI (q := 66) dX12_stepOn_63 rfl fk_X12_175 hc1 (by decide) (by decide) ?_
          refine sm_memI hI11 ?_
          refine sm_goto (q := 212) dX12_stepOn_66 (by decide) ?_
          refine sm_aload_n (q := 213) dX12_stepOn_212 rfl rfl 1 rfl ?_
          refine sm_aload_n (q := 214) dX12_stepOn_213 rfl rfl 1 rfl ?_
          refine sm_getI (q := 217) dX12_stepOn_214 rfl fk_X12_165 hc1 (by decide) (by decide) ?_
          obtain ⟨I12, hI12, h⟩ := sm_lt_e h
          refine sm_putI (q := 220) dX12_stepOn_217 rfl fk_X12_198 hc1 (by decide) (by decide) ?_
          refine sm_memI hI12 ?_
          obtain rfl := Option.some.inj h
          exact sm_vret dX12_stepOn_220 rfl
        · refine sm_icmp_ne (tgt := 69) (q := 61) dX12_stepOn_58 (by decide) rfl (fun _ => ?_) (fun he => absurd he hb10)
          refine sm_iload_n (q := 70) dX12_stepOn_69 rfl rfl 0 rfl ?_
          obtain ⟨p13, hc_p13, h⟩ := sm_bd_e h
          refine sm_callSi (q := 73) (As := [.inl p9.1]) (S := []) (e_X12_isLetter hc_p13) ms_X12_178 rfl (by decide) (Nat.le_of_ble_eq_true rfl) dX12_stepOn_70 rfl ?_
          rcases sm_if_e h with ⟨hb14, h⟩ | ⟨hb14, h⟩
          · refine sm_if_eq (tgt := 111) (q := 76) dX12_stepOn_73 (by decide) rfl (fun _ => ?_) (fun hn => absurd hb14 hn)
            refine sm_iload_n (q := 112) dX12_stepOn_111 rfl rfl 0 rfl ?_
            obtain ⟨p15, hc_p15, h⟩ := sm_bd_e h
            refine sm_callSi (q := 115) (As := [.inl p9.1]) (S := []) (e_X12_isDigit hc_p15) ms_X12_182 rfl (by decide) (Nat.le_of_ble_eq_true rfl) dX12_stepOn_112 rfl ?_
            rcases sm_if_e h with ⟨hb16, h⟩ | ⟨hb16, h⟩
            · refine sm_if_eq (tgt := 186) (q := 118) dX12_stepOn_115 (by decide) rfl (fun _ => ?_) (fun hn => absurd hb16 hn)
              refine sm_aload_n (q := 187) dX12_stepOn_186 rfl rfl 1 rfl ?_
              refine sm_dup (q := 188) dX12_stepOn_187 rfl rfl ?_
              refine sm_getI (q := 191) dX12_stepOn_188 rfl fk_X12_165 hc1 (by decide) (by decide) ?_
              refine sm_iconst (v := 1) (q := 192) dX12_stepOn_191 rfl (by decide) ?_
              refine sm_iadd (q := 193) dX12_stepOn_192 rfl ?_
              obtain ⟨I17, hI17, h⟩ := sm_lt_e h
              refine sm_putI (q := 196) dX12_stepOn_193 rfl fk_X12_165 hc1 (by decide) (by decide) ?_
              refine sm_memI hI17 ?_
              refine sm_aload_n (q := 197) dX12_stepOn_196 rfl rfl 1 rfl ?_
              refine sm_iload_n (q := 198) dX12_stepOn_197 rfl rfl 0 rfl ?_
              obtain ⟨p18, hc_p18, h⟩ := sm_bd_e h
              refine sm_callSi (q := 201) (As := [.inl p9.1]) (S := [.inr (.inl a0)]) (e_X12_isMark hc_p18) ms_X12_195 rfl (by decide) (Nat.le_of_ble_eq_true rfl) dX12_stepOn_198 rfl ?_
              rcases sm_if_e h with ⟨hb19, h⟩ | ⟨hb19, h⟩
              · refine sm_if_eq (tgt := 208) (q := 204) dX12_stepOn_201 (by decide) rfl (fun _ => ?_) (fun hn => absurd hb19 hn)
                refine sm_iconst (v := 4) (q := 209) dX12_stepOn_208 rfl (by decide) ?_
                obtain ⟨I20, hI20, h⟩ := sm_lt_e h
                refine sm_putI (q := 212) dX12_stepOn_209 rfl fk_X12_175 hc1 (by decide) (by decide) ?_
                refine sm_memI hI20 ?_
                refine sm_aload_n (q := 213) dX12_stepOn_212 rfl rfl 1 rfl ?_
                refine sm_aload_n (q := 214) dX12_stepOn_213 rfl rfl 1 rfl ?_
                refine sm_getI (q := 217) dX12_stepOn_214 rfl fk_X12_165 hc1 (by decide) (by decide) ?_
                obtain ⟨I21, hI21, h⟩ := sm_lt_e h
                refine sm_putI (q := 220) dX12_stepOn_217 rfl fk_X12_198 hc1 (by decide) (by decide) ?_
                refine sm_memI hI21 ?_
                obtain rfl := Option.some.inj h
                exact sm_vret dX12_stepOn_220 rfl
              · refine sm_if_eq (tgt := 208) (q := 204) dX12_stepOn_201 (by decide) rfl (fun ht => absurd ht hb19) (fun _ => ?_)
                refine sm_iconst (v := 3) (q := 205) dX12_stepOn_204 rfl (by decide) ?_
                refine sm_goto (q := 209) dX12_stepOn_205 (by decide) ?_
                obtain ⟨I22, hI22, h⟩ := sm_lt_e h
                refine sm_putI (q := 212) dX12_stepOn_209 rfl fk_X12_175 hc1 (by decide) (by decide) ?_
                refine sm_memI hI22 ?_
                refine sm_aload_n (q := 213) dX12_stepOn_212 rfl rfl 1 rfl ?_
                refine sm_aload_n (q := 214) dX12_stepOn_213 rfl rfl 1 rfl ?_
                refine sm_getI (q := 217) dX12_stepOn_214 rfl fk_X12_165 hc1 (by decide) (by decide) ?_
                obtain ⟨I23, hI23, h⟩ := sm_lt_e h
                refine sm_putI (q := 220) dX12_stepOn_217 rfl fk_X12_198 hc1 (by decide) (by decide) ?_
                refine sm_memI hI23 ?_
                obtain rfl := Option.some.inj h
                exact sm_vret dX12_stepOn_220 rfl
            · refine sm_if_eq (tgt := 186) (q := 118) dX12_stepOn_115 (by decide) rfl (fun ht => absurd ht hb16) (fun _ => ?_)
              refine sm_aload_n (q := 119) dX12_stepOn_118 rfl rfl 1 rfl ?_
              refine sm_iconst (v := 0) (q := 120) dX12_stepOn_119 rfl (by decide) ?_
              obtain ⟨I24, hI24, h⟩ := sm_lt_e h
              refine sm_putI (q := 123) dX12_stepOn_120 rfl fk_X12_185 hc1 (by decide) (by decide) ?_
              refine sm_memI hI24 ?_
              refine sm_pick [1] rfl ?_
              exact w_X12_stepOn_123 N R N _ _ _ h
          · refine sm_if_eq (tgt := 111) (q := 76) dX12_stepOn_73 (by decide) rfl (fun ht => absurd ht hb14) (fun _ => ?_)
            refine sm_pick [1] rfl ?_
            exact w_X12_stepOn_76 N R N _ _ _ h
theorem w_X12_stepOn {l : Launch} (N : Nat) (R : Nat → Nat → Nat) : ∀ (a0 : Nat) (I : (Nat → Nat → Int32)) (y : (Unit × (Nat → Nat → Int32))), f_X12_stepOn N R a0 I = some y → sm_W l 1 mX12_stepOn 0 [(0, .inr (.inl a0))] [] (I, R) (.inl none) (y.2, R) := fun a0 I y h => w_X12_stepOn_0 N R N a0 I y h
theorem e_X12_stepOn {l : Launch} {N : Nat} {R : Nat → Nat → Nat} {a0 : Nat} {I : (Nat → Nat → Int32)} {y : (Unit × (Nat → Nat → Int32))} (h : f_X12_stepOn N R a0 I = some y) : sm_E l 1 mX12_stepOn [.inr (.inl a0)] (I, R) (.inl none) (y.2, R) :=
  sm_meth (by decide) (Nat.le_of_ble_eq_true rfl) (w_X12_stepOn N R a0 I y h)
def f_X12_wrong (N : Nat) (R : Nat → Nat → Nat) : Nat → Int32 → (Nat → Nat → Int32) → Option (Unit × (Nat → Nat → Int32)) := fun a0 a1 I =>
  sm_gd (sm_kd a0 = (12, 59)) <|
  if (I a0 22) = 0 then (
    sm_lt (sm_up I a0 (sm_up (I a0) 22 a1)) fun I3 =>
    sm_lt (sm_up I3 a0 (sm_up (I3 a0) 23 (I3 a0 20))) fun I4 =>
    some ((), I4))
  else (
    some ((), I))
set_option maxHeartbeats 4000000 in
set_option maxRecDepth 100000 in
theorem w_X12_wrong {l : Launch} (N : Nat) (R : Nat → Nat → Nat) : ∀ (a0 : Nat) (a1 : Int32) (I : (Nat → Nat → Int32)) (y : (Unit × (Nat → Nat → Int32))), f_X12_wrong N R a0 a1 I = some y → sm_W l 0 mX12_wrong 0 [(0, .inr (.inl a0)), (1, .inl a1)] [] (I, R) (.inl none) (y.2, R) := by
  intro a0 a1 I y h
  unfold f_X12_wrong at h
  refine sm_aload_n (q := 1) dX12_wrong_0 rfl rfl 0 rfl ?_
  obtain ⟨hc1, h⟩ := sm_gd_e h
  refine sm_getI (q := 4) dX12_wrong_1 rfl fk_X12_201 hc1 (by decide) (by decide) ?_
  rcases sm_if_e h with ⟨hb2, h⟩ | ⟨hb2, h⟩
  · refine sm_if_eq (tgt := 8) (q := 7) dX12_wrong_4 (by decide) rfl (fun _ => ?_) (fun hn => absurd hb2 hn)
    refine sm_aload_n (q := 9) dX12_wrong_8 rfl rfl 0 rfl ?_
    refine sm_iload_n (q := 10) dX12_wrong_9 rfl rfl 1 rfl ?_
    obtain ⟨I3, hI3, h⟩ := sm_lt_e h
    refine sm_putI (q := 13) dX12_wrong_10 rfl fk_X12_201 hc1 (by decide) (by decide) ?_
    refine sm_memI hI3 ?_
    refine sm_aload_n (q := 14) dX12_wrong_13 rfl rfl 0 rfl ?_
    refine sm_aload_n (q := 15) dX12_wrong_14 rfl rfl 0 rfl ?_
    refine sm_getI (q := 18) dX12_wrong_15 rfl fk_X12_172 hc1 (by decide) (by decide) ?_
    obtain ⟨I4, hI4, h⟩ := sm_lt_e h
    refine sm_putI (q := 21) dX12_wrong_18 rfl fk_X12_204 hc1 (by decide) (by decide) ?_
    refine sm_memI hI4 ?_
    obtain rfl := Option.some.inj h
    exact sm_vret dX12_wrong_21 rfl
  · refine sm_if_eq (tgt := 8) (q := 7) dX12_wrong_4 (by decide) rfl (fun ht => absurd ht hb2) (fun _ => ?_)
    obtain rfl := Option.some.inj h
    exact sm_vret dX12_wrong_7 rfl
theorem e_X12_wrong {l : Launch} {N : Nat} {R : Nat → Nat → Nat} {a0 : Nat} {a1 : Int32} {I : (Nat → Nat → Int32)} {y : (Unit × (Nat → Nat → Int32))} (h : f_X12_wrong N R a0 a1 I = some y) : sm_E l 0 mX12_wrong [.inr (.inl a0), .inl a1] (I, R) (.inl none) (y.2, R) :=
  sm_meth (by decide) (Nat.le_of_ble_eq_true rfl) (w_X12_wrong N R a0 a1 I y h)
def f_X12_is_39 (N : Nat) (R : Nat → Nat → Nat) : Nat → Nat → Nat → Int32 → Int32 → (Nat → Nat → Int32) → Option (Int32 × (Nat → Nat → Int32))
  | 0, _, _, _, _, _ => none
  | n + 1, a0, a1, a2, a3, I =>
    if a2 = 0 then (
      sm_gd (a2 = 0 ∨ a2 = 1) <|
      some (a2, I))
    else (
      sm_gd (1000 ≤ a1 ∧ a1 < 1000 + sm_NS) <|
      if (sm_sln a1) ≤ a3 then (
        sm_gd (a2 = 0 ∨ a2 = 1) <|
        some (a2, I))
      else (
        sm_gd ((1000 ≤ a1 ∧ a1 < 1000 + sm_NS) ∧ ¬ (a3 < 0 ∨ sm_len.getD (a1 - 1000) 0 ≤ (a3).toNatClampNeg)) <|
        sm_gd (sm_kd a0 = (12, 59)) <|
        sm_gd ((sm_kd (R a0 14)).1 = 13 ∧ ¬ (((I a0 20) + a3) < 0 ∨ (sm_kd (R a0 14)).2 ≤ (((I a0 20) + a3)).toNatClampNeg)) <|
        if (sm_sch a1 a3) = (I (R a0 14) (((I a0 20) + a3)).toNatClampNeg) then (
          f_X12_is_39 N R n a0 a1 (1 : Int32) (a3 + 1) I)
        else (
          f_X12_is_39 N R n a0 a1 (0 : Int32) (a3 + 1) I)))
def f_X12_is (N : Nat) (R : Nat → Nat → Nat) : Nat → Nat → (Nat → Nat → Int32) → Option (Int32 × (Nat → Nat → Int32)) := fun a0 a1 I =>
  sm_gd (sm_kd a0 = (12, 59)) <|
  if (I a0 22) = 0 then (
    if (I a0 18) = (1 : Int32) then (
      sm_gd (1000 ≤ a1 ∧ a1 < 1000 + sm_NS) <|
      if (sm_sln a1) = ((I a0 21) - (I a0 20)) then (
        f_X12_is_39 N R N a0 a1 (1 : Int32) (0 : Int32) I)
      else (
        f_X12_is_39 N R N a0 a1 (0 : Int32) (0 : Int32) I))
    else (
      f_X12_is_39 N R N a0 a1 (0 : Int32) (0 : Int32) I))
  else (
    f_X12_is_39 N R N a0 a1 (0 : Int32) (0 : Int32) I)
set_option maxHeartbeats 4000000 in
set_option maxRecDepth 100000 in
theorem w_X12_is_39 {l : Launch} (N : Nat) (R : Nat → Nat → Nat) : ∀ (n : Nat) (a0 : Nat) (a1 : Nat) (a2 : Int32) (a3 : Int32) (I : (Nat → Nat → Int32)) (y : (Int32 × (Nat → Nat → Int32))), f_X12_is_39 N R n a0 a1 a2 a3 I = some y → sm_W l 4 mX12_is 39 [(0, .inr (.inl a0)), (1, .inr (.inl a1)), (2, .inl a2), (3, .inl a3)] [] (I, R) (.inl (some (.inl y.1))) (y.2, R) := by
  intro n
  induction n with
  | zero => intro a0 a1 a2 a3 I y h; cases h
  | succ n ih =>
    intro a0 a1 a2 a3 I y h
    rw [f_X12_is_39] at h
    refine sm_iload_n (q := 40) dX12_is_39 rfl rfl 2 rfl ?_
    rcases sm_if_e h with ⟨hb1, h⟩ | ⟨hb1, h⟩
    · refine sm_if_eq (tgt := 82) (q := 43) dX12_is_40 (by decide) rfl (fun _ => ?_) (fun hn => absurd hb1 hn)
      refine sm_iload_n (q := 83) dX12_is_82 rfl rfl 2 rfl ?_
      obtain ⟨hc2, h⟩ := sm_gd_e h
      obtain rfl := Option.some.inj h
      exact sm_zret dX12_is_83 rfl hc2
    · refine sm_if_eq (tgt := 82) (q := 43) dX12_is_40 (by decide) rfl (fun ht => absurd ht hb1) (fun _ => ?_)
      refine sm_iload_n (q := 44) dX12_is_43 rfl rfl 3 rfl ?_
      refine sm_aload_n (q := 45) dX12_is_44 rfl rfl 1 rfl ?_
      obtain ⟨hc3, h⟩ := sm_gd_e h
      refine sm_strlen (q := 48) dX12_is_45 rfl ml_X12_207 hc3.1 hc3.2 (Nat.le_of_ble_eq_true rfl) (by decide) ?_
      rcases sm_if_e h with ⟨hb4, h⟩ | ⟨hb4, h⟩
      · refine sm_icmp_ge (tgt := 82) (q := 51) dX12_is_48 (by decide) rfl (fun _ => ?_) (fun hn => absurd hb4 hn)
        refine sm_iload_n (q := 83) dX12_is_82 rfl rfl 2 rfl ?_
        obtain ⟨hc5, h⟩ := sm_gd_e h
        obtain rfl := Option.some.inj h
        exact sm_zret dX12_is_83 rfl hc5
      · refine sm_icmp_ge (tgt := 82) (q := 51) dX12_is_48 (by decide) rfl (fun ht => absurd ht hb4) (fun _ => ?_)
        refine sm_aload_n (q := 52) dX12_is_51 rfl rfl 1 rfl ?_
        refine sm_iload_n (q := 53) dX12_is_52 rfl rfl 3 rfl ?_
        obtain ⟨hc6, h⟩ := sm_gd_e h
        refine sm_strchr (q := 56) dX12_is_53 rfl ml_X12_211 hc6.1.1 hc6.1.2 hc6.2 (Nat.le_of_ble_eq_true rfl) (by decide) ?_
        refine sm_aload_n (q := 57) dX12_is_56 rfl rfl 0 rfl ?_
        obtain ⟨hc7, h⟩ := sm_gd_e h
        refine sm_getR (r := R a0 14) (q := 60) dX12_is_57 rfl fk_X12_69 hc7 (by decide) (by decide) rfl ?_
        refine sm_aload_n (q := 61) dX12_is_60 rfl rfl 0 rfl ?_
        refine sm_getI (q := 64) dX12_is_61 rfl fk_X12_172 hc7 (by decide) (by decide) ?_
        refine sm_iload_n (q := 65) dX12_is_64 rfl rfl 3 rfl ?_
        refine sm_iadd (q := 66) dX12_is_65 rfl ?_
        obtain ⟨hc8, h⟩ := sm_gd_e h
        refine sm_iald (n := (sm_kd (R a0 14)).2) (q := 67) dX12_is_66 rfl (Prod.ext hc8.1 rfl) hc8.2 ?_
        rcases sm_if_e h with ⟨hb9, h⟩ | ⟨hb9, h⟩
        · refine sm_icmp_ne (tgt := 74) (q := 70) dX12_is_67 (by decide) rfl (fun hn => absurd hb9 hn) (fun _ => ?_)
          refine sm_iconst (v := 1) (q := 71) dX12_is_70 rfl (by decide) ?_
          refine sm_goto (q := 75) dX12_is_71 (by decide) ?_
          refine sm_istore_n (L' := [(2, .inl (1 : Int32)), (0, .inr (.inl a0)), (1, .inr (.inl a1)), (3, .inl a3)]) (q := 76) dX12_is_75 rfl rfl (by decide) rfl ?_
          refine sm_iinc (v := (a3 + 1)) (L' := [(3, .inl (a3 + 1)), (2, .inl (1 : Int32)), (0, .inr (.inl a0)), (1, .inr (.inl a1))]) (q := 79) dX12_is_76 rfl 3 rfl rfl (by decide) rfl ?_
          refine sm_goto (q := 39) dX12_is_79 (by decide) ?_
          refine sm_pick [2, 3, 1, 0] rfl ?_
          exact ih _ _ _ _ _ _ h
        · refine sm_icmp_ne (tgt := 74) (q := 70) dX12_is_67 (by decide) rfl (fun _ => ?_) (fun he => absurd he hb9)
          refine sm_iconst (v := 0) (q := 75) dX12_is_74 rfl (by decide) ?_
          refine sm_istore_n (L' := [(2, .inl (0 : Int32)), (0, .inr (.inl a0)), (1, .inr (.inl a1)), (3, .inl a3)]) (q := 76) dX12_is_75 rfl rfl (by decide) rfl ?_
          refine sm_iinc (v := (a3 + 1)) (L' := [(3, .inl (a3 + 1)), (2, .inl (0 : Int32)), (0, .inr (.inl a0)), (1, .inr (.inl a1))]) (q := 79) dX12_is_76 rfl 3 rfl rfl (by decide) rfl ?_
          refine sm_goto (q := 39) dX12_is_79 (by decide) ?_
          refine sm_pick [2, 3, 1, 0] rfl ?_
          exact ih _ _ _ _ _ _ h
set_option maxHeartbeats 4000000 in
set_option maxRecDepth 100000 in
theorem w_X12_is {l : Launch} (N : Nat) (R : Nat → Nat → Nat) : ∀ (a0 : Nat) (a1 : Nat) (I : (Nat → Nat → Int32)) (y : (Int32 × (Nat → Nat → Int32))), f_X12_is N R a0 a1 I = some y → sm_W l 4 mX12_is 0 [(0, .inr (.inl a0)), (1, .inr (.inl a1))] [] (I, R) (.inl (some (.inl y.1))) (y.2, R) := by
  intro a0 a1 I y h
  unfold f_X12_is at h
  refine sm_aload_n (q := 1) dX12_is_0 rfl rfl 0 rfl ?_
  obtain ⟨hc1, h⟩ := sm_gd_e h
  refine sm_getI (q := 4) dX12_is_1 rfl fk_X12_201 hc1 (by decide) (by decide) ?_
  rcases sm_if_e h with ⟨hb2, h⟩ | ⟨hb2, h⟩
  · refine sm_if_ne (tgt := 35) (q := 7) dX12_is_4 (by decide) rfl (fun hn => absurd hb2 hn) (fun _ => ?_)
    refine sm_aload_n (q := 8) dX12_is_7 rfl rfl 0 rfl ?_
    refine sm_getI (q := 11) dX12_is_8 rfl fk_X12_175 hc1 (by decide) (by decide) ?_
    refine sm_iconst (v := 1) (q := 12) dX12_is_11 rfl (by decide) ?_
    rcases sm_if_e h with ⟨hb3, h⟩ | ⟨hb3, h⟩
    · refine sm_icmp_ne (tgt := 35) (q := 15) dX12_is_12 (by decide) rfl (fun hn => absurd hb3 hn) (fun _ => ?_)
      refine sm_aload_n (q := 16) dX12_is_15 rfl rfl 1 rfl ?_
      obtain ⟨hc4, h⟩ := sm_gd_e h
      refine sm_strlen (q := 19) dX12_is_16 rfl ml_X12_207 hc4.1 hc4.2 (Nat.le_of_ble_eq_true rfl) (by decide) ?_
      refine sm_aload_n (q := 20) dX12_is_19 rfl rfl 0 rfl ?_
      refine sm_getI (q := 23) dX12_is_20 rfl fk_X12_198 hc1 (by decide) (by decide) ?_
      refine sm_aload_n (q := 24) dX12_is_23 rfl rfl 0 rfl ?_
      refine sm_getI (q := 27) dX12_is_24 rfl fk_X12_172 hc1 (by decide) (by decide) ?_
      refine sm_isub (q := 28) dX12_is_27 rfl ?_
      rcases sm_if_e h with ⟨hb5, h⟩ | ⟨hb5, h⟩
      · refine sm_icmp_ne (tgt := 35) (q := 31) dX12_is_28 (by decide) rfl (fun hn => absurd hb5 hn) (fun _ => ?_)
        refine sm_iconst (v := 1) (q := 32) dX12_is_31 rfl (by decide) ?_
        refine sm_goto (q := 36) dX12_is_32 (by decide) ?_
        refine sm_istore_n (L' := [(2, .inl (1 : Int32)), (0, .inr (.inl a0)), (1, .inr (.inl a1))]) (q := 37) dX12_is_36 rfl rfl (by decide) rfl ?_
        refine sm_iconst (v := 0) (q := 38) dX12_is_37 rfl (by decide) ?_
        refine sm_istore_n (L' := [(3, .inl (0 : Int32)), (2, .inl (1 : Int32)), (0, .inr (.inl a0)), (1, .inr (.inl a1))]) (q := 39) dX12_is_38 rfl rfl (by decide) rfl ?_
        refine sm_pick [2, 3, 1, 0] rfl ?_
        exact w_X12_is_39 N R N _ _ _ _ _ _ h
      · refine sm_icmp_ne (tgt := 35) (q := 31) dX12_is_28 (by decide) rfl (fun _ => ?_) (fun he => absurd he hb5)
        refine sm_iconst (v := 0) (q := 36) dX12_is_35 rfl (by decide) ?_
        refine sm_istore_n (L' := [(2, .inl (0 : Int32)), (0, .inr (.inl a0)), (1, .inr (.inl a1))]) (q := 37) dX12_is_36 rfl rfl (by decide) rfl ?_
        refine sm_iconst (v := 0) (q := 38) dX12_is_37 rfl (by decide) ?_
        refine sm_istore_n (L' := [(3, .inl (0 : Int32)), (2, .inl (0 : Int32)), (0, .inr (.inl a0)), (1, .inr (.inl a1))]) (q := 39) dX12_is_38 rfl rfl (by decide) rfl ?_
        refine sm_pick [2, 3, 1, 0] rfl ?_
        exact w_X12_is_39 N R N _ _ _ _ _ _ h
    · refine sm_icmp_ne (tgt := 35) (q := 15) dX12_is_12 (by decide) rfl (fun _ => ?_) (fun he => absurd he hb3)
      refine sm_iconst (v := 0) (q := 36) dX12_is_35 rfl (by decide) ?_
      refine sm_istore_n (L' := [(2, .inl (0 : Int32)), (0, .inr (.inl a0)), (1, .inr (.inl a1))]) (q := 37) dX12_is_36 rfl rfl (by decide) rfl ?_
      refine sm_iconst (v := 0) (q := 38) dX12_is_37 rfl (by decide) ?_
      refine sm_istore_n (L' := [(3, .inl (0 : Int32)), (2, .inl (0 : Int32)), (0, .inr (.inl a0)), (1, .inr (.inl a1))]) (q := 39) dX12_is_38 rfl rfl (by decide) rfl ?_
      refine sm_pick [2, 3, 1, 0] rfl ?_
      exact w_X12_is_39 N R N _ _ _ _ _ _ h
  · refine sm_if_ne (tgt := 35) (q := 7) dX12_is_4 (by decide) rfl (fun _ => ?_) (fun he => absurd he hb2)
    refine sm_iconst (v := 0) (q := 36) dX12_is_35 rfl (by decide) ?_
    refine sm_istore_n (L' := [(2, .inl (0 : Int32)), (0, .inr (.inl a0)), (1, .inr (.inl a1))]) (q := 37) dX12_is_36 rfl rfl (by decide) rfl ?_
    refine sm_iconst (v := 0) (q := 38) dX12_is_37 rfl (by decide) ?_
    refine sm_istore_n (L' := [(3, .inl (0 : Int32)), (2, .inl (0 : Int32)), (0, .inr (.inl a0)), (1, .inr (.inl a1))]) (q := 39) dX12_is_38 rfl rfl (by decide) rfl ?_
    refine sm_pick [2, 3, 1, 0] rfl ?_
    exact w_X12_is_39 N R N _ _ _ _ _ _ h
theorem e_X12_is {l : Launch} {N : Nat} {R : Nat → Nat → Nat} {a0 : Nat} {a1 : Nat} {I : (Nat → Nat → Int32)} {y : (Int32 × (Nat → Nat → Int32))} (h : f_X12_is N R a0 a1 I = some y) : sm_E l 4 mX12_is [.inr (.inl a0), .inr (.inl a1)] (I, R) (.inl (some (.inl y.1))) (y.2, R) :=
  sm_meth (by decide) (Nat.le_of_ble_eq_true rfl) (w_X12_is N R a0 a1 I y h)
def f_X12_which_2 (N : Nat) (R : Nat → Nat → Nat) : Nat → Nat → Nat → Int32 → (Nat → Nat → Int32) → Option (Int32 × (Nat → Nat → Int32))
  | 0, _, _, _, _ => none
  | n + 1, a0, a1, a2, I =>
    sm_gd ((sm_kd a1).1 = 17) <|
    if (Int32.ofNat (sm_kd a1).2) ≤ a2 then (
      some ((-1 : Int32), I))
    else (
      sm_gd ((sm_kd a1).1 = 17 ∧ ¬ (a2 < 0 ∨ (sm_kd a1).2 ≤ (a2).toNatClampNeg)) <|
      sm_gd (sm_kd a0 = (12, 59)) <|
      (f_X12_is N R a0 (R a1 (a2).toNatClampNeg) I).bind fun p5 =>
      if p5.1 = 0 then (
        f_X12_which_2 N R n a0 a1 (a2 + 1) p5.2)
      else (
        some (a2, p5.2)))
def f_X12_which (N : Nat) (R : Nat → Nat → Nat) : Nat → Nat → (Nat → Nat → Int32) → Option (Int32 × (Nat → Nat → Int32)) := fun a0 a1 I =>
  f_X12_which_2 N R N a0 a1 (0 : Int32) I
set_option maxHeartbeats 4000000 in
set_option maxRecDepth 100000 in
theorem w_X12_which_2 {l : Launch} (N : Nat) (R : Nat → Nat → Nat) : ∀ (n : Nat) (a0 : Nat) (a1 : Nat) (a2 : Int32) (I : (Nat → Nat → Int32)) (y : (Int32 × (Nat → Nat → Int32))), f_X12_which_2 N R n a0 a1 a2 I = some y → sm_W l 5 mX12_which 2 [(0, .inr (.inl a0)), (1, .inr (.inl a1)), (2, .inl a2)] [] (I, R) (.inl (some (.inl y.1))) (y.2, R) := by
  intro n
  induction n with
  | zero => intro a0 a1 a2 I y h; cases h
  | succ n ih =>
    intro a0 a1 a2 I y h
    rw [f_X12_which_2] at h
    refine sm_iload_n (q := 3) dX12_which_2 rfl rfl 2 rfl ?_
    refine sm_aload_n (q := 4) dX12_which_3 rfl rfl 1 rfl ?_
    obtain ⟨hc1, h⟩ := sm_gd_e h
    refine sm_alenI (t := 4) (v := (Int32.ofNat (sm_kd a1).2)) (q := 5) dX12_which_4 rfl (Prod.ext hc1 rfl) (by decide) rfl ?_
    rcases sm_if_e h with ⟨hb2, h⟩ | ⟨hb2, h⟩
    · refine sm_icmp_ge (tgt := 26) (q := 8) dX12_which_5 (by decide) rfl (fun _ => ?_) (fun hn => absurd hb2 hn)
      refine sm_iconst (v := -1) (q := 27) dX12_which_26 rfl (by decide) ?_
      obtain rfl := Option.some.inj h
      exact sm_iret dX12_which_27 rfl
    · refine sm_icmp_ge (tgt := 26) (q := 8) dX12_which_5 (by decide) rfl (fun ht => absurd ht hb2) (fun _ => ?_)
      refine sm_aload_n (q := 9) dX12_which_8 rfl rfl 0 rfl ?_
      refine sm_aload_n (q := 10) dX12_which_9 rfl rfl 1 rfl ?_
      refine sm_iload_n (q := 11) dX12_which_10 rfl rfl 2 rfl ?_
      obtain ⟨hc3, h⟩ := sm_gd_e h
      refine sm_aald (t := 4) (n := (sm_kd a1).2) (q := 12) dX12_which_11 rfl (Prod.ext hc3.1 rfl) (Or.inr ⟨rfl, rfl⟩) hc3.2 rfl ?_
      obtain ⟨hc4, h⟩ := sm_gd_e h
      obtain ⟨p5, hc_p5, h⟩ := sm_bd_e h
      refine sm_callVi (q := 15) (As := [.inr (.inl (R a1 (a2).toNatClampNeg))]) (S := []) (e_X12_is hc_p5) mv_X12_215 hc4 rfl (by decide) (Nat.le_of_ble_eq_true rfl) dX12_which_12 rfl ?_
      rcases sm_if_e h with ⟨hb6, h⟩ | ⟨hb6, h⟩
      · refine sm_if_eq (tgt := 20) (q := 18) dX12_which_15 (by decide) rfl (fun _ => ?_) (fun hn => absurd hb6 hn)
        refine sm_iinc (v := (a2 + 1)) (L' := [(2, .inl (a2 + 1)), (0, .inr (.inl a0)), (1, .inr (.inl a1))]) (q := 23) dX12_which_20 rfl 2 rfl rfl (by decide) rfl ?_
        refine sm_goto (q := 2) dX12_which_23 (by decide) ?_
        refine sm_pick [1, 2, 0] rfl ?_
        exact ih _ _ _ _ _ h
      · refine sm_if_eq (tgt := 20) (q := 18) dX12_which_15 (by decide) rfl (fun ht => absurd ht hb6) (fun _ => ?_)
        refine sm_iload_n (q := 19) dX12_which_18 rfl rfl 2 rfl ?_
        obtain rfl := Option.some.inj h
        exact sm_iret dX12_which_19 rfl
set_option maxHeartbeats 4000000 in
set_option maxRecDepth 100000 in
theorem w_X12_which {l : Launch} (N : Nat) (R : Nat → Nat → Nat) : ∀ (a0 : Nat) (a1 : Nat) (I : (Nat → Nat → Int32)) (y : (Int32 × (Nat → Nat → Int32))), f_X12_which N R a0 a1 I = some y → sm_W l 5 mX12_which 0 [(0, .inr (.inl a0)), (1, .inr (.inl a1))] [] (I, R) (.inl (some (.inl y.1))) (y.2, R) := by
  intro a0 a1 I y h
  unfold f_X12_which at h
  refine sm_iconst (v := 0) (q := 1) dX12_which_0 rfl (by decide) ?_
  refine sm_istore_n (L' := [(2, .inl (0 : Int32)), (0, .inr (.inl a0)), (1, .inr (.inl a1))]) (q := 2) dX12_which_1 rfl rfl (by decide) rfl ?_
  refine sm_pick [1, 2, 0] rfl ?_
  exact w_X12_which_2 N R N _ _ _ _ _ h
theorem e_X12_which {l : Launch} {N : Nat} {R : Nat → Nat → Nat} {a0 : Nat} {a1 : Nat} {I : (Nat → Nat → Int32)} {y : (Int32 × (Nat → Nat → Int32))} (h : f_X12_which N R a0 a1 I = some y) : sm_E l 5 mX12_which [.inr (.inl a0), .inr (.inl a1)] (I, R) (.inl (some (.inl y.1))) (y.2, R) :=
  sm_meth (by decide) (Nat.le_of_ble_eq_true rfl) (w_X12_which N R a0 a1 I y h)
def f_X12_isMarked (N : Nat) (R : Nat → Nat → Nat) : Nat → Int32 → (Nat → Nat → Int32) → Option (Int32 × (Nat → Nat → Int32)) := fun a0 a1 I =>
  sm_gd (sm_kd a0 = (12, 59)) <|
  if (I a0 22) = 0 then (
    if (I a0 18) = (3 : Int32) then (
      sm_gd ((sm_kd (R a0 14)).1 = 13 ∧ ¬ ((I a0 20) < 0 ∨ (sm_kd (R a0 14)).2 ≤ ((I a0 20)).toNatClampNeg)) <|
      if (I (R a0 14) ((I a0 20)).toNatClampNeg) = a1 then (
        some ((1 : Int32), I))
      else (
        some ((0 : Int32), I)))
    else (
      some ((0 : Int32), I)))
  else (
    some ((0 : Int32), I))
set_option maxHeartbeats 4000000 in
set_option maxRecDepth 100000 in
theorem w_X12_isMarked {l : Launch} (N : Nat) (R : Nat → Nat → Nat) : ∀ (a0 : Nat) (a1 : Int32) (I : (Nat → Nat → Int32)) (y : (Int32 × (Nat → Nat → Int32))), f_X12_isMarked N R a0 a1 I = some y → sm_W l 0 mX12_isMarked 0 [(0, .inr (.inl a0)), (1, .inl a1)] [] (I, R) (.inl (some (.inl y.1))) (y.2, R) := by
  intro a0 a1 I y h
  unfold f_X12_isMarked at h
  refine sm_aload_n (q := 1) dX12_isMarked_0 rfl rfl 0 rfl ?_
  obtain ⟨hc1, h⟩ := sm_gd_e h
  refine sm_getI (q := 4) dX12_isMarked_1 rfl fk_X12_201 hc1 (by decide) (by decide) ?_
  rcases sm_if_e h with ⟨hb2, h⟩ | ⟨hb2, h⟩
  · refine sm_if_ne (tgt := 32) (q := 7) dX12_isMarked_4 (by decide) rfl (fun hn => absurd hb2 hn) (fun _ => ?_)
    refine sm_aload_n (q := 8) dX12_isMarked_7 rfl rfl 0 rfl ?_
    refine sm_getI (q := 11) dX12_isMarked_8 rfl fk_X12_175 hc1 (by decide) (by decide) ?_
    refine sm_iconst (v := 3) (q := 12) dX12_isMarked_11 rfl (by decide) ?_
    rcases sm_if_e h with ⟨hb3, h⟩ | ⟨hb3, h⟩
    · refine sm_icmp_ne (tgt := 32) (q := 15) dX12_isMarked_12 (by decide) rfl (fun hn => absurd hb3 hn) (fun _ => ?_)
      refine sm_aload_n (q := 16) dX12_isMarked_15 rfl rfl 0 rfl ?_
      refine sm_getR (r := R a0 14) (q := 19) dX12_isMarked_16 rfl fk_X12_69 hc1 (by decide) (by decide) rfl ?_
      refine sm_aload_n (q := 20) dX12_isMarked_19 rfl rfl 0 rfl ?_
      refine sm_getI (q := 23) dX12_isMarked_20 rfl fk_X12_172 hc1 (by decide) (by decide) ?_
      obtain ⟨hc4, h⟩ := sm_gd_e h
      refine sm_iald (n := (sm_kd (R a0 14)).2) (q := 24) dX12_isMarked_23 rfl (Prod.ext hc4.1 rfl) hc4.2 ?_
      refine sm_iload_n (q := 25) dX12_isMarked_24 rfl rfl 1 rfl ?_
      rcases sm_if_e h with ⟨hb5, h⟩ | ⟨hb5, h⟩
      · refine sm_icmp_ne (tgt := 32) (q := 28) dX12_isMarked_25 (by decide) rfl (fun hn => absurd hb5 hn) (fun _ => ?_)
        refine sm_iconst (v := 1) (q := 29) dX12_isMarked_28 rfl (by decide) ?_
        refine sm_goto (q := 33) dX12_isMarked_29 (by decide) ?_
        obtain rfl := Option.some.inj h
        exact sm_zret dX12_isMarked_33 rfl (by decide)
      · refine sm_icmp_ne (tgt := 32) (q := 28) dX12_isMarked_25 (by decide) rfl (fun _ => ?_) (fun he => absurd he hb5)
        refine sm_iconst (v := 0) (q := 33) dX12_isMarked_32 rfl (by decide) ?_
        obtain rfl := Option.some.inj h
        exact sm_zret dX12_isMarked_33 rfl (by decide)
    · refine sm_icmp_ne (tgt := 32) (q := 15) dX12_isMarked_12 (by decide) rfl (fun _ => ?_) (fun he => absurd he hb3)
      refine sm_iconst (v := 0) (q := 33) dX12_isMarked_32 rfl (by decide) ?_
      obtain rfl := Option.some.inj h
      exact sm_zret dX12_isMarked_33 rfl (by decide)
  · refine sm_if_ne (tgt := 32) (q := 7) dX12_isMarked_4 (by decide) rfl (fun _ => ?_) (fun he => absurd he hb2)
    refine sm_iconst (v := 0) (q := 33) dX12_isMarked_32 rfl (by decide) ?_
    obtain rfl := Option.some.inj h
    exact sm_zret dX12_isMarked_33 rfl (by decide)
theorem e_X12_isMarked {l : Launch} {N : Nat} {R : Nat → Nat → Nat} {a0 : Nat} {a1 : Int32} {I : (Nat → Nat → Int32)} {y : (Int32 × (Nat → Nat → Int32))} (h : f_X12_isMarked N R a0 a1 I = some y) : sm_E l 0 mX12_isMarked [.inr (.inl a0), .inl a1] (I, R) (.inl (some (.inl y.1))) (y.2, R) :=
  sm_meth (by decide) (Nat.le_of_ble_eq_true rfl) (w_X12_isMarked N R a0 a1 I y h)
def f_X12_mark_20 (N : Nat) (R : Nat → Nat → Nat) : Nat → (Nat → Nat → Int32) → Option (Unit × (Nat → Nat → Int32)) := fun a0 I =>
  sm_gd (sm_kd a0 = (12, 59)) <|
  if (I a0 22) = 0 then (
    (f_X12_stepOn N R a0 I).bind fun p3 =>
    some ((), p3.2))
  else (
    some ((), I))
def f_X12_mark (N : Nat) (R : Nat → Nat → Nat) : Nat → Int32 → (Nat → Nat → Int32) → Option (Unit × (Nat → Nat → Int32)) := fun a0 a1 I =>
  sm_gd (sm_kd a0 = (12, 59)) <|
  if (I a0 22) = 0 then (
    (f_X12_isMarked N R a0 a1 I).bind fun p3 =>
    if p3.1 = 0 then (
      (f_X12_wrong N R a0 (1 : Int32) p3.2).bind fun p5 =>
      f_X12_mark_20 N R a0 p5.2)
    else (
      f_X12_mark_20 N R a0 p3.2))
  else (
    f_X12_mark_20 N R a0 I)
set_option maxHeartbeats 4000000 in
set_option maxRecDepth 100000 in
theorem w_X12_mark_20 {l : Launch} (N : Nat) (R : Nat → Nat → Nat) : ∀ (a0 : Nat) (I : (Nat → Nat → Int32)) (y : (Unit × (Nat → Nat → Int32))), f_X12_mark_20 N R a0 I = some y → sm_W l 2 mX12_mark 20 [(0, .inr (.inl a0))] [] (I, R) (.inl none) (y.2, R) := by
  intro a0 I y h
  unfold f_X12_mark_20 at h
  refine sm_aload_n (q := 21) dX12_mark_20 rfl rfl 0 rfl ?_
  obtain ⟨hc1, h⟩ := sm_gd_e h
  refine sm_getI (q := 24) dX12_mark_21 rfl fk_X12_201 hc1 (by decide) (by decide) ?_
  rcases sm_if_e h with ⟨hb2, h⟩ | ⟨hb2, h⟩
  · refine sm_if_ne (tgt := 31) (q := 27) dX12_mark_24 (by decide) rfl (fun hn => absurd hb2 hn) (fun _ => ?_)
    refine sm_aload_n (q := 28) dX12_mark_27 rfl rfl 0 rfl ?_
    obtain ⟨p3, hc_p3, h⟩ := sm_bd_e h
    refine sm_callVv (q := 31) (As := []) (S := []) (e_X12_stepOn hc_p3) mv_X12_226 hc1 rfl (by decide) (Nat.le_of_ble_eq_true rfl) dX12_mark_28 rfl ?_
    obtain rfl := Option.some.inj h
    exact sm_vret dX12_mark_31 rfl
  · refine sm_if_ne (tgt := 31) (q := 27) dX12_mark_24 (by decide) rfl (fun _ => ?_) (fun he => absurd he hb2)
    obtain rfl := Option.some.inj h
    exact sm_vret dX12_mark_31 rfl
set_option maxHeartbeats 4000000 in
set_option maxRecDepth 100000 in
theorem w_X12_mark {l : Launch} (N : Nat) (R : Nat → Nat → Nat) : ∀ (a0 : Nat) (a1 : Int32) (I : (Nat → Nat → Int32)) (y : (Unit × (Nat → Nat → Int32))), f_X12_mark N R a0 a1 I = some y → sm_W l 2 mX12_mark 0 [(0, .inr (.inl a0)), (1, .inl a1)] [] (I, R) (.inl none) (y.2, R) := by
  intro a0 a1 I y h
  unfold f_X12_mark at h
  refine sm_aload_n (q := 1) dX12_mark_0 rfl rfl 0 rfl ?_
  obtain ⟨hc1, h⟩ := sm_gd_e h
  refine sm_getI (q := 4) dX12_mark_1 rfl fk_X12_201 hc1 (by decide) (by decide) ?_
  rcases sm_if_e h with ⟨hb2, h⟩ | ⟨hb2, h⟩
  · refine sm_if_ne (tgt := 20) (q := 7) dX12_mark_4 (by decide) rfl (fun hn => absurd hb2 hn) (fun _ => ?_)
    refine sm_aload_n (q := 8) dX12_mark_7 rfl rfl 0 rfl ?_
    refine sm_iload_n (q := 9) dX12_mark_8 rfl rfl 1 rfl ?_
    obtain ⟨p3, hc_p3, h⟩ := sm_bd_e h
    refine sm_callVi (q := 12) (As := [.inl a1]) (S := []) (e_X12_isMarked hc_p3) mv_X12_219 hc1 rfl (by decide) (Nat.le_of_ble_eq_true rfl) dX12_mark_9 rfl ?_
    rcases sm_if_e h with ⟨hb4, h⟩ | ⟨hb4, h⟩
    · refine sm_if_ne (tgt := 20) (q := 15) dX12_mark_12 (by decide) rfl (fun hn => absurd hb4 hn) (fun _ => ?_)
      refine sm_aload_n (q := 16) dX12_mark_15 rfl rfl 0 rfl ?_
      refine sm_iconst (v := 1) (q := 17) dX12_mark_16 rfl (by decide) ?_
      obtain ⟨p5, hc_p5, h⟩ := sm_bd_e h
      refine sm_callVv (q := 20) (As := [.inl (1 : Int32)]) (S := []) (e_X12_wrong hc_p5) mv_X12_222 hc1 rfl (by decide) (Nat.le_of_ble_eq_true rfl) dX12_mark_17 rfl ?_
      refine sm_pick [0] rfl ?_
      exact w_X12_mark_20 N R _ _ _ h
    · refine sm_if_ne (tgt := 20) (q := 15) dX12_mark_12 (by decide) rfl (fun _ => ?_) (fun he => absurd he hb4)
      refine sm_pick [0] rfl ?_
      exact w_X12_mark_20 N R _ _ _ h
  · refine sm_if_ne (tgt := 20) (q := 7) dX12_mark_4 (by decide) rfl (fun _ => ?_) (fun he => absurd he hb2)
    refine sm_pick [0] rfl ?_
    exact w_X12_mark_20 N R _ _ _ h
theorem e_X12_mark {l : Launch} {N : Nat} {R : Nat → Nat → Nat} {a0 : Nat} {a1 : Int32} {I : (Nat → Nat → Int32)} {y : (Unit × (Nat → Nat → Int32))} (h : f_X12_mark N R a0 a1 I = some y) : sm_E l 2 mX12_mark [.inr (.inl a0), .inl a1] (I, R) (.inl none) (y.2, R) :=
  sm_meth (by decide) (Nat.le_of_ble_eq_true rfl) (w_X12_mark N R a0 a1 I y h)
def f_X12_numberNow_59 (N : Nat) (R : Nat → Nat → Nat) : Nat → (Nat → Nat → Int32) → Option (Int32 × (Nat → Nat → Int32)) := fun a0 I =>
  sm_gd (sm_kd a0 = (12, 59)) <|
  if (I a0 22) = 0 then (
    some ((I a0 19), I))
  else (
    some ((0 : Int32), I))
def f_X12_numberNow (N : Nat) (R : Nat → Nat → Nat) : Nat → Int32 → Int32 → (Nat → Nat → Int32) → Option (Int32 × (Nat → Nat → Int32)) := fun a0 a1 a2 I =>
  sm_gd (sm_kd a0 = (12, 59)) <|
  if (I a0 22) = 0 then (
    if (I a0 18) = (2 : Int32) then (
      if (4 : Int32) < ((I a0 21) - (I a0 20)) then (
        (f_X12_wrong N R a0 (2 : Int32) I).bind fun p5 =>
        f_X12_numberNow_59 N R a0 p5.2)
      else (
        if (I a0 19) < a1 then (
          (f_X12_wrong N R a0 (2 : Int32) I).bind fun p7 =>
          f_X12_numberNow_59 N R a0 p7.2)
        else (
          if (I a0 19) ≤ a2 then (
            f_X12_numberNow_59 N R a0 I)
          else (
            (f_X12_wrong N R a0 (2 : Int32) I).bind fun p9 =>
            f_X12_numberNow_59 N R a0 p9.2))))
    else (
      (f_X12_wrong N R a0 (1 : Int32) I).bind fun p10 =>
      f_X12_numberNow_59 N R a0 p10.2))
  else (
    some ((0 : Int32), I))
set_option maxHeartbeats 4000000 in
set_option maxRecDepth 100000 in
theorem w_X12_numberNow_59 {l : Launch} (N : Nat) (R : Nat → Nat → Nat) : ∀ (a0 : Nat) (I : (Nat → Nat → Int32)) (y : (Int32 × (Nat → Nat → Int32))), f_X12_numberNow_59 N R a0 I = some y → sm_W l 1 mX12_numberNow 59 [(0, .inr (.inl a0))] [] (I, R) (.inl (some (.inl y.1))) (y.2, R) := by
  intro a0 I y h
  unfold f_X12_numberNow_59 at h
  refine sm_aload_n (q := 60) dX12_numberNow_59 rfl rfl 0 rfl ?_
  obtain ⟨hc1, h⟩ := sm_gd_e h
  refine sm_getI (q := 63) dX12_numberNow_60 rfl fk_X12_201 hc1 (by decide) (by decide) ?_
  rcases sm_if_e h with ⟨hb2, h⟩ | ⟨hb2, h⟩
  · refine sm_if_ne (tgt := 73) (q := 66) dX12_numberNow_63 (by decide) rfl (fun hn => absurd hb2 hn) (fun _ => ?_)
    refine sm_aload_n (q := 67) dX12_numberNow_66 rfl rfl 0 rfl ?_
    refine sm_getI (q := 70) dX12_numberNow_67 rfl fk_X12_185 hc1 (by decide) (by decide) ?_
    refine sm_goto (q := 74) dX12_numberNow_70 (by decide) ?_
    obtain rfl := Option.some.inj h
    exact sm_iret dX12_numberNow_74 rfl
  · refine sm_if_ne (tgt := 73) (q := 66) dX12_numberNow_63 (by decide) rfl (fun _ => ?_) (fun he => absurd he hb2)
    refine sm_iconst (v := 0) (q := 74) dX12_numberNow_73 rfl (by decide) ?_
    obtain rfl := Option.some.inj h
    exact sm_iret dX12_numberNow_74 rfl
set_option maxHeartbeats 4000000 in
set_option maxRecDepth 100000 in
theorem w_X12_numberNow {l : Launch} (N : Nat) (R : Nat → Nat → Nat) : ∀ (a0 : Nat) (a1 : Int32) (a2 : Int32) (I : (Nat → Nat → Int32)) (y : (Int32 × (Nat → Nat → Int32))), f_X12_numberNow N R a0 a1 a2 I = some y → sm_W l 1 mX12_numberNow 0 [(0, .inr (.inl a0)), (1, .inl a1), (2, .inl a2)] [] (I, R) (.inl (some (.inl y.1))) (y.2, R) := by
  intro a0 a1 a2 I y h
  unfold f_X12_numberNow at h
  refine sm_aload_n (q := 1) dX12_numberNow_0 rfl rfl 0 rfl ?_
  obtain ⟨hc1, h⟩ := sm_gd_e h
  refine sm_getI (q := 4) dX12_numberNow_1 rfl fk_X12_201 hc1 (by decide) (by decide) ?_
  rcases sm_if_e h with ⟨hb2, h⟩ | ⟨hb2, h⟩
  · refine sm_if_eq (tgt := 9) (q := 7) dX12_numberNow_4 (by decide) rfl (fun _ => ?_) (fun hn => absurd hb2 hn)
    refine sm_aload_n (q := 10) dX12_numberNow_9 rfl rfl 0 rfl ?_
    refine sm_getI (q := 13) dX12_numberNow_10 rfl fk_X12_175 hc1 (by decide) (by decide) ?_
    refine sm_iconst (v := 2) (q := 14) dX12_numberNow_13 rfl (by decide) ?_
    rcases sm_if_e h with ⟨hb3, h⟩ | ⟨hb3, h⟩
    · refine sm_icmp_eq (tgt := 25) (q := 17) dX12_numberNow_14 (by decide) rfl (fun _ => ?_) (fun hn => absurd hb3 hn)
      refine sm_aload_n (q := 26) dX12_numberNow_25 rfl rfl 0 rfl ?_
      refine sm_getI (q := 29) dX12_numberNow_26 rfl fk_X12_198 hc1 (by decide) (by decide) ?_
      refine sm_aload_n (q := 30) dX12_numberNow_29 rfl rfl 0 rfl ?_
      refine sm_getI (q := 33) dX12_numberNow_30 rfl fk_X12_172 hc1 (by decide) (by decide) ?_
      refine sm_isub (q := 34) dX12_numberNow_33 rfl ?_
      refine sm_iconst (v := 4) (q := 35) dX12_numberNow_34 rfl (by decide) ?_
      rcases sm_if_e h with ⟨hb4, h⟩ | ⟨hb4, h⟩
      · refine sm_icmp_gt (tgt := 54) (q := 38) dX12_numberNow_35 (by decide) rfl (fun _ => ?_) (fun hn => absurd hb4 hn)
        refine sm_aload_n (q := 55) dX12_numberNow_54 rfl rfl 0 rfl ?_
        refine sm_iconst (v := 2) (q := 56) dX12_numberNow_55 rfl (by decide) ?_
        obtain ⟨p5, hc_p5, h⟩ := sm_bd_e h
        refine sm_callVv (q := 59) (As := [.inl (2 : Int32)]) (S := []) (e_X12_wrong hc_p5) mv_X12_222 hc1 rfl (by decide) (Nat.le_of_ble_eq_true rfl) dX12_numberNow_56 rfl ?_
        refine sm_pick [0] rfl ?_
        exact w_X12_numberNow_59 N R _ _ _ h
      · refine sm_icmp_gt (tgt := 54) (q := 38) dX12_numberNow_35 (by decide) rfl (fun ht => absurd ht hb4) (fun _ => ?_)
        refine sm_aload_n (q := 39) dX12_numberNow_38 rfl rfl 0 rfl ?_
        refine sm_getI (q := 42) dX12_numberNow_39 rfl fk_X12_185 hc1 (by decide) (by decide) ?_
        refine sm_iload_n (q := 43) dX12_numberNow_42 rfl rfl 1 rfl ?_
        rcases sm_if_e h with ⟨hb6, h⟩ | ⟨hb6, h⟩
        · refine sm_icmp_lt (tgt := 54) (q := 46) dX12_numberNow_43 (by decide) rfl (fun _ => ?_) (fun hn => absurd hb6 hn)
          refine sm_aload_n (q := 55) dX12_numberNow_54 rfl rfl 0 rfl ?_
          refine sm_iconst (v := 2) (q := 56) dX12_numberNow_55 rfl (by decide) ?_
          obtain ⟨p7, hc_p7, h⟩ := sm_bd_e h
          refine sm_callVv (q := 59) (As := [.inl (2 : Int32)]) (S := []) (e_X12_wrong hc_p7) mv_X12_222 hc1 rfl (by decide) (Nat.le_of_ble_eq_true rfl) dX12_numberNow_56 rfl ?_
          refine sm_pick [0] rfl ?_
          exact w_X12_numberNow_59 N R _ _ _ h
        · refine sm_icmp_lt (tgt := 54) (q := 46) dX12_numberNow_43 (by decide) rfl (fun ht => absurd ht hb6) (fun _ => ?_)
          refine sm_aload_n (q := 47) dX12_numberNow_46 rfl rfl 0 rfl ?_
          refine sm_getI (q := 50) dX12_numberNow_47 rfl fk_X12_185 hc1 (by decide) (by decide) ?_
          refine sm_iload_n (q := 51) dX12_numberNow_50 rfl rfl 2 rfl ?_
          rcases sm_if_e h with ⟨hb8, h⟩ | ⟨hb8, h⟩
          · refine sm_icmp_le (tgt := 59) (q := 54) dX12_numberNow_51 (by decide) rfl (fun _ => ?_) (fun hn => absurd hb8 hn)
            refine sm_pick [0] rfl ?_
            exact w_X12_numberNow_59 N R _ _ _ h
          · refine sm_icmp_le (tgt := 59) (q := 54) dX12_numberNow_51 (by decide) rfl (fun ht => absurd ht hb8) (fun _ => ?_)
            refine sm_aload_n (q := 55) dX12_numberNow_54 rfl rfl 0 rfl ?_
            refine sm_iconst (v := 2) (q := 56) dX12_numberNow_55 rfl (by decide) ?_
            obtain ⟨p9, hc_p9, h⟩ := sm_bd_e h
            refine sm_callVv (q := 59) (As := [.inl (2 : Int32)]) (S := []) (e_X12_wrong hc_p9) mv_X12_222 hc1 rfl (by decide) (Nat.le_of_ble_eq_true rfl) dX12_numberNow_56 rfl ?_
            refine sm_pick [0] rfl ?_
            exact w_X12_numberNow_59 N R _ _ _ h
    · refine sm_icmp_eq (tgt := 25) (q := 17) dX12_numberNow_14 (by decide) rfl (fun ht => absurd ht hb3) (fun _ => ?_)
      refine sm_aload_n (q := 18) dX12_numberNow_17 rfl rfl 0 rfl ?_
      refine sm_iconst (v := 1) (q := 19) dX12_numberNow_18 rfl (by decide) ?_
      obtain ⟨p10, hc_p10, h⟩ := sm_bd_e h
      refine sm_callVv (q := 22) (As := [.inl (1 : Int32)]) (S := []) (e_X12_wrong hc_p10) mv_X12_222 hc1 rfl (by decide) (Nat.le_of_ble_eq_true rfl) dX12_numberNow_19 rfl ?_
      refine sm_goto (q := 59) dX12_numberNow_22 (by decide) ?_
      refine sm_pick [0] rfl ?_
      exact w_X12_numberNow_59 N R _ _ _ h
  · refine sm_if_eq (tgt := 9) (q := 7) dX12_numberNow_4 (by decide) rfl (fun ht => absurd ht hb2) (fun _ => ?_)
    refine sm_iconst (v := 0) (q := 8) dX12_numberNow_7 rfl (by decide) ?_
    obtain rfl := Option.some.inj h
    exact sm_iret dX12_numberNow_8 rfl
theorem e_X12_numberNow {l : Launch} {N : Nat} {R : Nat → Nat → Nat} {a0 : Nat} {a1 : Int32} {a2 : Int32} {I : (Nat → Nat → Int32)} {y : (Int32 × (Nat → Nat → Int32))} (h : f_X12_numberNow N R a0 a1 a2 I = some y) : sm_E l 1 mX12_numberNow [.inr (.inl a0), .inl a1, .inl a2] (I, R) (.inl (some (.inl y.1))) (y.2, R) :=
  sm_meth (by decide) (Nat.le_of_ble_eq_true rfl) (w_X12_numberNow N R a0 a1 a2 I y h)
def f_X12_readNumber (N : Nat) (R : Nat → Nat → Nat) : Nat → Int32 → Int32 → (Nat → Nat → Int32) → Option (Int32 × (Nat → Nat → Int32)) := fun a0 a1 a2 I =>
  sm_gd (sm_kd a0 = (12, 59)) <|
  (f_X12_numberNow N R a0 a1 a2 I).bind fun p2 =>
  if (p2.2 a0 22) = 0 then (
    (f_X12_stepOn N R a0 p2.2).bind fun p4 =>
    some (p2.1, p4.2))
  else (
    some (p2.1, p2.2))
set_option maxHeartbeats 4000000 in
set_option maxRecDepth 100000 in
theorem w_X12_readNumber {l : Launch} (N : Nat) (R : Nat → Nat → Nat) : ∀ (a0 : Nat) (a1 : Int32) (a2 : Int32) (I : (Nat → Nat → Int32)) (y : (Int32 × (Nat → Nat → Int32))), f_X12_readNumber N R a0 a1 a2 I = some y → sm_W l 2 mX12_readNumber 0 [(0, .inr (.inl a0)), (1, .inl a1), (2, .inl a2)] [] (I, R) (.inl (some (.inl y.1))) (y.2, R) := by
  intro a0 a1 a2 I y h
  unfold f_X12_readNumber at h
  refine sm_aload_n (q := 1) dX12_readNumber_0 rfl rfl 0 rfl ?_
  refine sm_iload_n (q := 2) dX12_readNumber_1 rfl rfl 1 rfl ?_
  refine sm_iload_n (q := 3) dX12_readNumber_2 rfl rfl 2 rfl ?_
  obtain ⟨hc1, h⟩ := sm_gd_e h
  obtain ⟨p2, hc_p2, h⟩ := sm_bd_e h
  refine sm_callVi (q := 6) (As := [.inl a1, .inl a2]) (S := []) (e_X12_numberNow hc_p2) mv_X12_229 hc1 rfl (by decide) (Nat.le_of_ble_eq_true rfl) dX12_readNumber_3 rfl ?_
  refine sm_istore_n (L' := [(3, .inl p2.1), (0, .inr (.inl a0)), (1, .inl a1), (2, .inl a2)]) (q := 7) dX12_readNumber_6 rfl rfl (by decide) rfl ?_
  refine sm_aload_n (q := 8) dX12_readNumber_7 rfl rfl 1 rfl ?_
  refine sm_getI (q := 11) dX12_readNumber_8 rfl fk_X12_201 hc1 (by decide) (by decide) ?_
  rcases sm_if_e h with ⟨hb3, h⟩ | ⟨hb3, h⟩
  · refine sm_if_ne (tgt := 18) (q := 14) dX12_readNumber_11 (by decide) rfl (fun hn => absurd hb3 hn) (fun _ => ?_)
    refine sm_aload_n (q := 15) dX12_readNumber_14 rfl rfl 1 rfl ?_
    obtain ⟨p4, hc_p4, h⟩ := sm_bd_e h
    refine sm_callVv (q := 18) (As := []) (S := []) (e_X12_stepOn hc_p4) mv_X12_226 hc1 rfl (by decide) (Nat.le_of_ble_eq_true rfl) dX12_readNumber_15 rfl ?_
    refine sm_iload_n (q := 19) dX12_readNumber_18 rfl rfl 0 rfl ?_
    obtain rfl := Option.some.inj h
    exact sm_iret dX12_readNumber_19 rfl
  · refine sm_if_ne (tgt := 18) (q := 14) dX12_readNumber_11 (by decide) rfl (fun _ => ?_) (fun he => absurd he hb3)
    refine sm_iload_n (q := 19) dX12_readNumber_18 rfl rfl 0 rfl ?_
    obtain rfl := Option.some.inj h
    exact sm_iret dX12_readNumber_19 rfl
theorem e_X12_readNumber {l : Launch} {N : Nat} {R : Nat → Nat → Nat} {a0 : Nat} {a1 : Int32} {a2 : Int32} {I : (Nat → Nat → Int32)} {y : (Int32 × (Nat → Nat → Int32))} (h : f_X12_readNumber N R a0 a1 a2 I = some y) : sm_E l 2 mX12_readNumber [.inr (.inl a0), .inl a1, .inl a2] (I, R) (.inl (some (.inl y.1))) (y.2, R) :=
  sm_meth (by decide) (Nat.le_of_ble_eq_true rfl) (w_X12_readNumber N R a0 a1 a2 I y h)
def f_X12_lay (N : Nat) (R : Nat → Nat → Nat) : Nat → Int32 → (Nat → Nat → Int32) → Option (Unit × (Nat → Nat → Int32)) := fun a0 a1 I =>
  sm_gd (sm_kd a0 = (12, 59)) <|
  if (I a0 22) = 0 then (
    sm_gd ((sm_kd (R a0 4)).1 = 13 ∧ ¬ ((7 : Int32) < 0 ∨ (sm_kd (R a0 4)).2 ≤ ((7 : Int32)).toNatClampNeg)) <|
    sm_gd ((sm_kd (R a0 12)).1 = 13 ∧ ¬ (((700 : Int32) + (I (R a0 4) ((7 : Int32)).toNatClampNeg)) < 0 ∨ (sm_kd (R a0 12)).2 ≤ (((700 : Int32) + (I (R a0 4) ((7 : Int32)).toNatClampNeg))).toNatClampNeg)) <|
    sm_lt (sm_up I (R a0 12) (sm_up (I (R a0 12)) (((700 : Int32) + (I (R a0 4) ((7 : Int32)).toNatClampNeg))).toNatClampNeg a1)) fun I5 =>
    sm_lt (sm_up I5 (R a0 4) (sm_up (I5 (R a0 4)) ((7 : Int32)).toNatClampNeg ((I5 (R a0 4) ((7 : Int32)).toNatClampNeg) + (1 : Int32)))) fun I6 =>
    some ((), I6))
  else (
    some ((), I))
set_option maxHeartbeats 4000000 in
set_option maxRecDepth 100000 in
theorem w_X12_lay {l : Launch} (N : Nat) (R : Nat → Nat → Nat) : ∀ (a0 : Nat) (a1 : Int32) (I : (Nat → Nat → Int32)) (y : (Unit × (Nat → Nat → Int32))), f_X12_lay N R a0 a1 I = some y → sm_W l 0 mX12_lay 0 [(0, .inr (.inl a0)), (1, .inl a1)] [] (I, R) (.inl none) (y.2, R) := by
  intro a0 a1 I y h
  unfold f_X12_lay at h
  refine sm_aload_n (q := 1) dX12_lay_0 rfl rfl 0 rfl ?_
  obtain ⟨hc1, h⟩ := sm_gd_e h
  refine sm_getI (q := 4) dX12_lay_1 rfl fk_X12_201 hc1 (by decide) (by decide) ?_
  rcases sm_if_e h with ⟨hb2, h⟩ | ⟨hb2, h⟩
  · refine sm_if_eq (tgt := 8) (q := 7) dX12_lay_4 (by decide) rfl (fun _ => ?_) (fun hn => absurd hb2 hn)
    refine sm_aload_n (q := 9) dX12_lay_8 rfl rfl 0 rfl ?_
    refine sm_getR (r := R a0 12) (q := 12) dX12_lay_9 rfl fk_X12_63 hc1 (by decide) (by decide) rfl ?_
    refine sm_sipush (v := 700) (q := 15) dX12_lay_12 rfl (by decide) ?_
    refine sm_aload_n (q := 16) dX12_lay_15 rfl rfl 0 rfl ?_
    refine sm_getR (r := R a0 4) (q := 19) dX12_lay_16 rfl fk_X12_41 hc1 (by decide) (by decide) rfl ?_
    refine sm_bipush (v := 7) (q := 21) dX12_lay_19 rfl (by decide) ?_
    obtain ⟨hc3, h⟩ := sm_gd_e h
    refine sm_iald (n := (sm_kd (R a0 4)).2) (q := 22) dX12_lay_21 rfl (Prod.ext hc3.1 rfl) hc3.2 ?_
    refine sm_iadd (q := 23) dX12_lay_22 rfl ?_
    refine sm_iload_n (q := 24) dX12_lay_23 rfl rfl 1 rfl ?_
    obtain ⟨hc4, h⟩ := sm_gd_e h
    obtain ⟨I5, hI5, h⟩ := sm_lt_e h
    refine sm_iast (n := (sm_kd (R a0 12)).2) (q := 25) dX12_lay_24 rfl (Prod.ext hc4.1 rfl) hc4.2 ?_
    refine sm_memI hI5 ?_
    refine sm_aload_n (q := 26) dX12_lay_25 rfl rfl 0 rfl ?_
    refine sm_getR (r := R a0 4) (q := 29) dX12_lay_26 rfl fk_X12_41 hc1 (by decide) (by decide) rfl ?_
    refine sm_bipush (v := 7) (q := 31) dX12_lay_29 rfl (by decide) ?_
    refine sm_dup2 (q := 32) dX12_lay_31 rfl rfl rfl ?_
    refine sm_iald (n := (sm_kd (R a0 4)).2) (q := 33) dX12_lay_32 rfl (Prod.ext hc3.1 rfl) hc3.2 ?_
    refine sm_iconst (v := 1) (q := 34) dX12_lay_33 rfl (by decide) ?_
    refine sm_iadd (q := 35) dX12_lay_34 rfl ?_
    obtain ⟨I6, hI6, h⟩ := sm_lt_e h
    refine sm_iast (n := (sm_kd (R a0 4)).2) (q := 36) dX12_lay_35 rfl (Prod.ext hc3.1 rfl) hc3.2 ?_
    refine sm_memI hI6 ?_
    obtain rfl := Option.some.inj h
    exact sm_vret dX12_lay_36 rfl
  · refine sm_if_eq (tgt := 8) (q := 7) dX12_lay_4 (by decide) rfl (fun ht => absurd ht hb2) (fun _ => ?_)
    obtain rfl := Option.some.inj h
    exact sm_vret dX12_lay_7 rfl
theorem e_X12_lay {l : Launch} {N : Nat} {R : Nat → Nat → Nat} {a0 : Nat} {a1 : Int32} {I : (Nat → Nat → Int32)} {y : (Unit × (Nat → Nat → Int32))} (h : f_X12_lay N R a0 a1 I = some y) : sm_E l 0 mX12_lay [.inr (.inl a0), .inl a1] (I, R) (.inl none) (y.2, R) :=
  sm_meth (by decide) (Nat.le_of_ble_eq_true rfl) (w_X12_lay N R a0 a1 I y h)
def f_X12_readProduct_39 (N : Nat) (R : Nat → Nat → Nat) (rc_X12_readProduct : Nat → Int32 → (Nat → Nat → Int32) → Option (Unit × (Nat → Nat → Int32))) (rc_X12_readSum : Nat → Int32 → (Nat → Nat → Int32) → Option (Unit × (Nat → Nat → Int32))) (rc_X12_readNot : Nat → Int32 → (Nat → Nat → Int32) → Option (Unit × (Nat → Nat → Int32))) (rc_X12_readAnd : Nat → Int32 → (Nat → Nat → Int32) → Option (Unit × (Nat → Nat → Int32))) (rc_X12_readExpression : Nat → Int32 → (Nat → Nat → Int32) → Option (Unit × (Nat → Nat → Int32))) (rc_X12_readPart : Nat → Int32 → (Nat → Nat → Int32) → Option (Unit × (Nat → Nat → Int32))) (k_5 : Nat → Int32 → (Nat → Nat → Int32) → Option (Unit × (Nat → Nat → Int32))) : Nat → Int32 → Int32 → (Nat → Nat → Int32) → Option (Unit × (Nat → Nat → Int32)) := fun a0 a1 b0 I =>
  sm_gd (sm_kd a0 = (12, 59)) <|
  (f_X12_stepOn N R a0 I).bind fun p2 =>
  (rc_X12_readPart a0 a1 p2.2).bind fun p3 =>
  (f_X12_lay N R a0 b0 p3.2).bind fun p4 =>
  k_5 a0 a1 p4.2
def f_X12_readProduct_23 (N : Nat) (R : Nat → Nat → Nat) (rc_X12_readProduct : Nat → Int32 → (Nat → Nat → Int32) → Option (Unit × (Nat → Nat → Int32))) (rc_X12_readSum : Nat → Int32 → (Nat → Nat → Int32) → Option (Unit × (Nat → Nat → Int32))) (rc_X12_readNot : Nat → Int32 → (Nat → Nat → Int32) → Option (Unit × (Nat → Nat → Int32))) (rc_X12_readAnd : Nat → Int32 → (Nat → Nat → Int32) → Option (Unit × (Nat → Nat → Int32))) (rc_X12_readExpression : Nat → Int32 → (Nat → Nat → Int32) → Option (Unit × (Nat → Nat → Int32))) (rc_X12_readPart : Nat → Int32 → (Nat → Nat → Int32) → Option (Unit × (Nat → Nat → Int32))) (k_5 : Nat → Int32 → (Nat → Nat → Int32) → Option (Unit × (Nat → Nat → Int32))) : Nat → Int32 → (Nat → Nat → Int32) → Option (Unit × (Nat → Nat → Int32)) := fun a0 a1 I =>
  sm_gd (sm_kd a0 = (12, 59)) <|
  (f_X12_isMarked N R a0 (42 : Int32) I).bind fun p2 =>
  if p2.1 = 0 then (
    f_X12_readProduct_39 N R rc_X12_readProduct rc_X12_readSum rc_X12_readNot rc_X12_readAnd rc_X12_readExpression rc_X12_readPart k_5 a0 a1 (-23 : Int32) p2.2)
  else (
    f_X12_readProduct_39 N R rc_X12_readProduct rc_X12_readSum rc_X12_readNot rc_X12_readAnd rc_X12_readExpression rc_X12_readPart k_5 a0 a1 (-22 : Int32) p2.2)
def f_X12_readProduct_5 (N : Nat) (R : Nat → Nat → Nat) (rc_X12_readProduct : Nat → Int32 → (Nat → Nat → Int32) → Option (Unit × (Nat → Nat → Int32))) (rc_X12_readSum : Nat → Int32 → (Nat → Nat → Int32) → Option (Unit × (Nat → Nat → Int32))) (rc_X12_readNot : Nat → Int32 → (Nat → Nat → Int32) → Option (Unit × (Nat → Nat → Int32))) (rc_X12_readAnd : Nat → Int32 → (Nat → Nat → Int32) → Option (Unit × (Nat → Nat → Int32))) (rc_X12_readExpression : Nat → Int32 → (Nat → Nat → Int32) → Option (Unit × (Nat → Nat → Int32))) (rc_X12_readPart : Nat → Int32 → (Nat → Nat → Int32) → Option (Unit × (Nat → Nat → Int32))) : Nat → Nat → Int32 → (Nat → Nat → Int32) → Option (Unit × (Nat → Nat → Int32))
  | 0, _, _, _ => none
  | n + 1, a0, a1, I =>
    sm_gd (sm_kd a0 = (12, 59)) <|
    (f_X12_isMarked N R a0 (42 : Int32) I).bind fun p2 =>
    if p2.1 = 0 then (
      (f_X12_isMarked N R a0 (47 : Int32) p2.2).bind fun p4 =>
      if p4.1 = 0 then (
        some ((), p4.2))
      else (
        f_X12_readProduct_23 N R rc_X12_readProduct rc_X12_readSum rc_X12_readNot rc_X12_readAnd rc_X12_readExpression rc_X12_readPart (fun z0 z1 J => f_X12_readProduct_5 N R rc_X12_readProduct rc_X12_readSum rc_X12_readNot rc_X12_readAnd rc_X12_readExpression rc_X12_readPart n z0 z1 J) a0 a1 p4.2))
    else (
      f_X12_readProduct_23 N R rc_X12_readProduct rc_X12_readSum rc_X12_readNot rc_X12_readAnd rc_X12_readExpression rc_X12_readPart (fun z0 z1 J => f_X12_readProduct_5 N R rc_X12_readProduct rc_X12_readSum rc_X12_readNot rc_X12_readAnd rc_X12_readExpression rc_X12_readPart n z0 z1 J) a0 a1 p2.2)
def f_X12_readProduct (N : Nat) (R : Nat → Nat → Nat) (rc_X12_readProduct : Nat → Int32 → (Nat → Nat → Int32) → Option (Unit × (Nat → Nat → Int32))) (rc_X12_readSum : Nat → Int32 → (Nat → Nat → Int32) → Option (Unit × (Nat → Nat → Int32))) (rc_X12_readNot : Nat → Int32 → (Nat → Nat → Int32) → Option (Unit × (Nat → Nat → Int32))) (rc_X12_readAnd : Nat → Int32 → (Nat → Nat → Int32) → Option (Unit × (Nat → Nat → Int32))) (rc_X12_readExpression : Nat → Int32 → (Nat → Nat → Int32) → Option (Unit × (Nat → Nat → Int32))) (rc_X12_readPart : Nat → Int32 → (Nat → Nat → Int32) → Option (Unit × (Nat → Nat → Int32))) : Nat → Int32 → (Nat → Nat → Int32) → Option (Unit × (Nat → Nat → Int32)) := fun a0 a1 I =>
  sm_gd (sm_kd a0 = (12, 59)) <|
  (rc_X12_readPart a0 a1 I).bind fun p2 =>
  f_X12_readProduct_5 N R rc_X12_readProduct rc_X12_readSum rc_X12_readNot rc_X12_readAnd rc_X12_readExpression rc_X12_readPart N a0 a1 p2.2
set_option maxHeartbeats 4000000 in
set_option maxRecDepth 100000 in
theorem w_X12_readProduct_39 {l : Launch} (N : Nat) (R : Nat → Nat → Nat) (rc_X12_readProduct : Nat → Int32 → (Nat → Nat → Int32) → Option (Unit × (Nat → Nat → Int32))) (rc_X12_readSum : Nat → Int32 → (Nat → Nat → Int32) → Option (Unit × (Nat → Nat → Int32))) (rc_X12_readNot : Nat → Int32 → (Nat → Nat → Int32) → Option (Unit × (Nat → Nat → Int32))) (rc_X12_readAnd : Nat → Int32 → (Nat → Nat → Int32) → Option (Unit × (Nat → Nat → Int32))) (rc_X12_readExpression : Nat → Int32 → (Nat → Nat → Int32) → Option (Unit × (Nat → Nat → Int32))) (rc_X12_readPart : Nat → Int32 → (Nat → Nat → Int32) → Option (Unit × (Nat → Nat → Int32))) (dd : Nat) (hdd : 6 ≤ dd) (hrc_X12_readProduct : ∀ (a0 : Nat) (a1 : Int32) (I : (Nat → Nat → Int32)) (y : (Unit × (Nat → Nat → Int32))), rc_X12_readProduct a0 a1 I = some y → sm_E l dd mX12_readProduct [.inr (.inl a0), .inl a1] (I, R) (.inl none) (y.2, R)) (hrc_X12_readSum : ∀ (a0 : Nat) (a1 : Int32) (I : (Nat → Nat → Int32)) (y : (Unit × (Nat → Nat → Int32))), rc_X12_readSum a0 a1 I = some y → sm_E l dd mX12_readSum [.inr (.inl a0), .inl a1] (I, R) (.inl none) (y.2, R)) (hrc_X12_readNot : ∀ (a0 : Nat) (a1 : Int32) (I : (Nat → Nat → Int32)) (y : (Unit × (Nat → Nat → Int32))), rc_X12_readNot a0 a1 I = some y → sm_E l dd mX12_readNot [.inr (.inl a0), .inl a1] (I, R) (.inl none) (y.2, R)) (hrc_X12_readAnd : ∀ (a0 : Nat) (a1 : Int32) (I : (Nat → Nat → Int32)) (y : (Unit × (Nat → Nat → Int32))), rc_X12_readAnd a0 a1 I = some y → sm_E l dd mX12_readAnd [.inr (.inl a0), .inl a1] (I, R) (.inl none) (y.2, R)) (hrc_X12_readExpression : ∀ (a0 : Nat) (a1 : Int32) (I : (Nat → Nat → Int32)) (y : (Unit × (Nat → Nat → Int32))), rc_X12_readExpression a0 a1 I = some y → sm_E l dd mX12_readExpression [.inr (.inl a0), .inl a1] (I, R) (.inl none) (y.2, R)) (hrc_X12_readPart : ∀ (a0 : Nat) (a1 : Int32) (I : (Nat → Nat → Int32)) (y : (Unit × (Nat → Nat → Int32))), rc_X12_readPart a0 a1 I = some y → sm_E l dd mX12_readPart [.inr (.inl a0), .inl a1] (I, R) (.inl none) (y.2, R)) (k_5 : Nat → Int32 → (Nat → Nat → Int32) → Option (Unit × (Nat → Nat → Int32))) (hk_5 : ∀ (a0 : Nat) (a1 : Int32) (I : (Nat → Nat → Int32)) (y : (Unit × (Nat → Nat → Int32))), k_5 a0 a1 I = some y → sm_W l (dd + 1) mX12_readProduct 5 [(0, .inr (.inl a0)), (1, .inl a1)] [] (I, R) (.inl none) (y.2, R)) : ∀ (a0 : Nat) (a1 : Int32) (b0 : Int32) (I : (Nat → Nat → Int32)) (y : (Unit × (Nat → Nat → Int32))), f_X12_readProduct_39 N R rc_X12_readProduct rc_X12_readSum rc_X12_readNot rc_X12_readAnd rc_X12_readExpression rc_X12_readPart k_5 a0 a1 b0 I = some y → sm_W l (dd + 1) mX12_readProduct 39 [(0, .inr (.inl a0)), (1, .inl a1)] [.inl b0] (I, R) (.inl none) (y.2, R) := by
  intro a0 a1 b0 I y h
  unfold f_X12_readProduct_39 at h
  refine sm_istore_n (L' := [(2, .inl b0), (0, .inr (.inl a0)), (1, .inl a1)]) (q := 40) dX12_readProduct_39 rfl rfl (by decide) rfl ?_
  refine sm_aload_n (q := 41) dX12_readProduct_40 rfl rfl 1 rfl ?_
  obtain ⟨hc1, h⟩ := sm_gd_e h
  obtain ⟨p2, hc_p2, h⟩ := sm_bd_e h
  refine sm_callVv (q := 44) (As := []) (S := []) (e_X12_stepOn hc_p2) mv_X12_226 hc1 rfl (by omega) (Nat.le_of_ble_eq_true rfl) dX12_readProduct_41 rfl ?_
  refine sm_aload_n (q := 45) dX12_readProduct_44 rfl rfl 1 rfl ?_
  refine sm_iload_n (q := 46) dX12_readProduct_45 rfl rfl 2 rfl ?_
  obtain ⟨p3, hc_p3, h⟩ := sm_bd_e h
  refine sm_callVv (q := 49) (As := [.inl a1]) (S := []) (hrc_X12_readPart _ _ _ _ hc_p3) mv_X12_248 hc1 rfl (by omega) (Nat.le_of_ble_eq_true rfl) dX12_readProduct_46 rfl ?_
  refine sm_aload_n (q := 50) dX12_readProduct_49 rfl rfl 1 rfl ?_
  refine sm_iload_n (q := 51) dX12_readProduct_50 rfl rfl 0 rfl ?_
  obtain ⟨p4, hc_p4, h⟩ := sm_bd_e h
  refine sm_callVv (q := 54) (As := [.inl b0]) (S := []) (e_X12_lay hc_p4) mv_X12_235 hc1 rfl (by omega) (Nat.le_of_ble_eq_true rfl) dX12_readProduct_51 rfl ?_
  refine sm_goto (q := 5) dX12_readProduct_54 (by decide) ?_
  refine sm_pick [1, 2] rfl ?_
  exact hk_5 _ _ _ _ h
set_option maxHeartbeats 4000000 in
set_option maxRecDepth 100000 in
theorem w_X12_readProduct_23 {l : Launch} (N : Nat) (R : Nat → Nat → Nat) (rc_X12_readProduct : Nat → Int32 → (Nat → Nat → Int32) → Option (Unit × (Nat → Nat → Int32))) (rc_X12_readSum : Nat → Int32 → (Nat → Nat → Int32) → Option (Unit × (Nat → Nat → Int32))) (rc_X12_readNot : Nat → Int32 → (Nat → Nat → Int32) → Option (Unit × (Nat → Nat → Int32))) (rc_X12_readAnd : Nat → Int32 → (Nat → Nat → Int32) → Option (Unit × (Nat → Nat → Int32))) (rc_X12_readExpression : Nat → Int32 → (Nat → Nat → Int32) → Option (Unit × (Nat → Nat → Int32))) (rc_X12_readPart : Nat → Int32 → (Nat → Nat → Int32) → Option (Unit × (Nat → Nat → Int32))) (dd : Nat) (hdd : 6 ≤ dd) (hrc_X12_readProduct : ∀ (a0 : Nat) (a1 : Int32) (I : (Nat → Nat → Int32)) (y : (Unit × (Nat → Nat → Int32))), rc_X12_readProduct a0 a1 I = some y → sm_E l dd mX12_readProduct [.inr (.inl a0), .inl a1] (I, R) (.inl none) (y.2, R)) (hrc_X12_readSum : ∀ (a0 : Nat) (a1 : Int32) (I : (Nat → Nat → Int32)) (y : (Unit × (Nat → Nat → Int32))), rc_X12_readSum a0 a1 I = some y → sm_E l dd mX12_readSum [.inr (.inl a0), .inl a1] (I, R) (.inl none) (y.2, R)) (hrc_X12_readNot : ∀ (a0 : Nat) (a1 : Int32) (I : (Nat → Nat → Int32)) (y : (Unit × (Nat → Nat → Int32))), rc_X12_readNot a0 a1 I = some y → sm_E l dd mX12_readNot [.inr (.inl a0), .inl a1] (I, R) (.inl none) (y.2, R)) (hrc_X12_readAnd : ∀ (a0 : Nat) (a1 : Int32) (I : (Nat → Nat → Int32)) (y : (Unit × (Nat → Nat → Int32))), rc_X12_readAnd a0 a1 I = some y → sm_E l dd mX12_readAnd [.inr (.inl a0), .inl a1] (I, R) (.inl none) (y.2, R)) (hrc_X12_readExpression : ∀ (a0 : Nat) (a1 : Int32) (I : (Nat → Nat → Int32)) (y : (Unit × (Nat → Nat → Int32))), rc_X12_readExpression a0 a1 I = some y → sm_E l dd mX12_readExpression [.inr (.inl a0), .inl a1] (I, R) (.inl none) (y.2, R)) (hrc_X12_readPart : ∀ (a0 : Nat) (a1 : Int32) (I : (Nat → Nat → Int32)) (y : (Unit × (Nat → Nat → Int32))), rc_X12_readPart a0 a1 I = some y → sm_E l dd mX12_readPart [.inr (.inl a0), .inl a1] (I, R) (.inl none) (y.2, R)) (k_5 : Nat → Int32 → (Nat → Nat → Int32) → Option (Unit × (Nat → Nat → Int32))) (hk_5 : ∀ (a0 : Nat) (a1 : Int32) (I : (Nat → Nat → Int32)) (y : (Unit × (Nat → Nat → Int32))), k_5 a0 a1 I = some y → sm_W l (dd + 1) mX12_readProduct 5 [(0, .inr (.inl a0)), (1, .inl a1)] [] (I, R) (.inl none) (y.2, R)) : ∀ (a0 : Nat) (a1 : Int32) (I : (Nat → Nat → Int32)) (y : (Unit × (Nat → Nat → Int32))), f_X12_readProduct_23 N R rc_X12_readProduct rc_X12_readSum rc_X12_readNot rc_X12_readAnd rc_X12_readExpression rc_X12_readPart k_5 a0 a1 I = some y → sm_W l (dd + 1) mX12_readProduct 23 [(0, .inr (.inl a0)), (1, .inl a1)] [] (I, R) (.inl none) (y.2, R) := by
  intro a0 a1 I y h
  unfold f_X12_readProduct_23 at h
  refine sm_aload_n (q := 24) dX12_readProduct_23 rfl rfl 0 rfl ?_
  refine sm_bipush (v := 42) (q := 26) dX12_readProduct_24 rfl (by decide) ?_
  obtain ⟨hc1, h⟩ := sm_gd_e h
  obtain ⟨p2, hc_p2, h⟩ := sm_bd_e h
  refine sm_callVi (q := 29) (As := [.inl (42 : Int32)]) (S := []) (e_X12_isMarked hc_p2) mv_X12_219 hc1 rfl (by omega) (Nat.le_of_ble_eq_true rfl) dX12_readProduct_26 rfl ?_
  rcases sm_if_e h with ⟨hb3, h⟩ | ⟨hb3, h⟩
  · refine sm_if_eq (tgt := 37) (q := 32) dX12_readProduct_29 (by decide) rfl (fun _ => ?_) (fun hn => absurd hb3 hn)
    refine sm_bipush (v := -23) (q := 39) dX12_readProduct_37 rfl (by decide) ?_
    refine sm_pick [0, 1] rfl ?_
    exact w_X12_readProduct_39 N R rc_X12_readProduct rc_X12_readSum rc_X12_readNot rc_X12_readAnd rc_X12_readExpression rc_X12_readPart dd hdd hrc_X12_readProduct hrc_X12_readSum hrc_X12_readNot hrc_X12_readAnd hrc_X12_readExpression hrc_X12_readPart k_5 hk_5 _ _ _ _ _ h
  · refine sm_if_eq (tgt := 37) (q := 32) dX12_readProduct_29 (by decide) rfl (fun ht => absurd ht hb3) (fun _ => ?_)
    refine sm_bipush (v := -22) (q := 34) dX12_readProduct_32 rfl (by decide) ?_
    refine sm_goto (q := 39) dX12_readProduct_34 (by decide) ?_
    refine sm_pick [0, 1] rfl ?_
    exact w_X12_readProduct_39 N R rc_X12_readProduct rc_X12_readSum rc_X12_readNot rc_X12_readAnd rc_X12_readExpression rc_X12_readPart dd hdd hrc_X12_readProduct hrc_X12_readSum hrc_X12_readNot hrc_X12_readAnd hrc_X12_readExpression hrc_X12_readPart k_5 hk_5 _ _ _ _ _ h
set_option maxHeartbeats 4000000 in
set_option maxRecDepth 100000 in
theorem w_X12_readProduct_5 {l : Launch} (N : Nat) (R : Nat → Nat → Nat) (rc_X12_readProduct : Nat → Int32 → (Nat → Nat → Int32) → Option (Unit × (Nat → Nat → Int32))) (rc_X12_readSum : Nat → Int32 → (Nat → Nat → Int32) → Option (Unit × (Nat → Nat → Int32))) (rc_X12_readNot : Nat → Int32 → (Nat → Nat → Int32) → Option (Unit × (Nat → Nat → Int32))) (rc_X12_readAnd : Nat → Int32 → (Nat → Nat → Int32) → Option (Unit × (Nat → Nat → Int32))) (rc_X12_readExpression : Nat → Int32 → (Nat → Nat → Int32) → Option (Unit × (Nat → Nat → Int32))) (rc_X12_readPart : Nat → Int32 → (Nat → Nat → Int32) → Option (Unit × (Nat → Nat → Int32))) (dd : Nat) (hdd : 6 ≤ dd) (hrc_X12_readProduct : ∀ (a0 : Nat) (a1 : Int32) (I : (Nat → Nat → Int32)) (y : (Unit × (Nat → Nat → Int32))), rc_X12_readProduct a0 a1 I = some y → sm_E l dd mX12_readProduct [.inr (.inl a0), .inl a1] (I, R) (.inl none) (y.2, R)) (hrc_X12_readSum : ∀ (a0 : Nat) (a1 : Int32) (I : (Nat → Nat → Int32)) (y : (Unit × (Nat → Nat → Int32))), rc_X12_readSum a0 a1 I = some y → sm_E l dd mX12_readSum [.inr (.inl a0), .inl a1] (I, R) (.inl none) (y.2, R)) (hrc_X12_readNot : ∀ (a0 : Nat) (a1 : Int32) (I : (Nat → Nat → Int32)) (y : (Unit × (Nat → Nat → Int32))), rc_X12_readNot a0 a1 I = some y → sm_E l dd mX12_readNot [.inr (.inl a0), .inl a1] (I, R) (.inl none) (y.2, R)) (hrc_X12_readAnd : ∀ (a0 : Nat) (a1 : Int32) (I : (Nat → Nat → Int32)) (y : (Unit × (Nat → Nat → Int32))), rc_X12_readAnd a0 a1 I = some y → sm_E l dd mX12_readAnd [.inr (.inl a0), .inl a1] (I, R) (.inl none) (y.2, R)) (hrc_X12_readExpression : ∀ (a0 : Nat) (a1 : Int32) (I : (Nat → Nat → Int32)) (y : (Unit × (Nat → Nat → Int32))), rc_X12_readExpression a0 a1 I = some y → sm_E l dd mX12_readExpression [.inr (.inl a0), .inl a1] (I, R) (.inl none) (y.2, R)) (hrc_X12_readPart : ∀ (a0 : Nat) (a1 : Int32) (I : (Nat → Nat → Int32)) (y : (Unit × (Nat → Nat → Int32))), rc_X12_readPart a0 a1 I = some y → sm_E l dd mX12_readPart [.inr (.inl a0), .inl a1] (I, R) (.inl none) (y.2, R)) : ∀ (n : Nat) (a0 : Nat) (a1 : Int32) (I : (Nat → Nat → Int32)) (y : (Unit × (Nat → Nat → Int32))), f_X12_readProduct_5 N R rc_X12_readProduct rc_X12_readSum rc_X12_readNot rc_X12_readAnd rc_X12_readExpression rc_X12_readPart n a0 a1 I = some y → sm_W l (dd + 1) mX12_readProduct 5 [(0, .inr (.inl a0)), (1, .inl a1)] [] (I, R) (.inl none) (y.2, R) := by
  intro n
  induction n with
  | zero => intro a0 a1 I y h; cases h
  | succ n ih =>
    intro a0 a1 I y h
    rw [f_X12_readProduct_5] at h
    refine sm_aload_n (q := 6) dX12_readProduct_5 rfl rfl 0 rfl ?_
    refine sm_bipush (v := 42) (q := 8) dX12_readProduct_6 rfl (by decide) ?_
    obtain ⟨hc1, h⟩ := sm_gd_e h
    obtain ⟨p2, hc_p2, h⟩ := sm_bd_e h
    refine sm_callVi (q := 11) (As := [.inl (42 : Int32)]) (S := []) (e_X12_isMarked hc_p2) mv_X12_219 hc1 rfl (by omega) (Nat.le_of_ble_eq_true rfl) dX12_readProduct_8 rfl ?_
    rcases sm_if_e h with ⟨hb3, h⟩ | ⟨hb3, h⟩
    · refine sm_if_ne (tgt := 23) (q := 14) dX12_readProduct_11 (by decide) rfl (fun hn => absurd hb3 hn) (fun _ => ?_)
      refine sm_aload_n (q := 15) dX12_readProduct_14 rfl rfl 0 rfl ?_
      refine sm_bipush (v := 47) (q := 17) dX12_readProduct_15 rfl (by decide) ?_
      obtain ⟨p4, hc_p4, h⟩ := sm_bd_e h
      refine sm_callVi (q := 20) (As := [.inl (47 : Int32)]) (S := []) (e_X12_isMarked hc_p4) mv_X12_219 hc1 rfl (by omega) (Nat.le_of_ble_eq_true rfl) dX12_readProduct_17 rfl ?_
      rcases sm_if_e h with ⟨hb5, h⟩ | ⟨hb5, h⟩
      · refine sm_if_eq (tgt := 57) (q := 23) dX12_readProduct_20 (by decide) rfl (fun _ => ?_) (fun hn => absurd hb5 hn)
        obtain rfl := Option.some.inj h
        exact sm_vret dX12_readProduct_57 rfl
      · refine sm_if_eq (tgt := 57) (q := 23) dX12_readProduct_20 (by decide) rfl (fun ht => absurd ht hb5) (fun _ => ?_)
        refine sm_pick [0, 1] rfl ?_
        exact w_X12_readProduct_23 N R rc_X12_readProduct rc_X12_readSum rc_X12_readNot rc_X12_readAnd rc_X12_readExpression rc_X12_readPart dd hdd hrc_X12_readProduct hrc_X12_readSum hrc_X12_readNot hrc_X12_readAnd hrc_X12_readExpression hrc_X12_readPart (fun z0 z1 J => f_X12_readProduct_5 N R rc_X12_readProduct rc_X12_readSum rc_X12_readNot rc_X12_readAnd rc_X12_readExpression rc_X12_readPart n z0 z1 J) (fun z0 z1 J y h => ih z0 z1 J y h) _ _ _ _ h
    · refine sm_if_ne (tgt := 23) (q := 14) dX12_readProduct_11 (by decide) rfl (fun _ => ?_) (fun he => absurd he hb3)
      refine sm_pick [0, 1] rfl ?_
      exact w_X12_readProduct_23 N R rc_X12_readProduct rc_X12_readSum rc_X12_readNot rc_X12_readAnd rc_X12_readExpression rc_X12_readPart dd hdd hrc_X12_readProduct hrc_X12_readSum hrc_X12_readNot hrc_X12_readAnd hrc_X12_readExpression hrc_X12_readPart (fun z0 z1 J => f_X12_readProduct_5 N R rc_X12_readProduct rc_X12_readSum rc_X12_readNot rc_X12_readAnd rc_X12_readExpression rc_X12_readPart n z0 z1 J) (fun z0 z1 J y h => ih z0 z1 J y h) _ _ _ _ h
set_option maxHeartbeats 4000000 in
set_option maxRecDepth 100000 in
theorem w_X12_readProduct {l : Launch} (N : Nat) (R : Nat → Nat → Nat) (rc_X12_readProduct : Nat → Int32 → (Nat → Nat → Int32) → Option (Unit × (Nat → Nat → Int32))) (rc_X12_readSum : Nat → Int32 → (Nat → Nat → Int32) → Option (Unit × (Nat → Nat → Int32))) (rc_X12_readNot : Nat → Int32 → (Nat → Nat → Int32) → Option (Unit × (Nat → Nat → Int32))) (rc_X12_readAnd : Nat → Int32 → (Nat → Nat → Int32) → Option (Unit × (Nat → Nat → Int32))) (rc_X12_readExpression : Nat → Int32 → (Nat → Nat → Int32) → Option (Unit × (Nat → Nat → Int32))) (rc_X12_readPart : Nat → Int32 → (Nat → Nat → Int32) → Option (Unit × (Nat → Nat → Int32))) (dd : Nat) (hdd : 6 ≤ dd) (hrc_X12_readProduct : ∀ (a0 : Nat) (a1 : Int32) (I : (Nat → Nat → Int32)) (y : (Unit × (Nat → Nat → Int32))), rc_X12_readProduct a0 a1 I = some y → sm_E l dd mX12_readProduct [.inr (.inl a0), .inl a1] (I, R) (.inl none) (y.2, R)) (hrc_X12_readSum : ∀ (a0 : Nat) (a1 : Int32) (I : (Nat → Nat → Int32)) (y : (Unit × (Nat → Nat → Int32))), rc_X12_readSum a0 a1 I = some y → sm_E l dd mX12_readSum [.inr (.inl a0), .inl a1] (I, R) (.inl none) (y.2, R)) (hrc_X12_readNot : ∀ (a0 : Nat) (a1 : Int32) (I : (Nat → Nat → Int32)) (y : (Unit × (Nat → Nat → Int32))), rc_X12_readNot a0 a1 I = some y → sm_E l dd mX12_readNot [.inr (.inl a0), .inl a1] (I, R) (.inl none) (y.2, R)) (hrc_X12_readAnd : ∀ (a0 : Nat) (a1 : Int32) (I : (Nat → Nat → Int32)) (y : (Unit × (Nat → Nat → Int32))), rc_X12_readAnd a0 a1 I = some y → sm_E l dd mX12_readAnd [.inr (.inl a0), .inl a1] (I, R) (.inl none) (y.2, R)) (hrc_X12_readExpression : ∀ (a0 : Nat) (a1 : Int32) (I : (Nat → Nat → Int32)) (y : (Unit × (Nat → Nat → Int32))), rc_X12_readExpression a0 a1 I = some y → sm_E l dd mX12_readExpression [.inr (.inl a0), .inl a1] (I, R) (.inl none) (y.2, R)) (hrc_X12_readPart : ∀ (a0 : Nat) (a1 : Int32) (I : (Nat → Nat → Int32)) (y : (Unit × (Nat → Nat → Int32))), rc_X12_readPart a0 a1 I = some y → sm_E l dd mX12_readPart [.inr (.inl a0), .inl a1] (I, R) (.inl none) (y.2, R)) : ∀ (a0 : Nat) (a1 : Int32) (I : (Nat → Nat → Int32)) (y : (Unit × (Nat → Nat → Int32))), f_X12_readProduct N R rc_X12_readProduct rc_X12_readSum rc_X12_readNot rc_X12_readAnd rc_X12_readExpression rc_X12_readPart a0 a1 I = some y → sm_W l (dd + 1) mX12_readProduct 0 [(0, .inr (.inl a0)), (1, .inl a1)] [] (I, R) (.inl none) (y.2, R) := by
  intro a0 a1 I y h
  unfold f_X12_readProduct at h
  refine sm_aload_n (q := 1) dX12_readProduct_0 rfl rfl 0 rfl ?_
  refine sm_iload_n (q := 2) dX12_readProduct_1 rfl rfl 1 rfl ?_
  obtain ⟨hc1, h⟩ := sm_gd_e h
  obtain ⟨p2, hc_p2, h⟩ := sm_bd_e h
  refine sm_callVv (q := 5) (As := [.inl a1]) (S := []) (hrc_X12_readPart _ _ _ _ hc_p2) mv_X12_248 hc1 rfl (by omega) (Nat.le_of_ble_eq_true rfl) dX12_readProduct_2 rfl ?_
  refine sm_pick [0, 1] rfl ?_
  exact w_X12_readProduct_5 N R rc_X12_readProduct rc_X12_readSum rc_X12_readNot rc_X12_readAnd rc_X12_readExpression rc_X12_readPart dd hdd hrc_X12_readProduct hrc_X12_readSum hrc_X12_readNot hrc_X12_readAnd hrc_X12_readExpression hrc_X12_readPart N _ _ _ _ h
def f_X12_readSum_39 (N : Nat) (R : Nat → Nat → Nat) (rc_X12_readProduct : Nat → Int32 → (Nat → Nat → Int32) → Option (Unit × (Nat → Nat → Int32))) (rc_X12_readSum : Nat → Int32 → (Nat → Nat → Int32) → Option (Unit × (Nat → Nat → Int32))) (rc_X12_readNot : Nat → Int32 → (Nat → Nat → Int32) → Option (Unit × (Nat → Nat → Int32))) (rc_X12_readAnd : Nat → Int32 → (Nat → Nat → Int32) → Option (Unit × (Nat → Nat → Int32))) (rc_X12_readExpression : Nat → Int32 → (Nat → Nat → Int32) → Option (Unit × (Nat → Nat → Int32))) (rc_X12_readPart : Nat → Int32 → (Nat → Nat → Int32) → Option (Unit × (Nat → Nat → Int32))) (k_5 : Nat → Int32 → (Nat → Nat → Int32) → Option (Unit × (Nat → Nat → Int32))) : Nat → Int32 → Int32 → (Nat → Nat → Int32) → Option (Unit × (Nat → Nat → Int32)) := fun a0 a1 b0 I =>
  sm_gd (sm_kd a0 = (12, 59)) <|
  (f_X12_stepOn N R a0 I).bind fun p2 =>
  (rc_X12_readProduct a0 a1 p2.2).bind fun p3 =>
  (f_X12_lay N R a0 b0 p3.2).bind fun p4 =>
  k_5 a0 a1 p4.2
def f_X12_readSum_23 (N : Nat) (R : Nat → Nat → Nat) (rc_X12_readProduct : Nat → Int32 → (Nat → Nat → Int32) → Option (Unit × (Nat → Nat → Int32))) (rc_X12_readSum : Nat → Int32 → (Nat → Nat → Int32) → Option (Unit × (Nat → Nat → Int32))) (rc_X12_readNot : Nat → Int32 → (Nat → Nat → Int32) → Option (Unit × (Nat → Nat → Int32))) (rc_X12_readAnd : Nat → Int32 → (Nat → Nat → Int32) → Option (Unit × (Nat → Nat → Int32))) (rc_X12_readExpression : Nat → Int32 → (Nat → Nat → Int32) → Option (Unit × (Nat → Nat → Int32))) (rc_X12_readPart : Nat → Int32 → (Nat → Nat → Int32) → Option (Unit × (Nat → Nat → Int32))) (k_5 : Nat → Int32 → (Nat → Nat → Int32) → Option (Unit × (Nat → Nat → Int32))) : Nat → Int32 → (Nat → Nat → Int32) → Option (Unit × (Nat → Nat → Int32)) := fun a0 a1 I =>
  sm_gd (sm_kd a0 = (12, 59)) <|
  (f_X12_isMarked N R a0 (43 : Int32) I).bind fun p2 =>
  if p2.1 = 0 then (
    f_X12_readSum_39 N R rc_X12_readProduct rc_X12_readSum rc_X12_readNot rc_X12_readAnd rc_X12_readExpression rc_X12_readPart k_5 a0 a1 (-21 : Int32) p2.2)
  else (
    f_X12_readSum_39 N R rc_X12_readProduct rc_X12_readSum rc_X12_readNot rc_X12_readAnd rc_X12_readExpression rc_X12_readPart k_5 a0 a1 (-20 : Int32) p2.2)
def f_X12_readSum_5 (N : Nat) (R : Nat → Nat → Nat) (rc_X12_readProduct : Nat → Int32 → (Nat → Nat → Int32) → Option (Unit × (Nat → Nat → Int32))) (rc_X12_readSum : Nat → Int32 → (Nat → Nat → Int32) → Option (Unit × (Nat → Nat → Int32))) (rc_X12_readNot : Nat → Int32 → (Nat → Nat → Int32) → Option (Unit × (Nat → Nat → Int32))) (rc_X12_readAnd : Nat → Int32 → (Nat → Nat → Int32) → Option (Unit × (Nat → Nat → Int32))) (rc_X12_readExpression : Nat → Int32 → (Nat → Nat → Int32) → Option (Unit × (Nat → Nat → Int32))) (rc_X12_readPart : Nat → Int32 → (Nat → Nat → Int32) → Option (Unit × (Nat → Nat → Int32))) : Nat → Nat → Int32 → (Nat → Nat → Int32) → Option (Unit × (Nat → Nat → Int32))
  | 0, _, _, _ => none
  | n + 1, a0, a1, I =>
    sm_gd (sm_kd a0 = (12, 59)) <|
    (f_X12_isMarked N R a0 (43 : Int32) I).bind fun p2 =>
    if p2.1 = 0 then (
      (f_X12_isMarked N R a0 (45 : Int32) p2.2).bind fun p4 =>
      if p4.1 = 0 then (
        some ((), p4.2))
      else (
        f_X12_readSum_23 N R rc_X12_readProduct rc_X12_readSum rc_X12_readNot rc_X12_readAnd rc_X12_readExpression rc_X12_readPart (fun z0 z1 J => f_X12_readSum_5 N R rc_X12_readProduct rc_X12_readSum rc_X12_readNot rc_X12_readAnd rc_X12_readExpression rc_X12_readPart n z0 z1 J) a0 a1 p4.2))
    else (
      f_X12_readSum_23 N R rc_X12_readProduct rc_X12_readSum rc_X12_readNot rc_X12_readAnd rc_X12_readExpression rc_X12_readPart (fun z0 z1 J => f_X12_readSum_5 N R rc_X12_readProduct rc_X12_readSum rc_X12_readNot rc_X12_readAnd rc_X12_readExpression rc_X12_readPart n z0 z1 J) a0 a1 p2.2)
def f_X12_readSum (N : Nat) (R : Nat → Nat → Nat) (rc_X12_readProduct : Nat → Int32 → (Nat → Nat → Int32) → Option (Unit × (Nat → Nat → Int32))) (rc_X12_readSum : Nat → Int32 → (Nat → Nat → Int32) → Option (Unit × (Nat → Nat → Int32))) (rc_X12_readNot : Nat → Int32 → (Nat → Nat → Int32) → Option (Unit × (Nat → Nat → Int32))) (rc_X12_readAnd : Nat → Int32 → (Nat → Nat → Int32) → Option (Unit × (Nat → Nat → Int32))) (rc_X12_readExpression : Nat → Int32 → (Nat → Nat → Int32) → Option (Unit × (Nat → Nat → Int32))) (rc_X12_readPart : Nat → Int32 → (Nat → Nat → Int32) → Option (Unit × (Nat → Nat → Int32))) : Nat → Int32 → (Nat → Nat → Int32) → Option (Unit × (Nat → Nat → Int32)) := fun a0 a1 I =>
  sm_gd (sm_kd a0 = (12, 59)) <|
  (rc_X12_readProduct a0 a1 I).bind fun p2 =>
  f_X12_readSum_5 N R rc_X12_readProduct rc_X12_readSum rc_X12_readNot rc_X12_readAnd rc_X12_readExpression rc_X12_readPart N a0 a1 p2.2
set_option maxHeartbeats 4000000 in
set_option maxRecDepth 100000 in
theorem w_X12_readSum_39 {l : Launch} (N : Nat) (R : Nat → Nat → Nat) (rc_X12_readProduct : Nat → Int32 → (Nat → Nat → Int32) → Option (Unit × (Nat → Nat → Int32))) (rc_X12_readSum : Nat → Int32 → (Nat → Nat → Int32) → Option (Unit × (Nat → Nat → Int32))) (rc_X12_readNot : Nat → Int32 → (Nat → Nat → Int32) → Option (Unit × (Nat → Nat → Int32))) (rc_X12_readAnd : Nat → Int32 → (Nat → Nat → Int32) → Option (Unit × (Nat → Nat → Int32))) (rc_X12_readExpression : Nat → Int32 → (Nat → Nat → Int32) → Option (Unit × (Nat → Nat → Int32))) (rc_X12_readPart : Nat → Int32 → (Nat → Nat → Int32) → Option (Unit × (Nat → Nat → Int32))) (dd : Nat) (hdd : 6 ≤ dd) (hrc_X12_readProduct : ∀ (a0 : Nat) (a1 : Int32) (I : (Nat → Nat → Int32)) (y : (Unit × (Nat → Nat → Int32))), rc_X12_readProduct a0 a1 I = some y → sm_E l dd mX12_readProduct [.inr (.inl a0), .inl a1] (I, R) (.inl none) (y.2, R)) (hrc_X12_readSum : ∀ (a0 : Nat) (a1 : Int32) (I : (Nat → Nat → Int32)) (y : (Unit × (Nat → Nat → Int32))), rc_X12_readSum a0 a1 I = some y → sm_E l dd mX12_readSum [.inr (.inl a0), .inl a1] (I, R) (.inl none) (y.2, R)) (hrc_X12_readNot : ∀ (a0 : Nat) (a1 : Int32) (I : (Nat → Nat → Int32)) (y : (Unit × (Nat → Nat → Int32))), rc_X12_readNot a0 a1 I = some y → sm_E l dd mX12_readNot [.inr (.inl a0), .inl a1] (I, R) (.inl none) (y.2, R)) (hrc_X12_readAnd : ∀ (a0 : Nat) (a1 : Int32) (I : (Nat → Nat → Int32)) (y : (Unit × (Nat → Nat → Int32))), rc_X12_readAnd a0 a1 I = some y → sm_E l dd mX12_readAnd [.inr (.inl a0), .inl a1] (I, R) (.inl none) (y.2, R)) (hrc_X12_readExpression : ∀ (a0 : Nat) (a1 : Int32) (I : (Nat → Nat → Int32)) (y : (Unit × (Nat → Nat → Int32))), rc_X12_readExpression a0 a1 I = some y → sm_E l dd mX12_readExpression [.inr (.inl a0), .inl a1] (I, R) (.inl none) (y.2, R)) (hrc_X12_readPart : ∀ (a0 : Nat) (a1 : Int32) (I : (Nat → Nat → Int32)) (y : (Unit × (Nat → Nat → Int32))), rc_X12_readPart a0 a1 I = some y → sm_E l dd mX12_readPart [.inr (.inl a0), .inl a1] (I, R) (.inl none) (y.2, R)) (k_5 : Nat → Int32 → (Nat → Nat → Int32) → Option (Unit × (Nat → Nat → Int32))) (hk_5 : ∀ (a0 : Nat) (a1 : Int32) (I : (Nat → Nat → Int32)) (y : (Unit × (Nat → Nat → Int32))), k_5 a0 a1 I = some y → sm_W l (dd + 1) mX12_readSum 5 [(0, .inr (.inl a0)), (1, .inl a1)] [] (I, R) (.inl none) (y.2, R)) : ∀ (a0 : Nat) (a1 : Int32) (b0 : Int32) (I : (Nat → Nat → Int32)) (y : (Unit × (Nat → Nat → Int32))), f_X12_readSum_39 N R rc_X12_readProduct rc_X12_readSum rc_X12_readNot rc_X12_readAnd rc_X12_readExpression rc_X12_readPart k_5 a0 a1 b0 I = some y → sm_W l (dd + 1) mX12_readSum 39 [(0, .inr (.inl a0)), (1, .inl a1)] [.inl b0] (I, R) (.inl none) (y.2, R) := by
  intro a0 a1 b0 I y h
  unfold f_X12_readSum_39 at h
  refine sm_istore_n (L' := [(2, .inl b0), (0, .inr (.inl a0)), (1, .inl a1)]) (q := 40) dX12_readSum_39 rfl rfl (by decide) rfl ?_
  refine sm_aload_n (q := 41) dX12_readSum_40 rfl rfl 1 rfl ?_
  obtain ⟨hc1, h⟩ := sm_gd_e h
  obtain ⟨p2, hc_p2, h⟩ := sm_bd_e h
  refine sm_callVv (q := 44) (As := []) (S := []) (e_X12_stepOn hc_p2) mv_X12_226 hc1 rfl (by omega) (Nat.le_of_ble_eq_true rfl) dX12_readSum_41 rfl ?_
  refine sm_aload_n (q := 45) dX12_readSum_44 rfl rfl 1 rfl ?_
  refine sm_iload_n (q := 46) dX12_readSum_45 rfl rfl 2 rfl ?_
  obtain ⟨p3, hc_p3, h⟩ := sm_bd_e h
  refine sm_callVv (q := 49) (As := [.inl a1]) (S := []) (hrc_X12_readProduct _ _ _ _ hc_p3) mv_X12_251 hc1 rfl (by omega) (Nat.le_of_ble_eq_true rfl) dX12_readSum_46 rfl ?_
  refine sm_aload_n (q := 50) dX12_readSum_49 rfl rfl 1 rfl ?_
  refine sm_iload_n (q := 51) dX12_readSum_50 rfl rfl 0 rfl ?_
  obtain ⟨p4, hc_p4, h⟩ := sm_bd_e h
  refine sm_callVv (q := 54) (As := [.inl b0]) (S := []) (e_X12_lay hc_p4) mv_X12_235 hc1 rfl (by omega) (Nat.le_of_ble_eq_true rfl) dX12_readSum_51 rfl ?_
  refine sm_goto (q := 5) dX12_readSum_54 (by decide) ?_
  refine sm_pick [1, 2] rfl ?_
  exact hk_5 _ _ _ _ h
set_option maxHeartbeats 4000000 in
set_option maxRecDepth 100000 in
theorem w_X12_readSum_23 {l : Launch} (N : Nat) (R : Nat → Nat → Nat) (rc_X12_readProduct : Nat → Int32 → (Nat → Nat → Int32) → Option (Unit × (Nat → Nat → Int32))) (rc_X12_readSum : Nat → Int32 → (Nat → Nat → Int32) → Option (Unit × (Nat → Nat → Int32))) (rc_X12_readNot : Nat → Int32 → (Nat → Nat → Int32) → Option (Unit × (Nat → Nat → Int32))) (rc_X12_readAnd : Nat → Int32 → (Nat → Nat → Int32) → Option (Unit × (Nat → Nat → Int32))) (rc_X12_readExpression : Nat → Int32 → (Nat → Nat → Int32) → Option (Unit × (Nat → Nat → Int32))) (rc_X12_readPart : Nat → Int32 → (Nat → Nat → Int32) → Option (Unit × (Nat → Nat → Int32))) (dd : Nat) (hdd : 6 ≤ dd) (hrc_X12_readProduct : ∀ (a0 : Nat) (a1 : Int32) (I : (Nat → Nat → Int32)) (y : (Unit × (Nat → Nat → Int32))), rc_X12_readProduct a0 a1 I = some y → sm_E l dd mX12_readProduct [.inr (.inl a0), .inl a1] (I, R) (.inl none) (y.2, R)) (hrc_X12_readSum : ∀ (a0 : Nat) (a1 : Int32) (I : (Nat → Nat → Int32)) (y : (Unit × (Nat → Nat → Int32))), rc_X12_readSum a0 a1 I = some y → sm_E l dd mX12_readSum [.inr (.inl a0), .inl a1] (I, R) (.inl none) (y.2, R)) (hrc_X12_readNot : ∀ (a0 : Nat) (a1 : Int32) (I : (Nat → Nat → Int32)) (y : (Unit × (Nat → Nat → Int32))), rc_X12_readNot a0 a1 I = some y → sm_E l dd mX12_readNot [.inr (.inl a0), .inl a1] (I, R) (.inl none) (y.2, R)) (hrc_X12_readAnd : ∀ (a0 : Nat) (a1 : Int32) (I : (Nat → Nat → Int32)) (y : (Unit × (Nat → Nat → Int32))), rc_X12_readAnd a0 a1 I = some y → sm_E l dd mX12_readAnd [.inr (.inl a0), .inl a1] (I, R) (.inl none) (y.2, R)) (hrc_X12_readExpression : ∀ (a0 : Nat) (a1 : Int32) (I : (Nat → Nat → Int32)) (y : (Unit × (Nat → Nat → Int32))), rc_X12_readExpression a0 a1 I = some y → sm_E l dd mX12_readExpression [.inr (.inl a0), .inl a1] (I, R) (.inl none) (y.2, R)) (hrc_X12_readPart : ∀ (a0 : Nat) (a1 : Int32) (I : (Nat → Nat → Int32)) (y : (Unit × (Nat → Nat → Int32))), rc_X12_readPart a0 a1 I = some y → sm_E l dd mX12_readPart [.inr (.inl a0), .inl a1] (I, R) (.inl none) (y.2, R)) (k_5 : Nat → Int32 → (Nat → Nat → Int32) → Option (Unit × (Nat → Nat → Int32))) (hk_5 : ∀ (a0 : Nat) (a1 : Int32) (I : (Nat → Nat → Int32)) (y : (Unit × (Nat → Nat → Int32))), k_5 a0 a1 I = some y → sm_W l (dd + 1) mX12_readSum 5 [(0, .inr (.inl a0)), (1, .inl a1)] [] (I, R) (.inl none) (y.2, R)) : ∀ (a0 : Nat) (a1 : Int32) (I : (Nat → Nat → Int32)) (y : (Unit × (Nat → Nat → Int32))), f_X12_readSum_23 N R rc_X12_readProduct rc_X12_readSum rc_X12_readNot rc_X12_readAnd rc_X12_readExpression rc_X12_readPart k_5 a0 a1 I = some y → sm_W l (dd + 1) mX12_readSum 23 [(0, .inr (.inl a0)), (1, .inl a1)] [] (I, R) (.inl none) (y.2, R) := by
  intro a0 a1 I y h
  unfold f_X12_readSum_23 at h
  refine sm_aload_n (q := 24) dX12_readSum_23 rfl rfl 0 rfl ?_
  refine sm_bipush (v := 43) (q := 26) dX12_readSum_24 rfl (by decide) ?_
  obtain ⟨hc1, h⟩ := sm_gd_e h
  obtain ⟨p2, hc_p2, h⟩ := sm_bd_e h
  refine sm_callVi (q := 29) (As := [.inl (43 : Int32)]) (S := []) (e_X12_isMarked hc_p2) mv_X12_219 hc1 rfl (by omega) (Nat.le_of_ble_eq_true rfl) dX12_readSum_26 rfl ?_
  rcases sm_if_e h with ⟨hb3, h⟩ | ⟨hb3, h⟩
  · refine sm_if_eq (tgt := 37) (q := 32) dX12_readSum_29 (by decide) rfl (fun _ => ?_) (fun hn => absurd hb3 hn)
    refine sm_bipush (v := -21) (q := 39) dX12_readSum_37 rfl (by decide) ?_
    refine sm_pick [0, 1] rfl ?_
    exact w_X12_readSum_39 N R rc_X12_readProduct rc_X12_readSum rc_X12_readNot rc_X12_readAnd rc_X12_readExpression rc_X12_readPart dd hdd hrc_X12_readProduct hrc_X12_readSum hrc_X12_readNot hrc_X12_readAnd hrc_X12_readExpression hrc_X12_readPart k_5 hk_5 _ _ _ _ _ h
  · refine sm_if_eq (tgt := 37) (q := 32) dX12_readSum_29 (by decide) rfl (fun ht => absurd ht hb3) (fun _ => ?_)
    refine sm_bipush (v := -20) (q := 34) dX12_readSum_32 rfl (by decide) ?_
    refine sm_goto (q := 39) dX12_readSum_34 (by decide) ?_
    refine sm_pick [0, 1] rfl ?_
    exact w_X12_readSum_39 N R rc_X12_readProduct rc_X12_readSum rc_X12_readNot rc_X12_readAnd rc_X12_readExpression rc_X12_readPart dd hdd hrc_X12_readProduct hrc_X12_readSum hrc_X12_readNot hrc_X12_readAnd hrc_X12_readExpression hrc_X12_readPart k_5 hk_5 _ _ _ _ _ h
set_option maxHeartbeats 4000000 in
set_option maxRecDepth 100000 in
theorem w_X12_readSum_5 {l : Launch} (N : Nat) (R : Nat → Nat → Nat) (rc_X12_readProduct : Nat → Int32 → (Nat → Nat → Int32) → Option (Unit × (Nat → Nat → Int32))) (rc_X12_readSum : Nat → Int32 → (Nat → Nat → Int32) → Option (Unit × (Nat → Nat → Int32))) (rc_X12_readNot : Nat → Int32 → (Nat → Nat → Int32) → Option (Unit × (Nat → Nat → Int32))) (rc_X12_readAnd : Nat → Int32 → (Nat → Nat → Int32) → Option (Unit × (Nat → Nat → Int32))) (rc_X12_readExpression : Nat → Int32 → (Nat → Nat → Int32) → Option (Unit × (Nat → Nat → Int32))) (rc_X12_readPart : Nat → Int32 → (Nat → Nat → Int32) → Option (Unit × (Nat → Nat → Int32))) (dd : Nat) (hdd : 6 ≤ dd) (hrc_X12_readProduct : ∀ (a0 : Nat) (a1 : Int32) (I : (Nat → Nat → Int32)) (y : (Unit × (Nat → Nat → Int32))), rc_X12_readProduct a0 a1 I = some y → sm_E l dd mX12_readProduct [.inr (.inl a0), .inl a1] (I, R) (.inl none) (y.2, R)) (hrc_X12_readSum : ∀ (a0 : Nat) (a1 : Int32) (I : (Nat → Nat → Int32)) (y : (Unit × (Nat → Nat → Int32))), rc_X12_readSum a0 a1 I = some y → sm_E l dd mX12_readSum [.inr (.inl a0), .inl a1] (I, R) (.inl none) (y.2, R)) (hrc_X12_readNot : ∀ (a0 : Nat) (a1 : Int32) (I : (Nat → Nat → Int32)) (y : (Unit × (Nat → Nat → Int32))), rc_X12_readNot a0 a1 I = some y → sm_E l dd mX12_readNot [.inr (.inl a0), .inl a1] (I, R) (.inl none) (y.2, R)) (hrc_X12_readAnd : ∀ (a0 : Nat) (a1 : Int32) (I : (Nat → Nat → Int32)) (y : (Unit × (Nat → Nat → Int32))), rc_X12_readAnd a0 a1 I = some y → sm_E l dd mX12_readAnd [.inr (.inl a0), .inl a1] (I, R) (.inl none) (y.2, R)) (hrc_X12_readExpression : ∀ (a0 : Nat) (a1 : Int32) (I : (Nat → Nat → Int32)) (y : (Unit × (Nat → Nat → Int32))), rc_X12_readExpression a0 a1 I = some y → sm_E l dd mX12_readExpression [.inr (.inl a0), .inl a1] (I, R) (.inl none) (y.2, R)) (hrc_X12_readPart : ∀ (a0 : Nat) (a1 : Int32) (I : (Nat → Nat → Int32)) (y : (Unit × (Nat → Nat → Int32))), rc_X12_readPart a0 a1 I = some y → sm_E l dd mX12_readPart [.inr (.inl a0), .inl a1] (I, R) (.inl none) (y.2, R)) : ∀ (n : Nat) (a0 : Nat) (a1 : Int32) (I : (Nat → Nat → Int32)) (y : (Unit × (Nat → Nat → Int32))), f_X12_readSum_5 N R rc_X12_readProduct rc_X12_readSum rc_X12_readNot rc_X12_readAnd rc_X12_readExpression rc_X12_readPart n a0 a1 I = some y → sm_W l (dd + 1) mX12_readSum 5 [(0, .inr (.inl a0)), (1, .inl a1)] [] (I, R) (.inl none) (y.2, R) := by
  intro n
  induction n with
  | zero => intro a0 a1 I y h; cases h
  | succ n ih =>
    intro a0 a1 I y h
    rw [f_X12_readSum_5] at h
    refine sm_aload_n (q := 6) dX12_readSum_5 rfl rfl 0 rfl ?_
    refine sm_bipush (v := 43) (q := 8) dX12_readSum_6 rfl (by decide) ?_
    obtain ⟨hc1, h⟩ := sm_gd_e h
    obtain ⟨p2, hc_p2, h⟩ := sm_bd_e h
    refine sm_callVi (q := 11) (As := [.inl (43 : Int32)]) (S := []) (e_X12_isMarked hc_p2) mv_X12_219 hc1 rfl (by omega) (Nat.le_of_ble_eq_true rfl) dX12_readSum_8 rfl ?_
    rcases sm_if_e h with ⟨hb3, h⟩ | ⟨hb3, h⟩
    · refine sm_if_ne (tgt := 23) (q := 14) dX12_readSum_11 (by decide) rfl (fun hn => absurd hb3 hn) (fun _ => ?_)
      refine sm_aload_n (q := 15) dX12_readSum_14 rfl rfl 0 rfl ?_
      refine sm_bipush (v := 45) (q := 17) dX12_readSum_15 rfl (by decide) ?_
      obtain ⟨p4, hc_p4, h⟩ := sm_bd_e h
      refine sm_callVi (q := 20) (As := [.inl (45 : Int32)]) (S := []) (e_X12_isMarked hc_p4) mv_X12_219 hc1 rfl (by omega) (Nat.le_of_ble_eq_true rfl) dX12_readSum_17 rfl ?_
      rcases sm_if_e h with ⟨hb5, h⟩ | ⟨hb5, h⟩
      · refine sm_if_eq (tgt := 57) (q := 23) dX12_readSum_20 (by decide) rfl (fun _ => ?_) (fun hn => absurd hb5 hn)
        obtain rfl := Option.some.inj h
        exact sm_vret dX12_readSum_57 rfl
      · refine sm_if_eq (tgt := 57) (q := 23) dX12_readSum_20 (by decide) rfl (fun ht => absurd ht hb5) (fun _ => ?_)
        refine sm_pick [0, 1] rfl ?_
        exact w_X12_readSum_23 N R rc_X12_readProduct rc_X12_readSum rc_X12_readNot rc_X12_readAnd rc_X12_readExpression rc_X12_readPart dd hdd hrc_X12_readProduct hrc_X12_readSum hrc_X12_readNot hrc_X12_readAnd hrc_X12_readExpression hrc_X12_readPart (fun z0 z1 J => f_X12_readSum_5 N R rc_X12_readProduct rc_X12_readSum rc_X12_readNot rc_X12_readAnd rc_X12_readExpression rc_X12_readPart n z0 z1 J) (fun z0 z1 J y h => ih z0 z1 J y h) _ _ _ _ h
    · refine sm_if_ne (tgt := 23) (q := 14) dX12_readSum_11 (by decide) rfl (fun _ => ?_) (fun he => absurd he hb3)
      refine sm_pick [0, 1] rfl ?_
      exact w_X12_readSum_23 N R rc_X12_readProduct rc_X12_readSum rc_X12_readNot rc_X12_readAnd rc_X12_readExpression rc_X12_readPart dd hdd hrc_X12_readProduct hrc_X12_readSum hrc_X12_readNot hrc_X12_readAnd hrc_X12_readExpression hrc_X12_readPart (fun z0 z1 J => f_X12_readSum_5 N R rc_X12_readProduct rc_X12_readSum rc_X12_readNot rc_X12_readAnd rc_X12_readExpression rc_X12_readPart n z0 z1 J) (fun z0 z1 J y h => ih z0 z1 J y h) _ _ _ _ h
set_option maxHeartbeats 4000000 in
set_option maxRecDepth 100000 in
theorem w_X12_readSum {l : Launch} (N : Nat) (R : Nat → Nat → Nat) (rc_X12_readProduct : Nat → Int32 → (Nat → Nat → Int32) → Option (Unit × (Nat → Nat → Int32))) (rc_X12_readSum : Nat → Int32 → (Nat → Nat → Int32) → Option (Unit × (Nat → Nat → Int32))) (rc_X12_readNot : Nat → Int32 → (Nat → Nat → Int32) → Option (Unit × (Nat → Nat → Int32))) (rc_X12_readAnd : Nat → Int32 → (Nat → Nat → Int32) → Option (Unit × (Nat → Nat → Int32))) (rc_X12_readExpression : Nat → Int32 → (Nat → Nat → Int32) → Option (Unit × (Nat → Nat → Int32))) (rc_X12_readPart : Nat → Int32 → (Nat → Nat → Int32) → Option (Unit × (Nat → Nat → Int32))) (dd : Nat) (hdd : 6 ≤ dd) (hrc_X12_readProduct : ∀ (a0 : Nat) (a1 : Int32) (I : (Nat → Nat → Int32)) (y : (Unit × (Nat → Nat → Int32))), rc_X12_readProduct a0 a1 I = some y → sm_E l dd mX12_readProduct [.inr (.inl a0), .inl a1] (I, R) (.inl none) (y.2, R)) (hrc_X12_readSum : ∀ (a0 : Nat) (a1 : Int32) (I : (Nat → Nat → Int32)) (y : (Unit × (Nat → Nat → Int32))), rc_X12_readSum a0 a1 I = some y → sm_E l dd mX12_readSum [.inr (.inl a0), .inl a1] (I, R) (.inl none) (y.2, R)) (hrc_X12_readNot : ∀ (a0 : Nat) (a1 : Int32) (I : (Nat → Nat → Int32)) (y : (Unit × (Nat → Nat → Int32))), rc_X12_readNot a0 a1 I = some y → sm_E l dd mX12_readNot [.inr (.inl a0), .inl a1] (I, R) (.inl none) (y.2, R)) (hrc_X12_readAnd : ∀ (a0 : Nat) (a1 : Int32) (I : (Nat → Nat → Int32)) (y : (Unit × (Nat → Nat → Int32))), rc_X12_readAnd a0 a1 I = some y → sm_E l dd mX12_readAnd [.inr (.inl a0), .inl a1] (I, R) (.inl none) (y.2, R)) (hrc_X12_readExpression : ∀ (a0 : Nat) (a1 : Int32) (I : (Nat → Nat → Int32)) (y : (Unit × (Nat → Nat → Int32))), rc_X12_readExpression a0 a1 I = some y → sm_E l dd mX12_readExpression [.inr (.inl a0), .inl a1] (I, R) (.inl none) (y.2, R)) (hrc_X12_readPart : ∀ (a0 : Nat) (a1 : Int32) (I : (Nat → Nat → Int32)) (y : (Unit × (Nat → Nat → Int32))), rc_X12_readPart a0 a1 I = some y → sm_E l dd mX12_readPart [.inr (.inl a0), .inl a1] (I, R) (.inl none) (y.2, R)) : ∀ (a0 : Nat) (a1 : Int32) (I : (Nat → Nat → Int32)) (y : (Unit × (Nat → Nat → Int32))), f_X12_readSum N R rc_X12_readProduct rc_X12_readSum rc_X12_readNot rc_X12_readAnd rc_X12_readExpression rc_X12_readPart a0 a1 I = some y → sm_W l (dd + 1) mX12_readSum 0 [(0, .inr (.inl a0)), (1, .inl a1)] [] (I, R) (.inl none) (y.2, R) := by
  intro a0 a1 I y h
  unfold f_X12_readSum at h
  refine sm_aload_n (q := 1) dX12_readSum_0 rfl rfl 0 rfl ?_
  refine sm_iload_n (q := 2) dX12_readSum_1 rfl rfl 1 rfl ?_
  obtain ⟨hc1, h⟩ := sm_gd_e h
  obtain ⟨p2, hc_p2, h⟩ := sm_bd_e h
  refine sm_callVv (q := 5) (As := [.inl a1]) (S := []) (hrc_X12_readProduct _ _ _ _ hc_p2) mv_X12_251 hc1 rfl (by omega) (Nat.le_of_ble_eq_true rfl) dX12_readSum_2 rfl ?_
  refine sm_pick [0, 1] rfl ?_
  exact w_X12_readSum_5 N R rc_X12_readProduct rc_X12_readSum rc_X12_readNot rc_X12_readAnd rc_X12_readExpression rc_X12_readPart dd hdd hrc_X12_readProduct hrc_X12_readSum hrc_X12_readNot hrc_X12_readAnd hrc_X12_readExpression hrc_X12_readPart N _ _ _ _ h
