def f_X12_with (N : Nat) (R : Nat → Nat → Nat) : Nat → Int32 → Int32 → Int32 → (Nat → Nat → Int32) → Option (Int32 × (Nat → Nat → Int32)) := fun a0 a1 a2 a3 I =>
  if a3 = (-1 : Int32) then (
    sm_gd (sm_kd a0 = (12, 59)) <|
    sm_gd ((sm_kd (R a0 39)).1 = 13 ∧ ¬ ((((a1 + (1 : Int32)) <<< ((6 : Int32) &&& 31)) + a2) < 0 ∨ (sm_kd (R a0 39)).2 ≤ ((((a1 + (1 : Int32)) <<< ((6 : Int32) &&& 31)) + a2)).toNatClampNeg)) <|
    some ((I (R a0 39) ((((a1 + (1 : Int32)) <<< ((6 : Int32) &&& 31)) + a2)).toNatClampNeg), I))
  else (
    sm_gd (sm_kd a0 = (12, 59)) <|
    (f_X12_fitOf N R a0 a1 a3 I).bind fun p5 =>
    sm_gd ((sm_kd (R a0 39)).1 = 13 ∧ ¬ ((((a1 + (1 : Int32)) <<< ((6 : Int32) &&& 31)) + (a2 &&& (((1 : Int32) <<< (a3 &&& 31)) ^^^ (-1 : Int32)))) < 0 ∨ (sm_kd (R a0 39)).2 ≤ ((((a1 + (1 : Int32)) <<< ((6 : Int32) &&& 31)) + (a2 &&& (((1 : Int32) <<< (a3 &&& 31)) ^^^ (-1 : Int32))))).toNatClampNeg)) <|
    some ((p5.1 + (p5.2 (R a0 39) ((((a1 + (1 : Int32)) <<< ((6 : Int32) &&& 31)) + (a2 &&& (((1 : Int32) <<< (a3 &&& 31)) ^^^ (-1 : Int32))))).toNatClampNeg)), p5.2))
set_option maxHeartbeats 4000000 in
set_option maxRecDepth 100000 in
theorem w_X12_with {l : Launch} (N : Nat) (R : Nat → Nat → Nat) : ∀ (a0 : Nat) (a1 : Int32) (a2 : Int32) (a3 : Int32) (I : (Nat → Nat → Int32)) (y : (Int32 × (Nat → Nat → Int32))), f_X12_with N R a0 a1 a2 a3 I = some y → sm_W l 2 mX12_with 0 [(0, .inr (.inl a0)), (1, .inl a1), (2, .inl a2), (3, .inl a3)] [] (I, R) (.inl (some (.inl y.1))) (y.2, R) := by
  intro a0 a1 a2 a3 I y h
  unfold f_X12_with at h
  refine sm_iload_n (q := 1) dX12_with_0 rfl rfl 3 rfl ?_
  refine sm_iconst (v := -1) (q := 2) dX12_with_1 rfl (by decide) ?_
  rcases sm_if_e h with ⟨hb1, h⟩ | ⟨hb1, h⟩
  · refine sm_icmp_ne (tgt := 21) (q := 5) dX12_with_2 (by decide) rfl (fun hn => absurd hb1 hn) (fun _ => ?_)
    refine sm_aload_n (q := 6) dX12_with_5 rfl rfl 0 rfl ?_
    obtain ⟨hc2, h⟩ := sm_gd_e h
    refine sm_getR (r := R a0 39) (q := 9) dX12_with_6 rfl fk_X12_104 hc2 (by decide) (by decide) rfl ?_
    refine sm_iload_n (q := 10) dX12_with_9 rfl rfl 1 rfl ?_
    refine sm_iconst (v := 1) (q := 11) dX12_with_10 rfl (by decide) ?_
    refine sm_iadd (q := 12) dX12_with_11 rfl ?_
    refine sm_bipush (v := 6) (q := 14) dX12_with_12 rfl (by decide) ?_
    refine sm_ishl (q := 15) dX12_with_14 rfl ?_
    refine sm_iload_n (q := 16) dX12_with_15 rfl rfl 2 rfl ?_
    refine sm_iadd (q := 17) dX12_with_16 rfl ?_
    obtain ⟨hc3, h⟩ := sm_gd_e h
    refine sm_iald (n := (sm_kd (R a0 39)).2) (q := 18) dX12_with_17 rfl (Prod.ext hc3.1 rfl) hc3.2 ?_
    refine sm_goto (q := 47) dX12_with_18 (by decide) ?_
    obtain rfl := Option.some.inj h
    exact sm_iret dX12_with_47 rfl
  · refine sm_icmp_ne (tgt := 21) (q := 5) dX12_with_2 (by decide) rfl (fun _ => ?_) (fun he => absurd he hb1)
    refine sm_aload_n (q := 22) dX12_with_21 rfl rfl 0 rfl ?_
    refine sm_iload_n (q := 23) dX12_with_22 rfl rfl 1 rfl ?_
    refine sm_iload_n (q := 24) dX12_with_23 rfl rfl 3 rfl ?_
    obtain ⟨hc4, h⟩ := sm_gd_e h
    obtain ⟨p5, hc_p5, h⟩ := sm_bd_e h
    refine sm_callVi (q := 27) (As := [.inl a1, .inl a3]) (S := []) (e_X12_fitOf hc_p5) mv_X12_414 hc4 rfl (by decide) (Nat.le_of_ble_eq_true rfl) dX12_with_24 rfl ?_
    refine sm_aload_n (q := 28) dX12_with_27 rfl rfl 0 rfl ?_
    refine sm_getR (r := R a0 39) (q := 31) dX12_with_28 rfl fk_X12_104 hc4 (by decide) (by decide) rfl ?_
    refine sm_iload_n (q := 32) dX12_with_31 rfl rfl 1 rfl ?_
    refine sm_iconst (v := 1) (q := 33) dX12_with_32 rfl (by decide) ?_
    refine sm_iadd (q := 34) dX12_with_33 rfl ?_
    refine sm_bipush (v := 6) (q := 36) dX12_with_34 rfl (by decide) ?_
    refine sm_ishl (q := 37) dX12_with_36 rfl ?_
    refine sm_iload_n (q := 38) dX12_with_37 rfl rfl 2 rfl ?_
    refine sm_iconst (v := 1) (q := 39) dX12_with_38 rfl (by decide) ?_
    refine sm_iload_n (q := 40) dX12_with_39 rfl rfl 3 rfl ?_
    refine sm_ishl (q := 41) dX12_with_40 rfl ?_
    refine sm_iconst (v := -1) (q := 42) dX12_with_41 rfl (by decide) ?_
    refine sm_ixor (q := 43) dX12_with_42 rfl ?_
    refine sm_iand (q := 44) dX12_with_43 rfl ?_
    refine sm_iadd (q := 45) dX12_with_44 rfl ?_
    obtain ⟨hc6, h⟩ := sm_gd_e h
    refine sm_iald (n := (sm_kd (R a0 39)).2) (q := 46) dX12_with_45 rfl (Prod.ext hc6.1 rfl) hc6.2 ?_
    refine sm_iadd (q := 47) dX12_with_46 rfl ?_
    obtain rfl := Option.some.inj h
    exact sm_iret dX12_with_47 rfl
theorem e_X12_with {l : Launch} {N : Nat} {R : Nat → Nat → Nat} {a0 : Nat} {a1 : Int32} {a2 : Int32} {a3 : Int32} {I : (Nat → Nat → Int32)} {y : (Int32 × (Nat → Nat → Int32))} (h : f_X12_with N R a0 a1 a2 a3 I = some y) : sm_E l 2 mX12_with [.inr (.inl a0), .inl a1, .inl a2, .inl a3] (I, R) (.inl (some (.inl y.1))) (y.2, R) :=
  sm_meth (by decide) (Nat.le_of_ble_eq_true rfl) (w_X12_with N R a0 a1 a2 a3 I y h)
def f_X12_tellMost_71 (N : Nat) (R : Nat → Nat → Nat) (k_54 : Nat → Int32 → Int32 → Int32 → (Nat → Nat → Int32) → Option (Unit × (Nat → Nat → Int32))) : Nat → Nat → Int32 → Int32 → Int32 → Int32 → Int32 → (Nat → Nat → Int32) → Option (Unit × (Nat → Nat → Int32))
  | 0, _, _, _, _, _, _, _ => none
  | n + 1, a0, a1, a2, a3, a4, a5, I =>
    sm_gd (sm_kd a0 = (12, 59)) <|
    sm_gd ((sm_kd (R a0 4)).1 = 13 ∧ ¬ ((0 : Int32) < 0 ∨ (sm_kd (R a0 4)).2 ≤ ((0 : Int32)).toNatClampNeg)) <|
    if (I (R a0 4) ((0 : Int32)).toNatClampNeg) ≤ a5 then (
      sm_gd ((sm_kd (R a0 39)).1 = 13 ∧ ¬ (((a2 <<< ((6 : Int32) &&& 31)) + a3) < 0 ∨ (sm_kd (R a0 39)).2 ≤ (((a2 <<< ((6 : Int32) &&& 31)) + a3)).toNatClampNeg)) <|
      sm_lt (sm_up I (R a0 39) (sm_up (I (R a0 39)) (((a2 <<< ((6 : Int32) &&& 31)) + a3)).toNatClampNeg a4)) fun I5 =>
      k_54 a0 a1 a2 (a3 + 1) I5)
    else (
      (f_X12_isOf N R a3 a5 I).bind fun p6 =>
      if p6.1 = 0 then (
        f_X12_tellMost_71 N R k_54 n a0 a1 a2 a3 a4 (a5 + 1) p6.2)
      else (
        (f_X12_with N R a0 a2 a3 a5 p6.2).bind fun p8 =>
        f_X12_tellMost_71 N R k_54 n a0 a1 a2 a3 (sm_mx a4 p8.1) (a5 + 1) p8.2))
def f_X12_tellMost_54 (N : Nat) (R : Nat → Nat → Nat) (k_48 : Nat → Int32 → Int32 → (Nat → Nat → Int32) → Option (Unit × (Nat → Nat → Int32))) : Nat → Nat → Int32 → Int32 → Int32 → (Nat → Nat → Int32) → Option (Unit × (Nat → Nat → Int32))
  | 0, _, _, _, _, _ => none
  | n + 1, a0, a1, a2, a3, I =>
    if a1 ≤ a3 then (
      k_48 a0 a1 (a2 + (-1)) I)
    else (
      sm_gd (sm_kd a0 = (12, 59)) <|
      (f_X12_with N R a0 a2 a3 (-1 : Int32) I).bind fun p3 =>
      f_X12_tellMost_71 N R (fun z0 z1 z2 z3 J => f_X12_tellMost_54 N R k_48 n z0 z1 z2 z3 J) N a0 a1 a2 a3 p3.1 (0 : Int32) p3.2)
def f_X12_tellMost_48 (N : Nat) (R : Nat → Nat → Nat) : Nat → Nat → Int32 → Int32 → (Nat → Nat → Int32) → Option (Unit × (Nat → Nat → Int32))
  | 0, _, _, _, _ => none
  | n + 1, a0, a1, a2, I =>
    if a2 < 0 then (
      some ((), I))
    else (
      f_X12_tellMost_54 N R (fun z0 z1 z2 J => f_X12_tellMost_48 N R n z0 z1 z2 J) N a0 a1 a2 (0 : Int32) I)
def f_X12_tellMost_11 (N : Nat) (R : Nat → Nat → Nat) : Nat → Nat → Int32 → Int32 → (Nat → Nat → Int32) → Option (Unit × (Nat → Nat → Int32))
  | 0, _, _, _, _ => none
  | n + 1, a0, a1, a2, I =>
    if a1 ≤ a2 then (
      sm_gd (sm_kd a0 = (12, 59)) <|
      sm_gd ((sm_kd (R a0 4)).1 = 13 ∧ ¬ ((1 : Int32) < 0 ∨ (sm_kd (R a0 4)).2 ≤ ((1 : Int32)).toNatClampNeg)) <|
      f_X12_tellMost_48 N R N a0 a1 ((I (R a0 4) ((1 : Int32)).toNatClampNeg) - (1 : Int32)) I)
    else (
      sm_gd (sm_kd a0 = (12, 59)) <|
      sm_gd ((sm_kd (R a0 4)).1 = 13 ∧ ¬ ((1 : Int32) < 0 ∨ (sm_kd (R a0 4)).2 ≤ ((1 : Int32)).toNatClampNeg)) <|
      sm_gd ((sm_kd (R a0 39)).1 = 13 ∧ ¬ ((((I (R a0 4) ((1 : Int32)).toNatClampNeg) <<< ((6 : Int32) &&& 31)) + a2) < 0 ∨ (sm_kd (R a0 39)).2 ≤ ((((I (R a0 4) ((1 : Int32)).toNatClampNeg) <<< ((6 : Int32) &&& 31)) + a2)).toNatClampNeg)) <|
      sm_lt (sm_up I (R a0 39) (sm_up (I (R a0 39)) ((((I (R a0 4) ((1 : Int32)).toNatClampNeg) <<< ((6 : Int32) &&& 31)) + a2)).toNatClampNeg (0 : Int32))) fun I7 =>
      f_X12_tellMost_11 N R n a0 a1 (a2 + 1) I7)
def f_X12_tellMost (N : Nat) (R : Nat → Nat → Nat) : Nat → (Nat → Nat → Int32) → Option (Unit × (Nat → Nat → Int32)) := fun a0 I =>
  sm_gd (sm_kd a0 = (12, 59)) <|
  sm_gd ((sm_kd (R a0 4)).1 = 13 ∧ ¬ ((0 : Int32) < 0 ∨ (sm_kd (R a0 4)).2 ≤ ((0 : Int32)).toNatClampNeg)) <|
  f_X12_tellMost_11 N R N a0 ((1 : Int32) <<< ((I (R a0 4) ((0 : Int32)).toNatClampNeg) &&& 31)) (0 : Int32) I
set_option maxHeartbeats 4000000 in
set_option maxRecDepth 100000 in
theorem w_X12_tellMost_71 {l : Launch} (N : Nat) (R : Nat → Nat → Nat) (k_54 : Nat → Int32 → Int32 → Int32 → (Nat → Nat → Int32) → Option (Unit × (Nat → Nat → Int32))) (hk_54 : ∀ (a0 : Nat) (a1 : Int32) (a2 : Int32) (a3 : Int32) (I : (Nat → Nat → Int32)) (y : (Unit × (Nat → Nat → Int32))), k_54 a0 a1 a2 a3 I = some y → sm_W l 3 mX12_tellMost 54 [(0, .inr (.inl a0)), (1, .inl a1), (2, .inl a2), (3, .inl a3)] [] (I, R) (.inl none) (y.2, R)) : ∀ (n : Nat) (a0 : Nat) (a1 : Int32) (a2 : Int32) (a3 : Int32) (a4 : Int32) (a5 : Int32) (I : (Nat → Nat → Int32)) (y : (Unit × (Nat → Nat → Int32))), f_X12_tellMost_71 N R k_54 n a0 a1 a2 a3 a4 a5 I = some y → sm_W l 3 mX12_tellMost 71 [(0, .inr (.inl a0)), (1, .inl a1), (2, .inl a2), (3, .inl a3), (4, .inl a4), (5, .inl a5)] [] (I, R) (.inl none) (y.2, R) := by
  intro n
  induction n with
  | zero => intro a0 a1 a2 a3 a4 a5 I y h; cases h
  | succ n ih =>
    intro a0 a1 a2 a3 a4 a5 I y h
    rw [f_X12_tellMost_71] at h
    refine sm_iload (q := 73) dX12_tellMost_71 rfl 5 rfl ?_
    refine sm_aload_n (q := 74) dX12_tellMost_73 rfl rfl 0 rfl ?_
    obtain ⟨hc1, h⟩ := sm_gd_e h
    refine sm_getR (r := R a0 4) (q := 77) dX12_tellMost_74 rfl fk_X12_41 hc1 (by decide) (by decide) rfl ?_
    refine sm_iconst (v := 0) (q := 78) dX12_tellMost_77 rfl (by decide) ?_
    obtain ⟨hc2, h⟩ := sm_gd_e h
    refine sm_iald (n := (sm_kd (R a0 4)).2) (q := 79) dX12_tellMost_78 rfl (Prod.ext hc2.1 rfl) hc2.2 ?_
    rcases sm_if_e h with ⟨hb3, h⟩ | ⟨hb3, h⟩
    · refine sm_icmp_ge (tgt := 112) (q := 82) dX12_tellMost_79 (by decide) rfl (fun _ => ?_) (fun hn => absurd hb3 hn)
      refine sm_aload_n (q := 113) dX12_tellMost_112 rfl rfl 0 rfl ?_
      refine sm_getR (r := R a0 39) (q := 116) dX12_tellMost_113 rfl fk_X12_104 hc1 (by decide) (by decide) rfl ?_
      refine sm_iload_n (q := 117) dX12_tellMost_116 rfl rfl 2 rfl ?_
      refine sm_bipush (v := 6) (q := 119) dX12_tellMost_117 rfl (by decide) ?_
      refine sm_ishl (q := 120) dX12_tellMost_119 rfl ?_
      refine sm_iload_n (q := 121) dX12_tellMost_120 rfl rfl 3 rfl ?_
      refine sm_iadd (q := 122) dX12_tellMost_121 rfl ?_
      refine sm_iload (q := 124) dX12_tellMost_122 rfl 4 rfl ?_
      obtain ⟨hc4, h⟩ := sm_gd_e h
      obtain ⟨I5, hI5, h⟩ := sm_lt_e h
      refine sm_iast (n := (sm_kd (R a0 39)).2) (q := 125) dX12_tellMost_124 rfl (Prod.ext hc4.1 rfl) hc4.2 ?_
      refine sm_memI hI5 ?_
      refine sm_iinc (v := (a3 + 1)) (L' := [(3, .inl (a3 + 1)), (0, .inr (.inl a0)), (1, .inl a1), (2, .inl a2), (4, .inl a4), (5, .inl a5)]) (q := 128) dX12_tellMost_125 rfl 3 rfl rfl (by decide) rfl ?_
      refine sm_goto (q := 54) dX12_tellMost_128 (by decide) ?_
      refine sm_pick [1, 2, 3, 0] rfl ?_
      exact hk_54 _ _ _ _ _ _ h
    · refine sm_icmp_ge (tgt := 112) (q := 82) dX12_tellMost_79 (by decide) rfl (fun ht => absurd ht hb3) (fun _ => ?_)
      refine sm_iload_n (q := 83) dX12_tellMost_82 rfl rfl 3 rfl ?_
      refine sm_iload (q := 85) dX12_tellMost_83 rfl 5 rfl ?_
      obtain ⟨p6, hc_p6, h⟩ := sm_bd_e h
      refine sm_callSi (q := 88) (As := [.inl a3, .inl a5]) (S := []) (e_X12_isOf hc_p6) ms_X12_337 rfl (by decide) (Nat.le_of_ble_eq_true rfl) dX12_tellMost_85 rfl ?_
      rcases sm_if_e h with ⟨hb7, h⟩ | ⟨hb7, h⟩
      · refine sm_if_eq (tgt := 106) (q := 91) dX12_tellMost_88 (by decide) rfl (fun _ => ?_) (fun hn => absurd hb7 hn)
        refine sm_iinc (v := (a5 + 1)) (L' := [(5, .inl (a5 + 1)), (0, .inr (.inl a0)), (1, .inl a1), (2, .inl a2), (3, .inl a3), (4, .inl a4)]) (q := 109) dX12_tellMost_106 rfl 5 rfl rfl (by decide) rfl ?_
        refine sm_goto (q := 71) dX12_tellMost_109 (by decide) ?_
        refine sm_pick [1, 2, 3, 4, 5, 0] rfl ?_
        exact ih _ _ _ _ _ _ _ _ h
      · refine sm_if_eq (tgt := 106) (q := 91) dX12_tellMost_88 (by decide) rfl (fun ht => absurd ht hb7) (fun _ => ?_)
        refine sm_iload (q := 93) dX12_tellMost_91 rfl 4 rfl ?_
        refine sm_aload_n (q := 94) dX12_tellMost_93 rfl rfl 0 rfl ?_
        refine sm_iload_n (q := 95) dX12_tellMost_94 rfl rfl 2 rfl ?_
        refine sm_iload_n (q := 96) dX12_tellMost_95 rfl rfl 3 rfl ?_
        refine sm_iload (q := 98) dX12_tellMost_96 rfl 5 rfl ?_
        obtain ⟨p8, hc_p8, h⟩ := sm_bd_e h
        refine sm_callVi (q := 101) (As := [.inl a2, .inl a3, .inl a5]) (S := [.inl a4]) (e_X12_with hc_p8) mv_X12_417 hc1 rfl (by decide) (Nat.le_of_ble_eq_true rfl) dX12_tellMost_98 rfl ?_
        refine sm_mmx (q := 104) dX12_tellMost_101 rfl mm_X12_328 (Nat.le_of_ble_eq_true rfl) ?_
        refine sm_istore (L' := [(4, .inl (sm_mx a4 p8.1)), (0, .inr (.inl a0)), (1, .inl a1), (2, .inl a2), (3, .inl a3), (5, .inl a5)]) (q := 106) dX12_tellMost_104 rfl (by decide) rfl ?_
        refine sm_iinc (v := (a5 + 1)) (L' := [(5, .inl (a5 + 1)), (4, .inl (sm_mx a4 p8.1)), (0, .inr (.inl a0)), (1, .inl a1), (2, .inl a2), (3, .inl a3)]) (q := 109) dX12_tellMost_106 rfl 5 rfl rfl (by decide) rfl ?_
        refine sm_goto (q := 71) dX12_tellMost_109 (by decide) ?_
        refine sm_pick [2, 3, 4, 5, 1, 0] rfl ?_
        exact ih _ _ _ _ _ _ _ _ h
set_option maxHeartbeats 4000000 in
set_option maxRecDepth 100000 in
theorem w_X12_tellMost_54 {l : Launch} (N : Nat) (R : Nat → Nat → Nat) (k_48 : Nat → Int32 → Int32 → (Nat → Nat → Int32) → Option (Unit × (Nat → Nat → Int32))) (hk_48 : ∀ (a0 : Nat) (a1 : Int32) (a2 : Int32) (I : (Nat → Nat → Int32)) (y : (Unit × (Nat → Nat → Int32))), k_48 a0 a1 a2 I = some y → sm_W l 3 mX12_tellMost 48 [(0, .inr (.inl a0)), (1, .inl a1), (2, .inl a2)] [] (I, R) (.inl none) (y.2, R)) : ∀ (n : Nat) (a0 : Nat) (a1 : Int32) (a2 : Int32) (a3 : Int32) (I : (Nat → Nat → Int32)) (y : (Unit × (Nat → Nat → Int32))), f_X12_tellMost_54 N R k_48 n a0 a1 a2 a3 I = some y → sm_W l 3 mX12_tellMost 54 [(0, .inr (.inl a0)), (1, .inl a1), (2, .inl a2), (3, .inl a3)] [] (I, R) (.inl none) (y.2, R) := by
  intro n
  induction n with
  | zero => intro a0 a1 a2 a3 I y h; cases h
  | succ n ih =>
    intro a0 a1 a2 a3 I y h
    rw [f_X12_tellMost_54] at h
    refine sm_iload_n (q := 55) dX12_tellMost_54 rfl rfl 3 rfl ?_
    refine sm_iload_n (q := 56) dX12_tellMost_55 rfl rfl 1 rfl ?_
    rcases sm_if_e h with ⟨hb1, h⟩ | ⟨hb1, h⟩
    · refine sm_icmp_ge (tgt := 131) (q := 59) dX12_tellMost_56 (by decide) rfl (fun _ => ?_) (fun hn => absurd hb1 hn)
      refine sm_iinc (v := (a2 + (-1))) (L' := [(2, .inl (a2 + (-1))), (0, .inr (.inl a0)), (1, .inl a1), (3, .inl a3)]) (q := 134) dX12_tellMost_131 rfl 2 rfl rfl (by decide) rfl ?_
      refine sm_goto (q := 48) dX12_tellMost_134 (by decide) ?_
      refine sm_pick [1, 2, 0] rfl ?_
      exact hk_48 _ _ _ _ _ h
    · refine sm_icmp_ge (tgt := 131) (q := 59) dX12_tellMost_56 (by decide) rfl (fun ht => absurd ht hb1) (fun _ => ?_)
      refine sm_aload_n (q := 60) dX12_tellMost_59 rfl rfl 0 rfl ?_
      refine sm_iload_n (q := 61) dX12_tellMost_60 rfl rfl 2 rfl ?_
      refine sm_iload_n (q := 62) dX12_tellMost_61 rfl rfl 3 rfl ?_
      refine sm_iconst (v := -1) (q := 63) dX12_tellMost_62 rfl (by decide) ?_
      obtain ⟨hc2, h⟩ := sm_gd_e h
      obtain ⟨p3, hc_p3, h⟩ := sm_bd_e h
      refine sm_callVi (q := 66) (As := [.inl a2, .inl a3, .inl (-1 : Int32)]) (S := []) (e_X12_with hc_p3) mv_X12_417 hc2 rfl (by decide) (Nat.le_of_ble_eq_true rfl) dX12_tellMost_63 rfl ?_
      refine sm_istore (L' := [(4, .inl p3.1), (0, .inr (.inl a0)), (1, .inl a1), (2, .inl a2), (3, .inl a3)]) (q := 68) dX12_tellMost_66 rfl (by decide) rfl ?_
      refine sm_iconst (v := 0) (q := 69) dX12_tellMost_68 rfl (by decide) ?_
      refine sm_istore (L' := [(5, .inl (0 : Int32)), (4, .inl p3.1), (0, .inr (.inl a0)), (1, .inl a1), (2, .inl a2), (3, .inl a3)]) (q := 71) dX12_tellMost_69 rfl (by decide) rfl ?_
      refine sm_pick [2, 3, 4, 5, 1, 0] rfl ?_
      exact w_X12_tellMost_71 N R (fun z0 z1 z2 z3 J => f_X12_tellMost_54 N R k_48 n z0 z1 z2 z3 J) (fun z0 z1 z2 z3 J y h => ih z0 z1 z2 z3 J y h) N _ _ _ _ _ _ _ _ h
set_option maxHeartbeats 4000000 in
set_option maxRecDepth 100000 in
theorem w_X12_tellMost_48 {l : Launch} (N : Nat) (R : Nat → Nat → Nat) : ∀ (n : Nat) (a0 : Nat) (a1 : Int32) (a2 : Int32) (I : (Nat → Nat → Int32)) (y : (Unit × (Nat → Nat → Int32))), f_X12_tellMost_48 N R n a0 a1 a2 I = some y → sm_W l 3 mX12_tellMost 48 [(0, .inr (.inl a0)), (1, .inl a1), (2, .inl a2)] [] (I, R) (.inl none) (y.2, R) := by
  intro n
  induction n with
  | zero => intro a0 a1 a2 I y h; cases h
  | succ n ih =>
    intro a0 a1 a2 I y h
    rw [f_X12_tellMost_48] at h
    refine sm_iload_n (q := 49) dX12_tellMost_48 rfl rfl 2 rfl ?_
    rcases sm_if_e h with ⟨hb1, h⟩ | ⟨hb1, h⟩
    · refine sm_if_lt (tgt := 137) (q := 52) dX12_tellMost_49 (by decide) rfl (fun _ => ?_) (fun hn => absurd hb1 hn)
      obtain rfl := Option.some.inj h
      exact sm_vret dX12_tellMost_137 rfl
    · refine sm_if_lt (tgt := 137) (q := 52) dX12_tellMost_49 (by decide) rfl (fun ht => absurd ht hb1) (fun _ => ?_)
      refine sm_iconst (v := 0) (q := 53) dX12_tellMost_52 rfl (by decide) ?_
      refine sm_istore_n (L' := [(3, .inl (0 : Int32)), (0, .inr (.inl a0)), (1, .inl a1), (2, .inl a2)]) (q := 54) dX12_tellMost_53 rfl rfl (by decide) rfl ?_
      refine sm_pick [1, 2, 3, 0] rfl ?_
      exact w_X12_tellMost_54 N R (fun z0 z1 z2 J => f_X12_tellMost_48 N R n z0 z1 z2 J) (fun z0 z1 z2 J y h => ih z0 z1 z2 J y h) N _ _ _ _ _ _ h
set_option maxHeartbeats 4000000 in
set_option maxRecDepth 100000 in
theorem w_X12_tellMost_11 {l : Launch} (N : Nat) (R : Nat → Nat → Nat) : ∀ (n : Nat) (a0 : Nat) (a1 : Int32) (a2 : Int32) (I : (Nat → Nat → Int32)) (y : (Unit × (Nat → Nat → Int32))), f_X12_tellMost_11 N R n a0 a1 a2 I = some y → sm_W l 3 mX12_tellMost 11 [(0, .inr (.inl a0)), (1, .inl a1), (2, .inl a2)] [] (I, R) (.inl none) (y.2, R) := by
  intro n
  induction n with
  | zero => intro a0 a1 a2 I y h; cases h
  | succ n ih =>
    intro a0 a1 a2 I y h
    rw [f_X12_tellMost_11] at h
    refine sm_iload_n (q := 12) dX12_tellMost_11 rfl rfl 2 rfl ?_
    refine sm_iload_n (q := 13) dX12_tellMost_12 rfl rfl 1 rfl ?_
    rcases sm_if_e h with ⟨hb1, h⟩ | ⟨hb1, h⟩
    · refine sm_icmp_ge (tgt := 39) (q := 16) dX12_tellMost_13 (by decide) rfl (fun _ => ?_) (fun hn => absurd hb1 hn)
      refine sm_aload_n (q := 40) dX12_tellMost_39 rfl rfl 0 rfl ?_
      obtain ⟨hc2, h⟩ := sm_gd_e h
      refine sm_getR (r := R a0 4) (q := 43) dX12_tellMost_40 rfl fk_X12_41 hc2 (by decide) (by decide) rfl ?_
      refine sm_iconst (v := 1) (q := 44) dX12_tellMost_43 rfl (by decide) ?_
      obtain ⟨hc3, h⟩ := sm_gd_e h
      refine sm_iald (n := (sm_kd (R a0 4)).2) (q := 45) dX12_tellMost_44 rfl (Prod.ext hc3.1 rfl) hc3.2 ?_
      refine sm_iconst (v := 1) (q := 46) dX12_tellMost_45 rfl (by decide) ?_
      refine sm_isub (q := 47) dX12_tellMost_46 rfl ?_
      refine sm_istore_n (L' := [(2, .inl ((I (R a0 4) ((1 : Int32)).toNatClampNeg) - (1 : Int32))), (0, .inr (.inl a0)), (1, .inl a1)]) (q := 48) dX12_tellMost_47 rfl rfl (by decide) rfl ?_
      refine sm_pick [1, 2, 0] rfl ?_
      exact w_X12_tellMost_48 N R N _ _ _ _ _ h
    · refine sm_icmp_ge (tgt := 39) (q := 16) dX12_tellMost_13 (by decide) rfl (fun ht => absurd ht hb1) (fun _ => ?_)
      refine sm_aload_n (q := 17) dX12_tellMost_16 rfl rfl 0 rfl ?_
      obtain ⟨hc4, h⟩ := sm_gd_e h
      refine sm_getR (r := R a0 39) (q := 20) dX12_tellMost_17 rfl fk_X12_104 hc4 (by decide) (by decide) rfl ?_
      refine sm_aload_n (q := 21) dX12_tellMost_20 rfl rfl 0 rfl ?_
      refine sm_getR (r := R a0 4) (q := 24) dX12_tellMost_21 rfl fk_X12_41 hc4 (by decide) (by decide) rfl ?_
      refine sm_iconst (v := 1) (q := 25) dX12_tellMost_24 rfl (by decide) ?_
      obtain ⟨hc5, h⟩ := sm_gd_e h
      refine sm_iald (n := (sm_kd (R a0 4)).2) (q := 26) dX12_tellMost_25 rfl (Prod.ext hc5.1 rfl) hc5.2 ?_
      refine sm_bipush (v := 6) (q := 28) dX12_tellMost_26 rfl (by decide) ?_
      refine sm_ishl (q := 29) dX12_tellMost_28 rfl ?_
      refine sm_iload_n (q := 30) dX12_tellMost_29 rfl rfl 2 rfl ?_
      refine sm_iadd (q := 31) dX12_tellMost_30 rfl ?_
      refine sm_iconst (v := 0) (q := 32) dX12_tellMost_31 rfl (by decide) ?_
      obtain ⟨hc6, h⟩ := sm_gd_e h
      obtain ⟨I7, hI7, h⟩ := sm_lt_e h
      refine sm_iast (n := (sm_kd (R a0 39)).2) (q := 33) dX12_tellMost_32 rfl (Prod.ext hc6.1 rfl) hc6.2 ?_
      refine sm_memI hI7 ?_
      refine sm_iinc (v := (a2 + 1)) (L' := [(2, .inl (a2 + 1)), (0, .inr (.inl a0)), (1, .inl a1)]) (q := 36) dX12_tellMost_33 rfl 2 rfl rfl (by decide) rfl ?_
      refine sm_goto (q := 11) dX12_tellMost_36 (by decide) ?_
      refine sm_pick [1, 2, 0] rfl ?_
      exact ih _ _ _ _ _ h
set_option maxHeartbeats 4000000 in
set_option maxRecDepth 100000 in
theorem w_X12_tellMost {l : Launch} (N : Nat) (R : Nat → Nat → Nat) : ∀ (a0 : Nat) (I : (Nat → Nat → Int32)) (y : (Unit × (Nat → Nat → Int32))), f_X12_tellMost N R a0 I = some y → sm_W l 3 mX12_tellMost 0 [(0, .inr (.inl a0))] [] (I, R) (.inl none) (y.2, R) := by
  intro a0 I y h
  unfold f_X12_tellMost at h
  refine sm_iconst (v := 1) (q := 1) dX12_tellMost_0 rfl (by decide) ?_
  refine sm_aload_n (q := 2) dX12_tellMost_1 rfl rfl 0 rfl ?_
  obtain ⟨hc1, h⟩ := sm_gd_e h
  refine sm_getR (r := R a0 4) (q := 5) dX12_tellMost_2 rfl fk_X12_41 hc1 (by decide) (by decide) rfl ?_
  refine sm_iconst (v := 0) (q := 6) dX12_tellMost_5 rfl (by decide) ?_
  obtain ⟨hc2, h⟩ := sm_gd_e h
  refine sm_iald (n := (sm_kd (R a0 4)).2) (q := 7) dX12_tellMost_6 rfl (Prod.ext hc2.1 rfl) hc2.2 ?_
  refine sm_ishl (q := 8) dX12_tellMost_7 rfl ?_
  refine sm_istore_n (L' := [(1, .inl ((1 : Int32) <<< ((I (R a0 4) ((0 : Int32)).toNatClampNeg) &&& 31))), (0, .inr (.inl a0))]) (q := 9) dX12_tellMost_8 rfl rfl (by decide) rfl ?_
  refine sm_iconst (v := 0) (q := 10) dX12_tellMost_9 rfl (by decide) ?_
  refine sm_istore_n (L' := [(2, .inl (0 : Int32)), (1, .inl ((1 : Int32) <<< ((I (R a0 4) ((0 : Int32)).toNatClampNeg) &&& 31))), (0, .inr (.inl a0))]) (q := 11) dX12_tellMost_10 rfl rfl (by decide) rfl ?_
  refine sm_pick [2, 1, 0] rfl ?_
  exact w_X12_tellMost_11 N R N _ _ _ _ _ h
theorem e_X12_tellMost {l : Launch} {N : Nat} {R : Nat → Nat → Nat} {a0 : Nat} {I : (Nat → Nat → Int32)} {y : (Unit × (Nat → Nat → Int32))} (h : f_X12_tellMost N R a0 I = some y) : sm_E l 3 mX12_tellMost [.inr (.inl a0)] (I, R) (.inl none) (y.2, R) :=
  sm_meth (by decide) (Nat.le_of_ble_eq_true rfl) (w_X12_tellMost N R a0 I y h)
def f_X12_choice_81 (N : Nat) (R : Nat → Nat → Nat) (k_63 : Nat → Int32 → Int32 → Int32 → Int32 → (Nat → Nat → Int32) → Option (Int32 × (Nat → Nat → Int32))) : Nat → Nat → Int32 → Int32 → Int32 → Int32 → Int32 → (Nat → Nat → Int32) → Option (Int32 × (Nat → Nat → Int32))
  | 0, _, _, _, _, _, _, _ => none
  | n + 1, a0, a1, a2, a3, a4, a5, I =>
    if a5 < 0 then (
      if a3 = (-1 : Int32) then (
        k_63 a0 a1 (a2 &&& a2) a3 (a4 + 1) I)
      else (
        k_63 a0 a1 (a2 &&& (((1 : Int32) <<< (a3 &&& 31)) ^^^ (-1 : Int32))) a3 (a4 + 1) I))
    else (
      (f_X12_isOf N R a2 a5 I).bind fun p3 =>
      if p3.1 = 0 then (
        f_X12_choice_81 N R k_63 n a0 a1 a2 a3 a4 (a5 + (-1)) p3.2)
      else (
        sm_gd (sm_kd a0 = (12, 59)) <|
        (f_X12_with N R a0 a4 a2 a5 p3.2).bind fun p6 =>
        sm_gd ((sm_kd (R a0 39)).1 = 13 ∧ ¬ (((a4 <<< ((6 : Int32) &&& 31)) + a2) < 0 ∨ (sm_kd (R a0 39)).2 ≤ (((a4 <<< ((6 : Int32) &&& 31)) + a2)).toNatClampNeg)) <|
        if p6.1 = (p6.2 (R a0 39) (((a4 <<< ((6 : Int32) &&& 31)) + a2)).toNatClampNeg) then (
          f_X12_choice_81 N R k_63 n a0 a1 a2 a5 a4 (a5 + (-1)) p6.2)
        else (
          f_X12_choice_81 N R k_63 n a0 a1 a2 a3 a4 (a5 + (-1)) p6.2)))
def f_X12_choice_63 (N : Nat) (R : Nat → Nat → Nat) : Nat → Nat → Int32 → Int32 → Int32 → Int32 → (Nat → Nat → Int32) → Option (Int32 × (Nat → Nat → Int32))
  | 0, _, _, _, _, _, _ => none
  | n + 1, a0, a1, a2, a3, a4, I =>
    if a1 < a4 then (
      some (a3, I))
    else (
      sm_gd (sm_kd a0 = (12, 59)) <|
      sm_gd ((sm_kd (R a0 4)).1 = 13 ∧ ¬ ((0 : Int32) < 0 ∨ (sm_kd (R a0 4)).2 ≤ ((0 : Int32)).toNatClampNeg)) <|
      f_X12_choice_81 N R (fun z0 z1 z2 z3 z4 J => f_X12_choice_63 N R n z0 z1 z2 z3 z4 J) N a0 a1 a2 (-1 : Int32) a4 ((I (R a0 4) ((0 : Int32)).toNatClampNeg) - (1 : Int32)) I)
def f_X12_choice (N : Nat) (R : Nat → Nat → Nat) : Nat → Int32 → (Nat → Nat → Int32) → Option (Int32 × (Nat → Nat → Int32)) := fun a0 a1 I =>
  sm_gd (sm_kd a0 = (12, 59)) <|
  sm_lt (sm_up I a0 (sm_up (I a0) 3 (0 : Int32))) fun I2 =>
  sm_gd ((sm_kd (R a0 4)).1 = 13 ∧ ¬ ((1 : Int32) < 0 ∨ (sm_kd (R a0 4)).2 ≤ ((1 : Int32)).toNatClampNeg)) <|
  (f_X12_isIn N R (Int32.toInt64 a1) (-1 : Int64) (Int32.toInt64 ((I2 (R a0 4) ((1 : Int32)).toNatClampNeg) - (1 : Int32))) I2).bind fun p4 =>
  if p4.1 = 0 then (
    (f_X12_fail N R a0 (1 : Int32) p4.2).bind fun p6 =>
    some (p6.1, p6.2))
  else (
    (f_X12_tellMost N R a0 p4.2).bind fun p7 =>
    sm_gd ((sm_kd (R a0 4)).1 = 13 ∧ ¬ ((0 : Int32) < 0 ∨ (sm_kd (R a0 4)).2 ≤ ((0 : Int32)).toNatClampNeg)) <|
    if a1 = (-1 : Int32) then (
      sm_gd ((sm_kd (R a0 39)).1 = 13 ∧ ¬ ((((1 : Int32) <<< ((p7.2 (R a0 4) ((0 : Int32)).toNatClampNeg) &&& 31)) - (1 : Int32)) < 0 ∨ (sm_kd (R a0 39)).2 ≤ ((((1 : Int32) <<< ((p7.2 (R a0 4) ((0 : Int32)).toNatClampNeg) &&& 31)) - (1 : Int32))).toNatClampNeg)) <|
      some ((p7.2 (R a0 39) ((((1 : Int32) <<< ((p7.2 (R a0 4) ((0 : Int32)).toNatClampNeg) &&& 31)) - (1 : Int32))).toNatClampNeg), p7.2))
    else (
      f_X12_choice_63 N R N a0 a1 (((1 : Int32) <<< ((p7.2 (R a0 4) ((0 : Int32)).toNatClampNeg) &&& 31)) - (1 : Int32)) (-1 : Int32) (0 : Int32) p7.2))
set_option maxHeartbeats 4000000 in
set_option maxRecDepth 100000 in
theorem w_X12_choice_81 {l : Launch} (N : Nat) (R : Nat → Nat → Nat) (k_63 : Nat → Int32 → Int32 → Int32 → Int32 → (Nat → Nat → Int32) → Option (Int32 × (Nat → Nat → Int32))) (hk_63 : ∀ (a0 : Nat) (a1 : Int32) (a2 : Int32) (a3 : Int32) (a4 : Int32) (I : (Nat → Nat → Int32)) (y : (Int32 × (Nat → Nat → Int32))), k_63 a0 a1 a2 a3 a4 I = some y → sm_W l 4 mX12_choice 63 [(0, .inr (.inl a0)), (1, .inl a1), (2, .inl a2), (3, .inl a3), (4, .inl a4)] [] (I, R) (.inl (some (.inl y.1))) (y.2, R)) : ∀ (n : Nat) (a0 : Nat) (a1 : Int32) (a2 : Int32) (a3 : Int32) (a4 : Int32) (a5 : Int32) (I : (Nat → Nat → Int32)) (y : (Int32 × (Nat → Nat → Int32))), f_X12_choice_81 N R k_63 n a0 a1 a2 a3 a4 a5 I = some y → sm_W l 4 mX12_choice 81 [(0, .inr (.inl a0)), (1, .inl a1), (2, .inl a2), (3, .inl a3), (4, .inl a4), (5, .inl a5)] [] (I, R) (.inl (some (.inl y.1))) (y.2, R) := by
  intro n
  induction n with
  | zero => intro a0 a1 a2 a3 a4 a5 I y h; cases h
  | succ n ih =>
    intro a0 a1 a2 a3 a4 a5 I y h
    rw [f_X12_choice_81] at h
    refine sm_iload (q := 83) dX12_choice_81 rfl 5 rfl ?_
    rcases sm_if_e h with ⟨hb1, h⟩ | ⟨hb1, h⟩
    · refine sm_if_lt (tgt := 128) (q := 86) dX12_choice_83 (by decide) rfl (fun _ => ?_) (fun hn => absurd hb1 hn)
      refine sm_iload_n (q := 129) dX12_choice_128 rfl rfl 2 rfl ?_
      refine sm_iload_n (q := 130) dX12_choice_129 rfl rfl 3 rfl ?_
      refine sm_iconst (v := -1) (q := 131) dX12_choice_130 rfl (by decide) ?_
      rcases sm_if_e h with ⟨hb2, h⟩ | ⟨hb2, h⟩
      · refine sm_icmp_ne (tgt := 138) (q := 134) dX12_choice_131 (by decide) rfl (fun hn => absurd hb2 hn) (fun _ => ?_)
        refine sm_iload_n (q := 135) dX12_choice_134 rfl rfl 2 rfl ?_
        refine sm_goto (q := 143) dX12_choice_135 (by decide) ?_
        refine sm_iand (q := 144) dX12_choice_143 rfl ?_
        refine sm_istore_n (L' := [(2, .inl (a2 &&& a2)), (0, .inr (.inl a0)), (1, .inl a1), (3, .inl a3), (4, .inl a4), (5, .inl a5)]) (q := 145) dX12_choice_144 rfl rfl (by decide) rfl ?_
        refine sm_iinc (v := (a4 + 1)) (L' := [(4, .inl (a4 + 1)), (2, .inl (a2 &&& a2)), (0, .inr (.inl a0)), (1, .inl a1), (3, .inl a3), (5, .inl a5)]) (q := 148) dX12_choice_145 rfl 4 rfl rfl (by decide) rfl ?_
        refine sm_goto (q := 63) dX12_choice_148 (by decide) ?_
        refine sm_pick [2, 3, 1, 4, 0] rfl ?_
        exact hk_63 _ _ _ _ _ _ _ h
      · refine sm_icmp_ne (tgt := 138) (q := 134) dX12_choice_131 (by decide) rfl (fun _ => ?_) (fun he => absurd he hb2)
        refine sm_iconst (v := 1) (q := 139) dX12_choice_138 rfl (by decide) ?_
        refine sm_iload_n (q := 140) dX12_choice_139 rfl rfl 3 rfl ?_
        refine sm_ishl (q := 141) dX12_choice_140 rfl ?_
        refine sm_iconst (v := -1) (q := 142) dX12_choice_141 rfl (by decide) ?_
        refine sm_ixor (q := 143) dX12_choice_142 rfl ?_
        refine sm_iand (q := 144) dX12_choice_143 rfl ?_
        refine sm_istore_n (L' := [(2, .inl (a2 &&& (((1 : Int32) <<< (a3 &&& 31)) ^^^ (-1 : Int32)))), (0, .inr (.inl a0)), (1, .inl a1), (3, .inl a3), (4, .inl a4), (5, .inl a5)]) (q := 145) dX12_choice_144 rfl rfl (by decide) rfl ?_
        refine sm_iinc (v := (a4 + 1)) (L' := [(4, .inl (a4 + 1)), (2, .inl (a2 &&& (((1 : Int32) <<< (a3 &&& 31)) ^^^ (-1 : Int32)))), (0, .inr (.inl a0)), (1, .inl a1), (3, .inl a3), (5, .inl a5)]) (q := 148) dX12_choice_145 rfl 4 rfl rfl (by decide) rfl ?_
        refine sm_goto (q := 63) dX12_choice_148 (by decide) ?_
        refine sm_pick [2, 3, 1, 4, 0] rfl ?_
        exact hk_63 _ _ _ _ _ _ _ h
    · refine sm_if_lt (tgt := 128) (q := 86) dX12_choice_83 (by decide) rfl (fun ht => absurd ht hb1) (fun _ => ?_)
      refine sm_iload_n (q := 87) dX12_choice_86 rfl rfl 2 rfl ?_
      refine sm_iload (q := 89) dX12_choice_87 rfl 5 rfl ?_
      obtain ⟨p3, hc_p3, h⟩ := sm_bd_e h
      refine sm_callSi (q := 92) (As := [.inl a2, .inl a5]) (S := []) (e_X12_isOf hc_p3) ms_X12_337 rfl (by decide) (Nat.le_of_ble_eq_true rfl) dX12_choice_89 rfl ?_
      rcases sm_if_e h with ⟨hb4, h⟩ | ⟨hb4, h⟩
      · refine sm_if_eq (tgt := 122) (q := 95) dX12_choice_92 (by decide) rfl (fun _ => ?_) (fun hn => absurd hb4 hn)
        refine sm_iinc (v := (a5 + (-1))) (L' := [(5, .inl (a5 + (-1))), (0, .inr (.inl a0)), (1, .inl a1), (2, .inl a2), (3, .inl a3), (4, .inl a4)]) (q := 125) dX12_choice_122 rfl 5 rfl rfl (by decide) rfl ?_
        refine sm_goto (q := 81) dX12_choice_125 (by decide) ?_
        refine sm_pick [1, 2, 3, 4, 5, 0] rfl ?_
        exact ih _ _ _ _ _ _ _ _ h
      · refine sm_if_eq (tgt := 122) (q := 95) dX12_choice_92 (by decide) rfl (fun ht => absurd ht hb4) (fun _ => ?_)
        refine sm_aload_n (q := 96) dX12_choice_95 rfl rfl 0 rfl ?_
        refine sm_iload (q := 98) dX12_choice_96 rfl 4 rfl ?_
        refine sm_iload_n (q := 99) dX12_choice_98 rfl rfl 2 rfl ?_
        refine sm_iload (q := 101) dX12_choice_99 rfl 5 rfl ?_
        obtain ⟨hc5, h⟩ := sm_gd_e h
        obtain ⟨p6, hc_p6, h⟩ := sm_bd_e h
        refine sm_callVi (q := 104) (As := [.inl a4, .inl a2, .inl a5]) (S := []) (e_X12_with hc_p6) mv_X12_417 hc5 rfl (by decide) (Nat.le_of_ble_eq_true rfl) dX12_choice_101 rfl ?_
        refine sm_aload_n (q := 105) dX12_choice_104 rfl rfl 0 rfl ?_
        refine sm_getR (r := R a0 39) (q := 108) dX12_choice_105 rfl fk_X12_104 hc5 (by decide) (by decide) rfl ?_
        refine sm_iload (q := 110) dX12_choice_108 rfl 4 rfl ?_
        refine sm_bipush (v := 6) (q := 112) dX12_choice_110 rfl (by decide) ?_
        refine sm_ishl (q := 113) dX12_choice_112 rfl ?_
        refine sm_iload_n (q := 114) dX12_choice_113 rfl rfl 2 rfl ?_
        refine sm_iadd (q := 115) dX12_choice_114 rfl ?_
        obtain ⟨hc7, h⟩ := sm_gd_e h
        refine sm_iald (n := (sm_kd (R a0 39)).2) (q := 116) dX12_choice_115 rfl (Prod.ext hc7.1 rfl) hc7.2 ?_
        rcases sm_if_e h with ⟨hb8, h⟩ | ⟨hb8, h⟩
        · refine sm_icmp_ne (tgt := 122) (q := 119) dX12_choice_116 (by decide) rfl (fun hn => absurd hb8 hn) (fun _ => ?_)
          refine sm_iload (q := 121) dX12_choice_119 rfl 5 rfl ?_
          refine sm_istore_n (L' := [(3, .inl a5), (0, .inr (.inl a0)), (1, .inl a1), (2, .inl a2), (4, .inl a4), (5, .inl a5)]) (q := 122) dX12_choice_121 rfl rfl (by decide) rfl ?_
          refine sm_iinc (v := (a5 + (-1))) (L' := [(5, .inl (a5 + (-1))), (3, .inl a5), (0, .inr (.inl a0)), (1, .inl a1), (2, .inl a2), (4, .inl a4)]) (q := 125) dX12_choice_122 rfl 5 rfl rfl (by decide) rfl ?_
          refine sm_goto (q := 81) dX12_choice_125 (by decide) ?_
          refine sm_pick [2, 3, 4, 1, 5, 0] rfl ?_
          exact ih _ _ _ _ _ _ _ _ h
        · refine sm_icmp_ne (tgt := 122) (q := 119) dX12_choice_116 (by decide) rfl (fun _ => ?_) (fun he => absurd he hb8)
          refine sm_iinc (v := (a5 + (-1))) (L' := [(5, .inl (a5 + (-1))), (0, .inr (.inl a0)), (1, .inl a1), (2, .inl a2), (3, .inl a3), (4, .inl a4)]) (q := 125) dX12_choice_122 rfl 5 rfl rfl (by decide) rfl ?_
          refine sm_goto (q := 81) dX12_choice_125 (by decide) ?_
          refine sm_pick [1, 2, 3, 4, 5, 0] rfl ?_
          exact ih _ _ _ _ _ _ _ _ h
set_option maxHeartbeats 4000000 in
set_option maxRecDepth 100000 in
theorem w_X12_choice_63 {l : Launch} (N : Nat) (R : Nat → Nat → Nat) : ∀ (n : Nat) (a0 : Nat) (a1 : Int32) (a2 : Int32) (a3 : Int32) (a4 : Int32) (I : (Nat → Nat → Int32)) (y : (Int32 × (Nat → Nat → Int32))), f_X12_choice_63 N R n a0 a1 a2 a3 a4 I = some y → sm_W l 4 mX12_choice 63 [(0, .inr (.inl a0)), (1, .inl a1), (2, .inl a2), (3, .inl a3), (4, .inl a4)] [] (I, R) (.inl (some (.inl y.1))) (y.2, R) := by
  intro n
  induction n with
  | zero => intro a0 a1 a2 a3 a4 I y h; cases h
  | succ n ih =>
    intro a0 a1 a2 a3 a4 I y h
    rw [f_X12_choice_63] at h
    refine sm_iload (q := 65) dX12_choice_63 rfl 4 rfl ?_
    refine sm_iload_n (q := 66) dX12_choice_65 rfl rfl 1 rfl ?_
    rcases sm_if_e h with ⟨hb1, h⟩ | ⟨hb1, h⟩
    · refine sm_icmp_gt (tgt := 151) (q := 69) dX12_choice_66 (by decide) rfl (fun _ => ?_) (fun hn => absurd hb1 hn)
      refine sm_iload_n (q := 152) dX12_choice_151 rfl rfl 3 rfl ?_
      obtain rfl := Option.some.inj h
      exact sm_iret dX12_choice_152 rfl
    · refine sm_icmp_gt (tgt := 151) (q := 69) dX12_choice_66 (by decide) rfl (fun ht => absurd ht hb1) (fun _ => ?_)
      refine sm_iconst (v := -1) (q := 70) dX12_choice_69 rfl (by decide) ?_
      refine sm_istore_n (L' := [(3, .inl (-1 : Int32)), (0, .inr (.inl a0)), (1, .inl a1), (2, .inl a2), (4, .inl a4)]) (q := 71) dX12_choice_70 rfl rfl (by decide) rfl ?_
      refine sm_aload_n (q := 72) dX12_choice_71 rfl rfl 1 rfl ?_
      obtain ⟨hc2, h⟩ := sm_gd_e h
      refine sm_getR (r := R a0 4) (q := 75) dX12_choice_72 rfl fk_X12_41 hc2 (by decide) (by decide) rfl ?_
      refine sm_iconst (v := 0) (q := 76) dX12_choice_75 rfl (by decide) ?_
      obtain ⟨hc3, h⟩ := sm_gd_e h
      refine sm_iald (n := (sm_kd (R a0 4)).2) (q := 77) dX12_choice_76 rfl (Prod.ext hc3.1 rfl) hc3.2 ?_
      refine sm_iconst (v := 1) (q := 78) dX12_choice_77 rfl (by decide) ?_
      refine sm_isub (q := 79) dX12_choice_78 rfl ?_
      refine sm_istore (L' := [(5, .inl ((I (R a0 4) ((0 : Int32)).toNatClampNeg) - (1 : Int32))), (3, .inl (-1 : Int32)), (0, .inr (.inl a0)), (1, .inl a1), (2, .inl a2), (4, .inl a4)]) (q := 81) dX12_choice_79 rfl (by decide) rfl ?_
      refine sm_pick [2, 3, 4, 1, 5, 0] rfl ?_
      exact w_X12_choice_81 N R (fun z0 z1 z2 z3 z4 J => f_X12_choice_63 N R n z0 z1 z2 z3 z4 J) (fun z0 z1 z2 z3 z4 J y h => ih z0 z1 z2 z3 z4 J y h) N _ _ _ _ _ _ _ _ h
set_option maxHeartbeats 4000000 in
set_option maxRecDepth 100000 in
theorem w_X12_choice {l : Launch} (N : Nat) (R : Nat → Nat → Nat) : ∀ (a0 : Nat) (a1 : Int32) (I : (Nat → Nat → Int32)) (y : (Int32 × (Nat → Nat → Int32))), f_X12_choice N R a0 a1 I = some y → sm_W l 4 mX12_choice 0 [(0, .inr (.inl a0)), (1, .inl a1)] [] (I, R) (.inl (some (.inl y.1))) (y.2, R) := by
  intro a0 a1 I y h
  unfold f_X12_choice at h
  refine sm_aload_n (q := 1) dX12_choice_0 rfl rfl 0 rfl ?_
  refine sm_iconst (v := 0) (q := 2) dX12_choice_1 rfl (by decide) ?_
  obtain ⟨hc1, h⟩ := sm_gd_e h
  obtain ⟨I2, hI2, h⟩ := sm_lt_e h
  refine sm_putI (q := 5) dX12_choice_2 rfl fk_X12_152 hc1 (by decide) (by decide) ?_
  refine sm_memI hI2 ?_
  refine sm_iload_n (q := 6) dX12_choice_5 rfl rfl 1 rfl ?_
  refine sm_i2l (v := (Int32.toInt64 a1)) (q := 7) dX12_choice_6 rfl rfl ?_
  refine sm_ldc2 (q := 10) dX12_choice_7 rfl co_X12_420 ?_
  refine sm_aload_n (q := 11) dX12_choice_10 rfl rfl 0 rfl ?_
  refine sm_getR (r := R a0 4) (q := 14) dX12_choice_11 rfl fk_X12_41 hc1 (by decide) (by decide) rfl ?_
  refine sm_iconst (v := 1) (q := 15) dX12_choice_14 rfl (by decide) ?_
  obtain ⟨hc3, h⟩ := sm_gd_e h
  refine sm_iald (n := (sm_kd (R a0 4)).2) (q := 16) dX12_choice_15 rfl (Prod.ext hc3.1 rfl) hc3.2 ?_
  refine sm_iconst (v := 1) (q := 17) dX12_choice_16 rfl (by decide) ?_
  refine sm_isub (q := 18) dX12_choice_17 rfl ?_
  refine sm_i2l (v := (Int32.toInt64 ((I2 (R a0 4) ((1 : Int32)).toNatClampNeg) - (1 : Int32)))) (q := 19) dX12_choice_18 rfl rfl ?_
  obtain ⟨p4, hc_p4, h⟩ := sm_bd_e h
  refine sm_callSi (q := 22) (As := [.inr (.inr (Int32.toInt64 a1)), .inr (.inr (-1 : Int64)), .inr (.inr (Int32.toInt64 ((I2 (R a0 4) ((1 : Int32)).toNatClampNeg) - (1 : Int32))))]) (S := []) (e_X12_isIn hc_p4) ms_X12_155 rfl (by decide) (Nat.le_of_ble_eq_true rfl) dX12_choice_19 rfl ?_
  rcases sm_if_e h with ⟨hb5, h⟩ | ⟨hb5, h⟩
  · refine sm_if_ne (tgt := 31) (q := 25) dX12_choice_22 (by decide) rfl (fun hn => absurd hb5 hn) (fun _ => ?_)
    refine sm_aload_n (q := 26) dX12_choice_25 rfl rfl 0 rfl ?_
    refine sm_iconst (v := 1) (q := 27) dX12_choice_26 rfl (by decide) ?_
    obtain ⟨p6, hc_p6, h⟩ := sm_bd_e h
    refine sm_callVi (q := 30) (As := [.inl (1 : Int32)]) (S := []) (e_X12_fail hc_p6) mv_X12_283 hc1 rfl (by decide) (Nat.le_of_ble_eq_true rfl) dX12_choice_27 rfl ?_
    obtain rfl := Option.some.inj h
    exact sm_iret dX12_choice_30 rfl
  · refine sm_if_ne (tgt := 31) (q := 25) dX12_choice_22 (by decide) rfl (fun _ => ?_) (fun he => absurd he hb5)
    refine sm_aload_n (q := 32) dX12_choice_31 rfl rfl 0 rfl ?_
    obtain ⟨p7, hc_p7, h⟩ := sm_bd_e h
    refine sm_callVv (q := 35) (As := []) (S := []) (e_X12_tellMost hc_p7) mv_X12_422 hc1 rfl (by decide) (Nat.le_of_ble_eq_true rfl) dX12_choice_32 rfl ?_
    refine sm_iconst (v := 1) (q := 36) dX12_choice_35 rfl (by decide) ?_
    refine sm_aload_n (q := 37) dX12_choice_36 rfl rfl 0 rfl ?_
    refine sm_getR (r := R a0 4) (q := 40) dX12_choice_37 rfl fk_X12_41 hc1 (by decide) (by decide) rfl ?_
    refine sm_iconst (v := 0) (q := 41) dX12_choice_40 rfl (by decide) ?_
    obtain ⟨hc8, h⟩ := sm_gd_e h
    refine sm_iald (n := (sm_kd (R a0 4)).2) (q := 42) dX12_choice_41 rfl (Prod.ext hc8.1 rfl) hc8.2 ?_
    refine sm_ishl (q := 43) dX12_choice_42 rfl ?_
    refine sm_iconst (v := 1) (q := 44) dX12_choice_43 rfl (by decide) ?_
    refine sm_isub (q := 45) dX12_choice_44 rfl ?_
    refine sm_istore_n (L' := [(2, .inl (((1 : Int32) <<< ((p7.2 (R a0 4) ((0 : Int32)).toNatClampNeg) &&& 31)) - (1 : Int32))), (0, .inr (.inl a0)), (1, .inl a1)]) (q := 46) dX12_choice_45 rfl rfl (by decide) rfl ?_
    refine sm_iload_n (q := 47) dX12_choice_46 rfl rfl 2 rfl ?_
    refine sm_iconst (v := -1) (q := 48) dX12_choice_47 rfl (by decide) ?_
    rcases sm_if_e h with ⟨hb9, h⟩ | ⟨hb9, h⟩
    · refine sm_icmp_ne (tgt := 58) (q := 51) dX12_choice_48 (by decide) rfl (fun hn => absurd hb9 hn) (fun _ => ?_)
      refine sm_aload_n (q := 52) dX12_choice_51 rfl rfl 1 rfl ?_
      refine sm_getR (r := R a0 39) (q := 55) dX12_choice_52 rfl fk_X12_104 hc1 (by decide) (by decide) rfl ?_
      refine sm_iload_n (q := 56) dX12_choice_55 rfl rfl 0 rfl ?_
      obtain ⟨hc10, h⟩ := sm_gd_e h
      refine sm_iald (n := (sm_kd (R a0 39)).2) (q := 57) dX12_choice_56 rfl (Prod.ext hc10.1 rfl) hc10.2 ?_
      obtain rfl := Option.some.inj h
      exact sm_iret dX12_choice_57 rfl
    · refine sm_icmp_ne (tgt := 58) (q := 51) dX12_choice_48 (by decide) rfl (fun _ => ?_) (fun he => absurd he hb9)
      refine sm_iconst (v := -1) (q := 59) dX12_choice_58 rfl (by decide) ?_
      refine sm_istore_n (L' := [(3, .inl (-1 : Int32)), (2, .inl (((1 : Int32) <<< ((p7.2 (R a0 4) ((0 : Int32)).toNatClampNeg) &&& 31)) - (1 : Int32))), (0, .inr (.inl a0)), (1, .inl a1)]) (q := 60) dX12_choice_59 rfl rfl (by decide) rfl ?_
      refine sm_iconst (v := 0) (q := 61) dX12_choice_60 rfl (by decide) ?_
      refine sm_istore (L' := [(4, .inl (0 : Int32)), (3, .inl (-1 : Int32)), (2, .inl (((1 : Int32) <<< ((p7.2 (R a0 4) ((0 : Int32)).toNatClampNeg) &&& 31)) - (1 : Int32))), (0, .inr (.inl a0)), (1, .inl a1)]) (q := 63) dX12_choice_61 rfl (by decide) rfl ?_
      refine sm_pick [3, 4, 2, 1, 0] rfl ?_
      exact w_X12_choice_63 N R N _ _ _ _ _ _ _ h
theorem e_X12_choice {l : Launch} {N : Nat} {R : Nat → Nat → Nat} {a0 : Nat} {a1 : Int32} {I : (Nat → Nat → Int32)} {y : (Int32 × (Nat → Nat → Int32))} (h : f_X12_choice N R a0 a1 I = some y) : sm_E l 4 mX12_choice [.inr (.inl a0), .inl a1] (I, R) (.inl (some (.inl y.1))) (y.2, R) :=
  sm_meth (by decide) (Nat.le_of_ble_eq_true rfl) (w_X12_choice N R a0 a1 I y h)
def f_X12_hardestOf_4 (N : Nat) (R : Nat → Nat → Nat) : Nat → Nat → Int32 → Int32 → Int32 → (Nat → Nat → Int32) → Option (Int32 × (Nat → Nat → Int32))
  | 0, _, _, _, _, _ => none
  | n + 1, a0, a1, a2, a3, I =>
    sm_gd (sm_kd a0 = (12, 59)) <|
    sm_gd ((sm_kd (R a0 6)).1 = 13 ∧ ¬ (a1 < 0 ∨ (sm_kd (R a0 6)).2 ≤ (a1).toNatClampNeg)) <|
    if (I (R a0 6) (a1).toNatClampNeg) ≤ a3 then (
      some (a2, I))
    else (
      (f_X12_hardOf N R a0 a1 a3 I).bind fun p4 =>
      f_X12_hardestOf_4 N R n a0 a1 (sm_mx a2 p4.1) (a3 + 1) p4.2)
def f_X12_hardestOf (N : Nat) (R : Nat → Nat → Nat) : Nat → Int32 → (Nat → Nat → Int32) → Option (Int32 × (Nat → Nat → Int32)) := fun a0 a1 I =>
  f_X12_hardestOf_4 N R N a0 a1 (0 : Int32) (0 : Int32) I
set_option maxHeartbeats 4000000 in
set_option maxRecDepth 100000 in
theorem w_X12_hardestOf_4 {l : Launch} (N : Nat) (R : Nat → Nat → Nat) : ∀ (n : Nat) (a0 : Nat) (a1 : Int32) (a2 : Int32) (a3 : Int32) (I : (Nat → Nat → Int32)) (y : (Int32 × (Nat → Nat → Int32))), f_X12_hardestOf_4 N R n a0 a1 a2 a3 I = some y → sm_W l 1 mX12_hardestOf 4 [(0, .inr (.inl a0)), (1, .inl a1), (2, .inl a2), (3, .inl a3)] [] (I, R) (.inl (some (.inl y.1))) (y.2, R) := by
  intro n
  induction n with
  | zero => intro a0 a1 a2 a3 I y h; cases h
  | succ n ih =>
    intro a0 a1 a2 a3 I y h
    rw [f_X12_hardestOf_4] at h
    refine sm_iload_n (q := 5) dX12_hardestOf_4 rfl rfl 3 rfl ?_
    refine sm_aload_n (q := 6) dX12_hardestOf_5 rfl rfl 0 rfl ?_
    obtain ⟨hc1, h⟩ := sm_gd_e h
    refine sm_getR (r := R a0 6) (q := 9) dX12_hardestOf_6 rfl fk_X12_47 hc1 (by decide) (by decide) rfl ?_
    refine sm_iload_n (q := 10) dX12_hardestOf_9 rfl rfl 1 rfl ?_
    obtain ⟨hc2, h⟩ := sm_gd_e h
    refine sm_iald (n := (sm_kd (R a0 6)).2) (q := 11) dX12_hardestOf_10 rfl (Prod.ext hc2.1 rfl) hc2.2 ?_
    rcases sm_if_e h with ⟨hb3, h⟩ | ⟨hb3, h⟩
    · refine sm_icmp_ge (tgt := 31) (q := 14) dX12_hardestOf_11 (by decide) rfl (fun _ => ?_) (fun hn => absurd hb3 hn)
      refine sm_iload_n (q := 32) dX12_hardestOf_31 rfl rfl 2 rfl ?_
      obtain rfl := Option.some.inj h
      exact sm_iret dX12_hardestOf_32 rfl
    · refine sm_icmp_ge (tgt := 31) (q := 14) dX12_hardestOf_11 (by decide) rfl (fun ht => absurd ht hb3) (fun _ => ?_)
      refine sm_iload_n (q := 15) dX12_hardestOf_14 rfl rfl 2 rfl ?_
      refine sm_aload_n (q := 16) dX12_hardestOf_15 rfl rfl 0 rfl ?_
      refine sm_iload_n (q := 17) dX12_hardestOf_16 rfl rfl 1 rfl ?_
      refine sm_iload_n (q := 18) dX12_hardestOf_17 rfl rfl 3 rfl ?_
      obtain ⟨p4, hc_p4, h⟩ := sm_bd_e h
      refine sm_callVi (q := 21) (As := [.inl a1, .inl a3]) (S := [.inl a2]) (e_X12_hardOf hc_p4) mv_X12_316 hc1 rfl (by decide) (Nat.le_of_ble_eq_true rfl) dX12_hardestOf_18 rfl ?_
      refine sm_mmx (q := 24) dX12_hardestOf_21 rfl mm_X12_328 (Nat.le_of_ble_eq_true rfl) ?_
      refine sm_istore_n (L' := [(2, .inl (sm_mx a2 p4.1)), (0, .inr (.inl a0)), (1, .inl a1), (3, .inl a3)]) (q := 25) dX12_hardestOf_24 rfl rfl (by decide) rfl ?_
      refine sm_iinc (v := (a3 + 1)) (L' := [(3, .inl (a3 + 1)), (2, .inl (sm_mx a2 p4.1)), (0, .inr (.inl a0)), (1, .inl a1)]) (q := 28) dX12_hardestOf_25 rfl 3 rfl rfl (by decide) rfl ?_
      refine sm_goto (q := 4) dX12_hardestOf_28 (by decide) ?_
      refine sm_pick [2, 3, 1, 0] rfl ?_
      exact ih _ _ _ _ _ _ h
set_option maxHeartbeats 4000000 in
set_option maxRecDepth 100000 in
theorem w_X12_hardestOf {l : Launch} (N : Nat) (R : Nat → Nat → Nat) : ∀ (a0 : Nat) (a1 : Int32) (I : (Nat → Nat → Int32)) (y : (Int32 × (Nat → Nat → Int32))), f_X12_hardestOf N R a0 a1 I = some y → sm_W l 1 mX12_hardestOf 0 [(0, .inr (.inl a0)), (1, .inl a1)] [] (I, R) (.inl (some (.inl y.1))) (y.2, R) := by
  intro a0 a1 I y h
  unfold f_X12_hardestOf at h
  refine sm_iconst (v := 0) (q := 1) dX12_hardestOf_0 rfl (by decide) ?_
  refine sm_istore_n (L' := [(2, .inl (0 : Int32)), (0, .inr (.inl a0)), (1, .inl a1)]) (q := 2) dX12_hardestOf_1 rfl rfl (by decide) rfl ?_
  refine sm_iconst (v := 0) (q := 3) dX12_hardestOf_2 rfl (by decide) ?_
  refine sm_istore_n (L' := [(3, .inl (0 : Int32)), (2, .inl (0 : Int32)), (0, .inr (.inl a0)), (1, .inl a1)]) (q := 4) dX12_hardestOf_3 rfl rfl (by decide) rfl ?_
  refine sm_pick [2, 3, 1, 0] rfl ?_
  exact w_X12_hardestOf_4 N R N _ _ _ _ _ _ h
theorem e_X12_hardestOf {l : Launch} {N : Nat} {R : Nat → Nat → Nat} {a0 : Nat} {a1 : Int32} {I : (Nat → Nat → Int32)} {y : (Int32 × (Nat → Nat → Int32))} (h : f_X12_hardestOf N R a0 a1 I = some y) : sm_E l 1 mX12_hardestOf [.inr (.inl a0), .inl a1] (I, R) (.inl (some (.inl y.1))) (y.2, R) :=
  sm_meth (by decide) (Nat.le_of_ble_eq_true rfl) (w_X12_hardestOf N R a0 a1 I y h)
def f_X12_hardest_9 (N : Nat) (R : Nat → Nat → Nat) : Nat → Nat → Int32 → Int32 → (Nat → Nat → Int32) → Option (Int32 × (Nat → Nat → Int32))
  | 0, _, _, _, _ => none
  | n + 1, a0, a1, a2, I =>
    sm_gd (sm_kd a0 = (12, 59)) <|
    sm_gd ((sm_kd (R a0 4)).1 = 13 ∧ ¬ ((0 : Int32) < 0 ∨ (sm_kd (R a0 4)).2 ≤ ((0 : Int32)).toNatClampNeg)) <|
    if (I (R a0 4) ((0 : Int32)).toNatClampNeg) ≤ a2 then (
      some (a1, I))
    else (
      if a1 = (-1 : Int32) then (
        f_X12_hardest_9 N R n a0 a2 (a2 + 1) I)
      else (
        (f_X12_hardestOf N R a0 a2 I).bind fun p5 =>
        (f_X12_hardestOf N R a0 a1 p5.2).bind fun p6 =>
        if p5.1 ≤ p6.1 then (
          f_X12_hardest_9 N R n a0 a1 (a2 + 1) p6.2)
        else (
          f_X12_hardest_9 N R n a0 a2 (a2 + 1) p6.2)))
def f_X12_hardest (N : Nat) (R : Nat → Nat → Nat) : Nat → (Nat → Nat → Int32) → Option (Int32 × (Nat → Nat → Int32)) := fun a0 I =>
  sm_gd (sm_kd a0 = (12, 59)) <|
  sm_lt (sm_up I a0 (sm_up (I a0) 3 (0 : Int32))) fun I2 =>
  f_X12_hardest_9 N R N a0 (-1 : Int32) (0 : Int32) I2
set_option maxHeartbeats 4000000 in
set_option maxRecDepth 100000 in
theorem w_X12_hardest_9 {l : Launch} (N : Nat) (R : Nat → Nat → Nat) : ∀ (n : Nat) (a0 : Nat) (a1 : Int32) (a2 : Int32) (I : (Nat → Nat → Int32)) (y : (Int32 × (Nat → Nat → Int32))), f_X12_hardest_9 N R n a0 a1 a2 I = some y → sm_W l 2 mX12_hardest 9 [(0, .inr (.inl a0)), (1, .inl a1), (2, .inl a2)] [] (I, R) (.inl (some (.inl y.1))) (y.2, R) := by
  intro n
  induction n with
  | zero => intro a0 a1 a2 I y h; cases h
  | succ n ih =>
    intro a0 a1 a2 I y h
    rw [f_X12_hardest_9] at h
    refine sm_iload_n (q := 10) dX12_hardest_9 rfl rfl 2 rfl ?_
    refine sm_aload_n (q := 11) dX12_hardest_10 rfl rfl 0 rfl ?_
    obtain ⟨hc1, h⟩ := sm_gd_e h
    refine sm_getR (r := R a0 4) (q := 14) dX12_hardest_11 rfl fk_X12_41 hc1 (by decide) (by decide) rfl ?_
    refine sm_iconst (v := 0) (q := 15) dX12_hardest_14 rfl (by decide) ?_
    obtain ⟨hc2, h⟩ := sm_gd_e h
    refine sm_iald (n := (sm_kd (R a0 4)).2) (q := 16) dX12_hardest_15 rfl (Prod.ext hc2.1 rfl) hc2.2 ?_
    rcases sm_if_e h with ⟨hb3, h⟩ | ⟨hb3, h⟩
    · refine sm_icmp_ge (tgt := 45) (q := 19) dX12_hardest_16 (by decide) rfl (fun _ => ?_) (fun hn => absurd hb3 hn)
      refine sm_iload_n (q := 46) dX12_hardest_45 rfl rfl 1 rfl ?_
      obtain rfl := Option.some.inj h
      exact sm_iret dX12_hardest_46 rfl
    · refine sm_icmp_ge (tgt := 45) (q := 19) dX12_hardest_16 (by decide) rfl (fun ht => absurd ht hb3) (fun _ => ?_)
      refine sm_iload_n (q := 20) dX12_hardest_19 rfl rfl 1 rfl ?_
      refine sm_iconst (v := -1) (q := 21) dX12_hardest_20 rfl (by decide) ?_
      rcases sm_if_e h with ⟨hb4, h⟩ | ⟨hb4, h⟩
      · refine sm_icmp_eq (tgt := 37) (q := 24) dX12_hardest_21 (by decide) rfl (fun _ => ?_) (fun hn => absurd hb4 hn)
        refine sm_iload_n (q := 38) dX12_hardest_37 rfl rfl 2 rfl ?_
        refine sm_istore_n (L' := [(1, .inl a2), (0, .inr (.inl a0)), (2, .inl a2)]) (q := 39) dX12_hardest_38 rfl rfl (by decide) rfl ?_
        refine sm_iinc (v := (a2 + 1)) (L' := [(2, .inl (a2 + 1)), (1, .inl a2), (0, .inr (.inl a0))]) (q := 42) dX12_hardest_39 rfl 2 rfl rfl (by decide) rfl ?_
        refine sm_goto (q := 9) dX12_hardest_42 (by decide) ?_
        refine sm_pick [2, 1, 0] rfl ?_
        exact ih _ _ _ _ _ h
      · refine sm_icmp_eq (tgt := 37) (q := 24) dX12_hardest_21 (by decide) rfl (fun ht => absurd ht hb4) (fun _ => ?_)
        refine sm_aload_n (q := 25) dX12_hardest_24 rfl rfl 0 rfl ?_
        refine sm_iload_n (q := 26) dX12_hardest_25 rfl rfl 2 rfl ?_
        obtain ⟨p5, hc_p5, h⟩ := sm_bd_e h
        refine sm_callVi (q := 29) (As := [.inl a2]) (S := []) (e_X12_hardestOf hc_p5) mv_X12_425 hc1 rfl (by decide) (Nat.le_of_ble_eq_true rfl) dX12_hardest_26 rfl ?_
        refine sm_aload_n (q := 30) dX12_hardest_29 rfl rfl 0 rfl ?_
        refine sm_iload_n (q := 31) dX12_hardest_30 rfl rfl 1 rfl ?_
        obtain ⟨p6, hc_p6, h⟩ := sm_bd_e h
        refine sm_callVi (q := 34) (As := [.inl a1]) (S := [.inl p5.1]) (e_X12_hardestOf hc_p6) mv_X12_425 hc1 rfl (by decide) (Nat.le_of_ble_eq_true rfl) dX12_hardest_31 rfl ?_
        rcases sm_if_e h with ⟨hb7, h⟩ | ⟨hb7, h⟩
        · refine sm_icmp_le (tgt := 39) (q := 37) dX12_hardest_34 (by decide) rfl (fun _ => ?_) (fun hn => absurd hb7 hn)
          refine sm_iinc (v := (a2 + 1)) (L' := [(2, .inl (a2 + 1)), (0, .inr (.inl a0)), (1, .inl a1)]) (q := 42) dX12_hardest_39 rfl 2 rfl rfl (by decide) rfl ?_
          refine sm_goto (q := 9) dX12_hardest_42 (by decide) ?_
          refine sm_pick [1, 2, 0] rfl ?_
          exact ih _ _ _ _ _ h
        · refine sm_icmp_le (tgt := 39) (q := 37) dX12_hardest_34 (by decide) rfl (fun ht => absurd ht hb7) (fun _ => ?_)
          refine sm_iload_n (q := 38) dX12_hardest_37 rfl rfl 2 rfl ?_
          refine sm_istore_n (L' := [(1, .inl a2), (0, .inr (.inl a0)), (2, .inl a2)]) (q := 39) dX12_hardest_38 rfl rfl (by decide) rfl ?_
          refine sm_iinc (v := (a2 + 1)) (L' := [(2, .inl (a2 + 1)), (1, .inl a2), (0, .inr (.inl a0))]) (q := 42) dX12_hardest_39 rfl 2 rfl rfl (by decide) rfl ?_
          refine sm_goto (q := 9) dX12_hardest_42 (by decide) ?_
          refine sm_pick [2, 1, 0] rfl ?_
          exact ih _ _ _ _ _ h
set_option maxHeartbeats 4000000 in
set_option maxRecDepth 100000 in
theorem w_X12_hardest {l : Launch} (N : Nat) (R : Nat → Nat → Nat) : ∀ (a0 : Nat) (I : (Nat → Nat → Int32)) (y : (Int32 × (Nat → Nat → Int32))), f_X12_hardest N R a0 I = some y → sm_W l 2 mX12_hardest 0 [(0, .inr (.inl a0))] [] (I, R) (.inl (some (.inl y.1))) (y.2, R) := by
  intro a0 I y h
  unfold f_X12_hardest at h
  refine sm_aload_n (q := 1) dX12_hardest_0 rfl rfl 0 rfl ?_
  refine sm_iconst (v := 0) (q := 2) dX12_hardest_1 rfl (by decide) ?_
  obtain ⟨hc1, h⟩ := sm_gd_e h
  obtain ⟨I2, hI2, h⟩ := sm_lt_e h
  refine sm_putI (q := 5) dX12_hardest_2 rfl fk_X12_152 hc1 (by decide) (by decide) ?_
  refine sm_memI hI2 ?_
  refine sm_iconst (v := -1) (q := 6) dX12_hardest_5 rfl (by decide) ?_
  refine sm_istore_n (L' := [(1, .inl (-1 : Int32)), (0, .inr (.inl a0))]) (q := 7) dX12_hardest_6 rfl rfl (by decide) rfl ?_
  refine sm_iconst (v := 0) (q := 8) dX12_hardest_7 rfl (by decide) ?_
  refine sm_istore_n (L' := [(2, .inl (0 : Int32)), (1, .inl (-1 : Int32)), (0, .inr (.inl a0))]) (q := 9) dX12_hardest_8 rfl rfl (by decide) rfl ?_
  refine sm_pick [2, 1, 0] rfl ?_
  exact w_X12_hardest_9 N R N _ _ _ _ _ h
theorem e_X12_hardest {l : Launch} {N : Nat} {R : Nat → Nat → Nat} {a0 : Nat} {I : (Nat → Nat → Int32)} {y : (Int32 × (Nat → Nat → Int32))} (h : f_X12_hardest N R a0 I = some y) : sm_E l 2 mX12_hardest [.inr (.inl a0)] (I, R) (.inl (some (.inl y.1))) (y.2, R) :=
  sm_meth (by decide) (Nat.le_of_ble_eq_true rfl) (w_X12_hardest N R a0 I y h)
def f_X12_concert_66 (N : Nat) (R : Nat → Nat → Nat) (k_49 : Nat → Int32 → Int32 → Int32 → (Nat → Nat → Int32) → Option (Int32 × (Nat → Nat → Int32))) : Nat → Nat → Int32 → Int32 → Int32 → Int32 → Int32 → (Nat → Nat → Int32) → Option (Int32 × (Nat → Nat → Int32))
  | 0, _, _, _, _, _, _, _ => none
  | n + 1, a0, a2, a3, a4, a5, a6, I =>
    sm_gd (sm_kd a0 = (12, 59)) <|
    sm_gd ((sm_kd (R a0 4)).1 = 13 ∧ ¬ ((1 : Int32) < 0 ∨ (sm_kd (R a0 4)).2 ≤ ((1 : Int32)).toNatClampNeg)) <|
    if (I (R a0 4) ((1 : Int32)).toNatClampNeg) ≤ a6 then (
      (f_X12_isOf N R a3 a4 I).bind fun p4 =>
      if p4.1 = 0 then (
        k_49 a0 a2 a3 (a4 + 1) p4.2)
      else (
        if a5 = a2 then (
          some (a4, p4.2))
        else (
          k_49 a0 a2 a3 (a4 + 1) p4.2)))
    else (
      (f_X12_isOf N R a3 a6 I).bind fun p7 =>
      if p7.1 = 0 then (
        f_X12_concert_66 N R k_49 n a0 a2 a3 a4 (a5 + (0 : Int32)) (a6 + 1) p7.2)
      else (
        sm_gd ((sm_kd (R a0 25)).1 = 13 ∧ ¬ (a6 < 0 ∨ (sm_kd (R a0 25)).2 ≤ (a6).toNatClampNeg)) <|
        sm_gd ((sm_kd (R a0 25)).1 = 13 ∧ ¬ (a4 < 0 ∨ (sm_kd (R a0 25)).2 ≤ (a4).toNatClampNeg)) <|
        if (p7.2 (R a0 25) (a6).toNatClampNeg) < (p7.2 (R a0 25) (a4).toNatClampNeg) then (
          f_X12_concert_66 N R k_49 n a0 a2 a3 a4 (a5 + (1 : Int32)) (a6 + 1) p7.2)
        else (
          if (p7.2 (R a0 25) (a6).toNatClampNeg) = (p7.2 (R a0 25) (a4).toNatClampNeg) then (
            if a4 ≤ a6 then (
              f_X12_concert_66 N R k_49 n a0 a2 a3 a4 (a5 + (0 : Int32)) (a6 + 1) p7.2)
            else (
              f_X12_concert_66 N R k_49 n a0 a2 a3 a4 (a5 + (1 : Int32)) (a6 + 1) p7.2))
          else (
            f_X12_concert_66 N R k_49 n a0 a2 a3 a4 (a5 + (0 : Int32)) (a6 + 1) p7.2))))
def f_X12_concert_49 (N : Nat) (R : Nat → Nat → Nat) : Nat → Nat → Int32 → Int32 → Int32 → (Nat → Nat → Int32) → Option (Int32 × (Nat → Nat → Int32))
  | 0, _, _, _, _, _ => none
  | n + 1, a0, a2, a3, a4, I =>
    sm_gd (sm_kd a0 = (12, 59)) <|
    sm_gd ((sm_kd (R a0 4)).1 = 13 ∧ ¬ ((1 : Int32) < 0 ∨ (sm_kd (R a0 4)).2 ≤ ((1 : Int32)).toNatClampNeg)) <|
    if (I (R a0 4) ((1 : Int32)).toNatClampNeg) ≤ a4 then (
      some ((-1 : Int32), I))
    else (
      f_X12_concert_66 N R (fun z0 z1 z2 z3 J => f_X12_concert_49 N R n z0 z1 z2 z3 J) N a0 a2 a3 a4 (0 : Int32) (0 : Int32) I)
def f_X12_concert (N : Nat) (R : Nat → Nat → Nat) : Nat → Int32 → Int32 → (Nat → Nat → Int32) → Option (Int32 × (Nat → Nat → Int32)) := fun a0 a1 a2 I =>
  sm_gd (sm_kd a0 = (12, 59)) <|
  sm_lt (sm_up I a0 (sm_up (I a0) 3 (0 : Int32))) fun I2 =>
  if a2 < 0 then (
    (f_X12_fail N R a0 (1 : Int32) I2).bind fun p4 =>
    some (p4.1, p4.2))
  else (
    if a1 < 0 then (
      (f_X12_fail N R a0 (1 : Int32) I2).bind fun p6 =>
      some (p6.1, p6.2))
    else (
      if a1 ≤ (1 : Int32) then (
        if a1 = 0 then (
          (f_X12_allDone N R a0 I2).bind fun p9 =>
          f_X12_concert_49 N R N a0 a2 p9.1 (0 : Int32) p9.2)
        else (
          sm_gd ((sm_kd (R a0 4)).1 = 13 ∧ ¬ ((1 : Int32) < 0 ∨ (sm_kd (R a0 4)).2 ≤ ((1 : Int32)).toNatClampNeg)) <|
          f_X12_concert_49 N R N a0 a2 (((1 : Int32) <<< ((I2 (R a0 4) ((1 : Int32)).toNatClampNeg) &&& 31)) - (1 : Int32)) (0 : Int32) I2))
      else (
        (f_X12_fail N R a0 (1 : Int32) I2).bind fun p11 =>
        some (p11.1, p11.2))))
set_option maxHeartbeats 4000000 in
set_option maxRecDepth 100000 in
theorem w_X12_concert_66 {l : Launch} (N : Nat) (R : Nat → Nat → Nat) (k_49 : Nat → Int32 → Int32 → Int32 → (Nat → Nat → Int32) → Option (Int32 × (Nat → Nat → Int32))) (hk_49 : ∀ (a0 : Nat) (a2 : Int32) (a3 : Int32) (a4 : Int32) (I : (Nat → Nat → Int32)) (y : (Int32 × (Nat → Nat → Int32))), k_49 a0 a2 a3 a4 I = some y → sm_W l 2 mX12_concert 49 [(0, .inr (.inl a0)), (2, .inl a2), (3, .inl a3), (4, .inl a4)] [] (I, R) (.inl (some (.inl y.1))) (y.2, R)) : ∀ (n : Nat) (a0 : Nat) (a2 : Int32) (a3 : Int32) (a4 : Int32) (a5 : Int32) (a6 : Int32) (I : (Nat → Nat → Int32)) (y : (Int32 × (Nat → Nat → Int32))), f_X12_concert_66 N R k_49 n a0 a2 a3 a4 a5 a6 I = some y → sm_W l 2 mX12_concert 66 [(0, .inr (.inl a0)), (2, .inl a2), (3, .inl a3), (4, .inl a4), (5, .inl a5), (6, .inl a6)] [] (I, R) (.inl (some (.inl y.1))) (y.2, R) := by
  intro n
  induction n with
  | zero => intro a0 a2 a3 a4 a5 a6 I y h; cases h
  | succ n ih =>
    intro a0 a2 a3 a4 a5 a6 I y h
    rw [f_X12_concert_66] at h
    refine sm_iload (q := 68) dX12_concert_66 rfl 5 rfl ?_
    refine sm_aload_n (q := 69) dX12_concert_68 rfl rfl 0 rfl ?_
    obtain ⟨hc1, h⟩ := sm_gd_e h
    refine sm_getR (r := R a0 4) (q := 72) dX12_concert_69 rfl fk_X12_41 hc1 (by decide) (by decide) rfl ?_
    refine sm_iconst (v := 1) (q := 73) dX12_concert_72 rfl (by decide) ?_
    obtain ⟨hc2, h⟩ := sm_gd_e h
    refine sm_iald (n := (sm_kd (R a0 4)).2) (q := 74) dX12_concert_73 rfl (Prod.ext hc2.1 rfl) hc2.2 ?_
    rcases sm_if_e h with ⟨hb3, h⟩ | ⟨hb3, h⟩
    · refine sm_icmp_ge (tgt := 143) (q := 77) dX12_concert_74 (by decide) rfl (fun _ => ?_) (fun hn => absurd hb3 hn)
      refine sm_iload_n (q := 144) dX12_concert_143 rfl rfl 2 rfl ?_
      refine sm_iload (q := 146) dX12_concert_144 rfl 3 rfl ?_
      obtain ⟨p4, hc_p4, h⟩ := sm_bd_e h
      refine sm_callSi (q := 149) (As := [.inl a3, .inl a4]) (S := []) (e_X12_isOf hc_p4) ms_X12_337 rfl (by decide) (Nat.le_of_ble_eq_true rfl) dX12_concert_146 rfl ?_
      rcases sm_if_e h with ⟨hb5, h⟩ | ⟨hb5, h⟩
      · refine sm_if_eq (tgt := 161) (q := 152) dX12_concert_149 (by decide) rfl (fun _ => ?_) (fun hn => absurd hb5 hn)
        refine sm_iinc (v := (a4 + 1)) (L' := [(4, .inl (a4 + 1)), (0, .inr (.inl a0)), (2, .inl a2), (3, .inl a3), (5, .inl a5), (6, .inl a6)]) (q := 164) dX12_concert_161 rfl 3 rfl rfl (by decide) rfl ?_
        refine sm_goto (q := 49) dX12_concert_164 (by decide) ?_
        refine sm_pick [1, 2, 3, 0] rfl ?_
        exact hk_49 _ _ _ _ _ _ h
      · refine sm_if_eq (tgt := 161) (q := 152) dX12_concert_149 (by decide) rfl (fun ht => absurd ht hb5) (fun _ => ?_)
        refine sm_iload (q := 154) dX12_concert_152 rfl 4 rfl ?_
        refine sm_iload_n (q := 155) dX12_concert_154 rfl rfl 1 rfl ?_
        rcases sm_if_e h with ⟨hb6, h⟩ | ⟨hb6, h⟩
        · refine sm_icmp_ne (tgt := 161) (q := 158) dX12_concert_155 (by decide) rfl (fun hn => absurd hb6 hn) (fun _ => ?_)
          refine sm_iload (q := 160) dX12_concert_158 rfl 3 rfl ?_
          obtain rfl := Option.some.inj h
          exact sm_iret dX12_concert_160 rfl
        · refine sm_icmp_ne (tgt := 161) (q := 158) dX12_concert_155 (by decide) rfl (fun _ => ?_) (fun he => absurd he hb6)
          refine sm_iinc (v := (a4 + 1)) (L' := [(4, .inl (a4 + 1)), (0, .inr (.inl a0)), (2, .inl a2), (3, .inl a3), (5, .inl a5), (6, .inl a6)]) (q := 164) dX12_concert_161 rfl 3 rfl rfl (by decide) rfl ?_
          refine sm_goto (q := 49) dX12_concert_164 (by decide) ?_
          refine sm_pick [1, 2, 3, 0] rfl ?_
          exact hk_49 _ _ _ _ _ _ h
    · refine sm_icmp_ge (tgt := 143) (q := 77) dX12_concert_74 (by decide) rfl (fun ht => absurd ht hb3) (fun _ => ?_)
      refine sm_iload (q := 79) dX12_concert_77 rfl 4 rfl ?_
      refine sm_iload_n (q := 80) dX12_concert_79 rfl rfl 2 rfl ?_
      refine sm_iload (q := 82) dX12_concert_80 rfl 5 rfl ?_
      obtain ⟨p7, hc_p7, h⟩ := sm_bd_e h
      refine sm_callSi (q := 85) (As := [.inl a3, .inl a6]) (S := [.inl a5]) (e_X12_isOf hc_p7) ms_X12_337 rfl (by decide) (Nat.le_of_ble_eq_true rfl) dX12_concert_82 rfl ?_
      rcases sm_if_e h with ⟨hb8, h⟩ | ⟨hb8, h⟩
      · refine sm_if_eq (tgt := 133) (q := 88) dX12_concert_85 (by decide) rfl (fun _ => ?_) (fun hn => absurd hb8 hn)
        refine sm_iconst (v := 0) (q := 134) dX12_concert_133 rfl (by decide) ?_
        refine sm_iadd (q := 135) dX12_concert_134 rfl ?_
        refine sm_istore (L' := [(5, .inl (a5 + (0 : Int32))), (0, .inr (.inl a0)), (2, .inl a2), (3, .inl a3), (4, .inl a4), (6, .inl a6)]) (q := 137) dX12_concert_135 rfl (by decide) rfl ?_
        refine sm_iinc (v := (a6 + 1)) (L' := [(6, .inl (a6 + 1)), (5, .inl (a5 + (0 : Int32))), (0, .inr (.inl a0)), (2, .inl a2), (3, .inl a3), (4, .inl a4)]) (q := 140) dX12_concert_137 rfl 5 rfl rfl (by decide) rfl ?_
        refine sm_goto (q := 66) dX12_concert_140 (by decide) ?_
        refine sm_pick [2, 3, 4, 5, 1, 0] rfl ?_
        exact ih _ _ _ _ _ _ _ _ h
      · refine sm_if_eq (tgt := 133) (q := 88) dX12_concert_85 (by decide) rfl (fun ht => absurd ht hb8) (fun _ => ?_)
        refine sm_aload_n (q := 89) dX12_concert_88 rfl rfl 0 rfl ?_
        refine sm_getR (r := R a0 25) (q := 92) dX12_concert_89 rfl fk_X12_76 hc1 (by decide) (by decide) rfl ?_
        refine sm_iload (q := 94) dX12_concert_92 rfl 5 rfl ?_
        obtain ⟨hc9, h⟩ := sm_gd_e h
        refine sm_iald (n := (sm_kd (R a0 25)).2) (q := 95) dX12_concert_94 rfl (Prod.ext hc9.1 rfl) hc9.2 ?_
        refine sm_aload_n (q := 96) dX12_concert_95 rfl rfl 0 rfl ?_
        refine sm_getR (r := R a0 25) (q := 99) dX12_concert_96 rfl fk_X12_76 hc1 (by decide) (by decide) rfl ?_
        refine sm_iload (q := 101) dX12_concert_99 rfl 3 rfl ?_
        obtain ⟨hc10, h⟩ := sm_gd_e h
        refine sm_iald (n := (sm_kd (R a0 25)).2) (q := 102) dX12_concert_101 rfl (Prod.ext hc10.1 rfl) hc10.2 ?_
        rcases sm_if_e h with ⟨hb11, h⟩ | ⟨hb11, h⟩
        · refine sm_icmp_lt (tgt := 129) (q := 105) dX12_concert_102 (by decide) rfl (fun _ => ?_) (fun hn => absurd hb11 hn)
          refine sm_iconst (v := 1) (q := 130) dX12_concert_129 rfl (by decide) ?_
          refine sm_goto (q := 134) dX12_concert_130 (by decide) ?_
          refine sm_iadd (q := 135) dX12_concert_134 rfl ?_
          refine sm_istore (L' := [(5, .inl (a5 + (1 : Int32))), (0, .inr (.inl a0)), (2, .inl a2), (3, .inl a3), (4, .inl a4), (6, .inl a6)]) (q := 137) dX12_concert_135 rfl (by decide) rfl ?_
          refine sm_iinc (v := (a6 + 1)) (L' := [(6, .inl (a6 + 1)), (5, .inl (a5 + (1 : Int32))), (0, .inr (.inl a0)), (2, .inl a2), (3, .inl a3), (4, .inl a4)]) (q := 140) dX12_concert_137 rfl 5 rfl rfl (by decide) rfl ?_
          refine sm_goto (q := 66) dX12_concert_140 (by decide) ?_
          refine sm_pick [2, 3, 4, 5, 1, 0] rfl ?_
          exact ih _ _ _ _ _ _ _ _ h
        · refine sm_icmp_lt (tgt := 129) (q := 105) dX12_concert_102 (by decide) rfl (fun ht => absurd ht hb11) (fun _ => ?_)
          refine sm_aload_n (q := 106) dX12_concert_105 rfl rfl 0 rfl ?_
          refine sm_getR (r := R a0 25) (q := 109) dX12_concert_106 rfl fk_X12_76 hc1 (by decide) (by decide) rfl ?_
          refine sm_iload (q := 111) dX12_concert_109 rfl 5 rfl ?_
          refine sm_iald (n := (sm_kd (R a0 25)).2) (q := 112) dX12_concert_111 rfl (Prod.ext hc9.1 rfl) hc9.2 ?_
          refine sm_aload_n (q := 113) dX12_concert_112 rfl rfl 0 rfl ?_
          refine sm_getR (r := R a0 25) (q := 116) dX12_concert_113 rfl fk_X12_76 hc1 (by decide) (by decide) rfl ?_
          refine sm_iload (q := 118) dX12_concert_116 rfl 3 rfl ?_
          refine sm_iald (n := (sm_kd (R a0 25)).2) (q := 119) dX12_concert_118 rfl (Prod.ext hc10.1 rfl) hc10.2 ?_
          rcases sm_if_e h with ⟨hb12, h⟩ | ⟨hb12, h⟩
          · refine sm_icmp_ne (tgt := 133) (q := 122) dX12_concert_119 (by decide) rfl (fun hn => absurd hb12 hn) (fun _ => ?_)
            refine sm_iload (q := 124) dX12_concert_122 rfl 5 rfl ?_
            refine sm_iload (q := 126) dX12_concert_124 rfl 3 rfl ?_
            rcases sm_if_e h with ⟨hb13, h⟩ | ⟨hb13, h⟩
            · refine sm_icmp_ge (tgt := 133) (q := 129) dX12_concert_126 (by decide) rfl (fun _ => ?_) (fun hn => absurd hb13 hn)
              refine sm_iconst (v := 0) (q := 134) dX12_concert_133 rfl (by decide) ?_
              refine sm_iadd (q := 135) dX12_concert_134 rfl ?_
              refine sm_istore (L' := [(5, .inl (a5 + (0 : Int32))), (0, .inr (.inl a0)), (2, .inl a2), (3, .inl a3), (4, .inl a4), (6, .inl a6)]) (q := 137) dX12_concert_135 rfl (by decide) rfl ?_
              refine sm_iinc (v := (a6 + 1)) (L' := [(6, .inl (a6 + 1)), (5, .inl (a5 + (0 : Int32))), (0, .inr (.inl a0)), (2, .inl a2), (3, .inl a3), (4, .inl a4)]) (q := 140) dX12_concert_137 rfl 5 rfl rfl (by decide) rfl ?_
              refine sm_goto (q := 66) dX12_concert_140 (by decide) ?_
              refine sm_pick [2, 3, 4, 5, 1, 0] rfl ?_
              exact ih _ _ _ _ _ _ _ _ h
            · refine sm_icmp_ge (tgt := 133) (q := 129) dX12_concert_126 (by decide) rfl (fun ht => absurd ht hb13) (fun _ => ?_)
              refine sm_iconst (v := 1) (q := 130) dX12_concert_129 rfl (by decide) ?_
              refine sm_goto (q := 134) dX12_concert_130 (by decide) ?_
              refine sm_iadd (q := 135) dX12_concert_134 rfl ?_
              refine sm_istore (L' := [(5, .inl (a5 + (1 : Int32))), (0, .inr (.inl a0)), (2, .inl a2), (3, .inl a3), (4, .inl a4), (6, .inl a6)]) (q := 137) dX12_concert_135 rfl (by decide) rfl ?_
              refine sm_iinc (v := (a6 + 1)) (L' := [(6, .inl (a6 + 1)), (5, .inl (a5 + (1 : Int32))), (0, .inr (.inl a0)), (2, .inl a2), (3, .inl a3), (4, .inl a4)]) (q := 140) dX12_concert_137 rfl 5 rfl rfl (by decide) rfl ?_
              refine sm_goto (q := 66) dX12_concert_140 (by decide) ?_
              refine sm_pick [2, 3, 4, 5, 1, 0] rfl ?_
              exact ih _ _ _ _ _ _ _ _ h
          · refine sm_icmp_ne (tgt := 133) (q := 122) dX12_concert_119 (by decide) rfl (fun _ => ?_) (fun he => absurd he hb12)
            refine sm_iconst (v := 0) (q := 134) dX12_concert_133 rfl (by decide) ?_
            refine sm_iadd (q := 135) dX12_concert_134 rfl ?_
            refine sm_istore (L' := [(5, .inl (a5 + (0 : Int32))), (0, .inr (.inl a0)), (2, .inl a2), (3, .inl a3), (4, .inl a4), (6, .inl a6)]) (q := 137) dX12_concert_135 rfl (by decide) rfl ?_
            refine sm_iinc (v := (a6 + 1)) (L' := [(6, .inl (a6 + 1)), (5, .inl (a5 + (0 : Int32))), (0, .inr (.inl a0)), (2, .inl a2), (3, .inl a3), (4, .inl a4)]) (q := 140) dX12_concert_137 rfl 5 rfl rfl (by decide) rfl ?_
            refine sm_goto (q := 66) dX12_concert_140 (by decide) ?_
            refine sm_pick [2, 3, 4, 5, 1, 0] rfl ?_
            exact ih _ _ _ _ _ _ _ _ h
set_option maxHeartbeats 4000000 in
set_option maxRecDepth 100000 in
theorem w_X12_concert_49 {l : Launch} (N : Nat) (R : Nat → Nat → Nat) : ∀ (n : Nat) (a0 : Nat) (a2 : Int32) (a3 : Int32) (a4 : Int32) (I : (Nat → Nat → Int32)) (y : (Int32 × (Nat → Nat → Int32))), f_X12_concert_49 N R n a0 a2 a3 a4 I = some y → sm_W l 2 mX12_concert 49 [(0, .inr (.inl a0)), (2, .inl a2), (3, .inl a3), (4, .inl a4)] [] (I, R) (.inl (some (.inl y.1))) (y.2, R) := by
  intro n
  induction n with
  | zero => intro a0 a2 a3 a4 I y h; cases h
  | succ n ih =>
    intro a0 a2 a3 a4 I y h
    rw [f_X12_concert_49] at h
    refine sm_iload (q := 51) dX12_concert_49 rfl 3 rfl ?_
    refine sm_aload_n (q := 52) dX12_concert_51 rfl rfl 0 rfl ?_
    obtain ⟨hc1, h⟩ := sm_gd_e h
    refine sm_getR (r := R a0 4) (q := 55) dX12_concert_52 rfl fk_X12_41 hc1 (by decide) (by decide) rfl ?_
    refine sm_iconst (v := 1) (q := 56) dX12_concert_55 rfl (by decide) ?_
    obtain ⟨hc2, h⟩ := sm_gd_e h
    refine sm_iald (n := (sm_kd (R a0 4)).2) (q := 57) dX12_concert_56 rfl (Prod.ext hc2.1 rfl) hc2.2 ?_
    rcases sm_if_e h with ⟨hb3, h⟩ | ⟨hb3, h⟩
    · refine sm_icmp_ge (tgt := 167) (q := 60) dX12_concert_57 (by decide) rfl (fun _ => ?_) (fun hn => absurd hb3 hn)
      refine sm_iconst (v := -1) (q := 168) dX12_concert_167 rfl (by decide) ?_
      obtain rfl := Option.some.inj h
      exact sm_iret dX12_concert_168 rfl
    · refine sm_icmp_ge (tgt := 167) (q := 60) dX12_concert_57 (by decide) rfl (fun ht => absurd ht hb3) (fun _ => ?_)
      refine sm_iconst (v := 0) (q := 61) dX12_concert_60 rfl (by decide) ?_
      refine sm_istore (L' := [(5, .inl (0 : Int32)), (0, .inr (.inl a0)), (2, .inl a2), (3, .inl a3), (4, .inl a4)]) (q := 63) dX12_concert_61 rfl (by decide) rfl ?_
      refine sm_iconst (v := 0) (q := 64) dX12_concert_63 rfl (by decide) ?_
      refine sm_istore (L' := [(6, .inl (0 : Int32)), (5, .inl (0 : Int32)), (0, .inr (.inl a0)), (2, .inl a2), (3, .inl a3), (4, .inl a4)]) (q := 66) dX12_concert_64 rfl (by decide) rfl ?_
      refine sm_pick [2, 3, 4, 5, 1, 0] rfl ?_
      exact w_X12_concert_66 N R (fun z0 z1 z2 z3 J => f_X12_concert_49 N R n z0 z1 z2 z3 J) (fun z0 z1 z2 z3 J y h => ih z0 z1 z2 z3 J y h) N _ _ _ _ _ _ _ _ h
set_option maxHeartbeats 4000000 in
set_option maxRecDepth 100000 in
theorem w_X12_concert {l : Launch} (N : Nat) (R : Nat → Nat → Nat) : ∀ (a0 : Nat) (a1 : Int32) (a2 : Int32) (I : (Nat → Nat → Int32)) (y : (Int32 × (Nat → Nat → Int32))), f_X12_concert N R a0 a1 a2 I = some y → sm_W l 2 mX12_concert 0 [(0, .inr (.inl a0)), (1, .inl a1), (2, .inl a2)] [] (I, R) (.inl (some (.inl y.1))) (y.2, R) := by
  intro a0 a1 a2 I y h
  unfold f_X12_concert at h
  refine sm_aload_n (q := 1) dX12_concert_0 rfl rfl 0 rfl ?_
  refine sm_iconst (v := 0) (q := 2) dX12_concert_1 rfl (by decide) ?_
  obtain ⟨hc1, h⟩ := sm_gd_e h
  obtain ⟨I2, hI2, h⟩ := sm_lt_e h
  refine sm_putI (q := 5) dX12_concert_2 rfl fk_X12_152 hc1 (by decide) (by decide) ?_
  refine sm_memI hI2 ?_
  refine sm_iload_n (q := 6) dX12_concert_5 rfl rfl 2 rfl ?_
  rcases sm_if_e h with ⟨hb3, h⟩ | ⟨hb3, h⟩
  · refine sm_if_lt (tgt := 18) (q := 9) dX12_concert_6 (by decide) rfl (fun _ => ?_) (fun hn => absurd hb3 hn)
    refine sm_aload_n (q := 19) dX12_concert_18 rfl rfl 0 rfl ?_
    refine sm_iconst (v := 1) (q := 20) dX12_concert_19 rfl (by decide) ?_
    obtain ⟨p4, hc_p4, h⟩ := sm_bd_e h
    refine sm_callVi (q := 23) (As := [.inl (1 : Int32)]) (S := []) (e_X12_fail hc_p4) mv_X12_283 hc1 rfl (by decide) (Nat.le_of_ble_eq_true rfl) dX12_concert_20 rfl ?_
    obtain rfl := Option.some.inj h
    exact sm_iret dX12_concert_23 rfl
  · refine sm_if_lt (tgt := 18) (q := 9) dX12_concert_6 (by decide) rfl (fun ht => absurd ht hb3) (fun _ => ?_)
    refine sm_iload_n (q := 10) dX12_concert_9 rfl rfl 1 rfl ?_
    rcases sm_if_e h with ⟨hb5, h⟩ | ⟨hb5, h⟩
    · refine sm_if_lt (tgt := 18) (q := 13) dX12_concert_10 (by decide) rfl (fun _ => ?_) (fun hn => absurd hb5 hn)
      refine sm_aload_n (q := 19) dX12_concert_18 rfl rfl 0 rfl ?_
      refine sm_iconst (v := 1) (q := 20) dX12_concert_19 rfl (by decide) ?_
      obtain ⟨p6, hc_p6, h⟩ := sm_bd_e h
      refine sm_callVi (q := 23) (As := [.inl (1 : Int32)]) (S := []) (e_X12_fail hc_p6) mv_X12_283 hc1 rfl (by decide) (Nat.le_of_ble_eq_true rfl) dX12_concert_20 rfl ?_
      obtain rfl := Option.some.inj h
      exact sm_iret dX12_concert_23 rfl
    · refine sm_if_lt (tgt := 18) (q := 13) dX12_concert_10 (by decide) rfl (fun ht => absurd ht hb5) (fun _ => ?_)
      refine sm_iload_n (q := 14) dX12_concert_13 rfl rfl 1 rfl ?_
      refine sm_iconst (v := 1) (q := 15) dX12_concert_14 rfl (by decide) ?_
      rcases sm_if_e h with ⟨hb7, h⟩ | ⟨hb7, h⟩
      · refine sm_icmp_le (tgt := 24) (q := 18) dX12_concert_15 (by decide) rfl (fun _ => ?_) (fun hn => absurd hb7 hn)
        refine sm_iload_n (q := 25) dX12_concert_24 rfl rfl 1 rfl ?_
        rcases sm_if_e h with ⟨hb8, h⟩ | ⟨hb8, h⟩
        · refine sm_if_ne (tgt := 35) (q := 28) dX12_concert_25 (by decide) rfl (fun hn => absurd hb8 hn) (fun _ => ?_)
          refine sm_aload_n (q := 29) dX12_concert_28 rfl rfl 0 rfl ?_
          obtain ⟨p9, hc_p9, h⟩ := sm_bd_e h
          refine sm_callVi (q := 32) (As := []) (S := []) (e_X12_allDone hc_p9) mv_X12_361 hc1 rfl (by decide) (Nat.le_of_ble_eq_true rfl) dX12_concert_29 rfl ?_
          refine sm_goto (q := 45) dX12_concert_32 (by decide) ?_
          refine sm_istore_n (L' := [(3, .inl p9.1), (0, .inr (.inl a0)), (1, .inl a1), (2, .inl a2)]) (q := 46) dX12_concert_45 rfl rfl (by decide) rfl ?_
          refine sm_iconst (v := 0) (q := 47) dX12_concert_46 rfl (by decide) ?_
          refine sm_istore (L' := [(4, .inl (0 : Int32)), (3, .inl p9.1), (0, .inr (.inl a0)), (1, .inl a1), (2, .inl a2)]) (q := 49) dX12_concert_47 rfl (by decide) rfl ?_
          refine sm_pick [2, 4, 1, 0] rfl ?_
          exact w_X12_concert_49 N R N _ _ _ _ _ _ h
        · refine sm_if_ne (tgt := 35) (q := 28) dX12_concert_25 (by decide) rfl (fun _ => ?_) (fun he => absurd he hb8)
          refine sm_iconst (v := 1) (q := 36) dX12_concert_35 rfl (by decide) ?_
          refine sm_aload_n (q := 37) dX12_concert_36 rfl rfl 0 rfl ?_
          refine sm_getR (r := R a0 4) (q := 40) dX12_concert_37 rfl fk_X12_41 hc1 (by decide) (by decide) rfl ?_
          refine sm_iconst (v := 1) (q := 41) dX12_concert_40 rfl (by decide) ?_
          obtain ⟨hc10, h⟩ := sm_gd_e h
          refine sm_iald (n := (sm_kd (R a0 4)).2) (q := 42) dX12_concert_41 rfl (Prod.ext hc10.1 rfl) hc10.2 ?_
          refine sm_ishl (q := 43) dX12_concert_42 rfl ?_
          refine sm_iconst (v := 1) (q := 44) dX12_concert_43 rfl (by decide) ?_
          refine sm_isub (q := 45) dX12_concert_44 rfl ?_
          refine sm_istore_n (L' := [(3, .inl (((1 : Int32) <<< ((I2 (R a0 4) ((1 : Int32)).toNatClampNeg) &&& 31)) - (1 : Int32))), (0, .inr (.inl a0)), (1, .inl a1), (2, .inl a2)]) (q := 46) dX12_concert_45 rfl rfl (by decide) rfl ?_
          refine sm_iconst (v := 0) (q := 47) dX12_concert_46 rfl (by decide) ?_
          refine sm_istore (L' := [(4, .inl (0 : Int32)), (3, .inl (((1 : Int32) <<< ((I2 (R a0 4) ((1 : Int32)).toNatClampNeg) &&& 31)) - (1 : Int32))), (0, .inr (.inl a0)), (1, .inl a1), (2, .inl a2)]) (q := 49) dX12_concert_47 rfl (by decide) rfl ?_
          refine sm_pick [2, 4, 1, 0] rfl ?_
          exact w_X12_concert_49 N R N _ _ _ _ _ _ h
      · refine sm_icmp_le (tgt := 24) (q := 18) dX12_concert_15 (by decide) rfl (fun ht => absurd ht hb7) (fun _ => ?_)
        refine sm_aload_n (q := 19) dX12_concert_18 rfl rfl 0 rfl ?_
        refine sm_iconst (v := 1) (q := 20) dX12_concert_19 rfl (by decide) ?_
        obtain ⟨p11, hc_p11, h⟩ := sm_bd_e h
        refine sm_callVi (q := 23) (As := [.inl (1 : Int32)]) (S := []) (e_X12_fail hc_p11) mv_X12_283 hc1 rfl (by decide) (Nat.le_of_ble_eq_true rfl) dX12_concert_20 rfl ?_
        obtain rfl := Option.some.inj h
        exact sm_iret dX12_concert_23 rfl
theorem e_X12_concert {l : Launch} {N : Nat} {R : Nat → Nat → Nat} {a0 : Nat} {a1 : Int32} {a2 : Int32} {I : (Nat → Nat → Int32)} {y : (Int32 × (Nat → Nat → Int32))} (h : f_X12_concert N R a0 a1 a2 I = some y) : sm_E l 2 mX12_concert [.inr (.inl a0), .inl a1, .inl a2] (I, R) (.inl (some (.inl y.1))) (y.2, R) :=
  sm_meth (by decide) (Nat.le_of_ble_eq_true rfl) (w_X12_concert N R a0 a1 a2 I y h)
def f_X12_duet_27 (N : Nat) (R : Nat → Nat → Nat) (k_12 : Nat → Int32 → Int32 → Int32 → (Nat → Nat → Int32) → Option (Int32 × (Nat → Nat → Int32))) : Nat → Nat → Int32 → Int32 → Int32 → Int32 → (Nat → Nat → Int32) → Option (Int32 × (Nat → Nat → Int32))
  | 0, _, _, _, _, _, _ => none
  | n + 1, a0, a1, a2, a3, a4, I =>
    sm_gd (sm_kd a0 = (12, 59)) <|
    sm_gd ((sm_kd (R a0 4)).1 = 13 ∧ ¬ ((1 : Int32) < 0 ∨ (sm_kd (R a0 4)).2 ≤ ((1 : Int32)).toNatClampNeg)) <|
    if (I (R a0 4) ((1 : Int32)).toNatClampNeg) ≤ a4 then (
      k_12 a0 a1 a2 (a3 + 1) I)
    else (
      sm_gd ((sm_kd (R a0 25)).1 = 13 ∧ ¬ (a3 < 0 ∨ (sm_kd (R a0 25)).2 ≤ (a3).toNatClampNeg)) <|
      sm_gd ((sm_kd (R a0 25)).1 = 13 ∧ ¬ (a4 < 0 ∨ (sm_kd (R a0 25)).2 ≤ (a4).toNatClampNeg)) <|
      if (sm_ab ((I (R a0 25) (a3).toNatClampNeg) - (I (R a0 25) (a4).toNatClampNeg))) < a2 then (
        f_X12_duet_27 N R k_12 n a0 (((10 : Int32) * a3) + a4) (sm_ab ((I (R a0 25) (a3).toNatClampNeg) - (I (R a0 25) (a4).toNatClampNeg))) a3 (a4 + 1) I)
      else (
        f_X12_duet_27 N R k_12 n a0 a1 a2 a3 (a4 + 1) I))
def f_X12_duet_12 (N : Nat) (R : Nat → Nat → Nat) : Nat → Nat → Int32 → Int32 → Int32 → (Nat → Nat → Int32) → Option (Int32 × (Nat → Nat → Int32))
  | 0, _, _, _, _, _ => none
  | n + 1, a0, a1, a2, a3, I =>
    sm_gd (sm_kd a0 = (12, 59)) <|
    sm_gd ((sm_kd (R a0 4)).1 = 13 ∧ ¬ ((1 : Int32) < 0 ∨ (sm_kd (R a0 4)).2 ≤ ((1 : Int32)).toNatClampNeg)) <|
    if (I (R a0 4) ((1 : Int32)).toNatClampNeg) ≤ a3 then (
      some (a1, I))
    else (
      f_X12_duet_27 N R (fun z0 z1 z2 z3 J => f_X12_duet_12 N R n z0 z1 z2 z3 J) N a0 a1 a2 a3 (a3 + (1 : Int32)) I)
def f_X12_duet (N : Nat) (R : Nat → Nat → Nat) : Nat → (Nat → Nat → Int32) → Option (Int32 × (Nat → Nat → Int32)) := fun a0 I =>
  sm_gd (sm_kd a0 = (12, 59)) <|
  sm_lt (sm_up I a0 (sm_up (I a0) 3 (0 : Int32))) fun I2 =>
  f_X12_duet_12 N R N a0 (-1 : Int32) (100 : Int32) (0 : Int32) I2
set_option maxHeartbeats 4000000 in
set_option maxRecDepth 100000 in
theorem w_X12_duet_27 {l : Launch} (N : Nat) (R : Nat → Nat → Nat) (k_12 : Nat → Int32 → Int32 → Int32 → (Nat → Nat → Int32) → Option (Int32 × (Nat → Nat → Int32))) (hk_12 : ∀ (a0 : Nat) (a1 : Int32) (a2 : Int32) (a3 : Int32) (I : (Nat → Nat → Int32)) (y : (Int32 × (Nat → Nat → Int32))), k_12 a0 a1 a2 a3 I = some y → sm_W l 0 mX12_duet 12 [(0, .inr (.inl a0)), (1, .inl a1), (2, .inl a2), (3, .inl a3)] [] (I, R) (.inl (some (.inl y.1))) (y.2, R)) : ∀ (n : Nat) (a0 : Nat) (a1 : Int32) (a2 : Int32) (a3 : Int32) (a4 : Int32) (I : (Nat → Nat → Int32)) (y : (Int32 × (Nat → Nat → Int32))), f_X12_duet_27 N R k_12 n a0 a1 a2 a3 a4 I = some y → sm_W l 0 mX12_duet 27 [(0, .inr (.inl a0)), (1, .inl a1), (2, .inl a2), (3, .inl a3), (4, .inl a4)] [] (I, R) (.inl (some (.inl y.1))) (y.2, R) := by
  intro n
  induction n with
  | zero => intro a0 a1 a2 a3 a4 I y h; cases h
  | succ n ih =>
    intro a0 a1 a2 a3 a4 I y h
    rw [f_X12_duet_27] at h
    refine sm_iload (q := 29) dX12_duet_27 rfl 4 rfl ?_
    refine sm_aload_n (q := 30) dX12_duet_29 rfl rfl 0 rfl ?_
    obtain ⟨hc1, h⟩ := sm_gd_e h
    refine sm_getR (r := R a0 4) (q := 33) dX12_duet_30 rfl fk_X12_41 hc1 (by decide) (by decide) rfl ?_
    refine sm_iconst (v := 1) (q := 34) dX12_duet_33 rfl (by decide) ?_
    obtain ⟨hc2, h⟩ := sm_gd_e h
    refine sm_iald (n := (sm_kd (R a0 4)).2) (q := 35) dX12_duet_34 rfl (Prod.ext hc2.1 rfl) hc2.2 ?_
    rcases sm_if_e h with ⟨hb3, h⟩ | ⟨hb3, h⟩
    · refine sm_icmp_ge (tgt := 83) (q := 38) dX12_duet_35 (by decide) rfl (fun _ => ?_) (fun hn => absurd hb3 hn)
      refine sm_iinc (v := (a3 + 1)) (L' := [(3, .inl (a3 + 1)), (0, .inr (.inl a0)), (1, .inl a1), (2, .inl a2), (4, .inl a4)]) (q := 86) dX12_duet_83 rfl 3 rfl rfl (by decide) rfl ?_
      refine sm_goto (q := 12) dX12_duet_86 (by decide) ?_
      refine sm_pick [1, 2, 3, 0] rfl ?_
      exact hk_12 _ _ _ _ _ _ h
    · refine sm_icmp_ge (tgt := 83) (q := 38) dX12_duet_35 (by decide) rfl (fun ht => absurd ht hb3) (fun _ => ?_)
      refine sm_aload_n (q := 39) dX12_duet_38 rfl rfl 0 rfl ?_
      refine sm_getR (r := R a0 25) (q := 42) dX12_duet_39 rfl fk_X12_76 hc1 (by decide) (by decide) rfl ?_
      refine sm_iload_n (q := 43) dX12_duet_42 rfl rfl 3 rfl ?_
      obtain ⟨hc4, h⟩ := sm_gd_e h
      refine sm_iald (n := (sm_kd (R a0 25)).2) (q := 44) dX12_duet_43 rfl (Prod.ext hc4.1 rfl) hc4.2 ?_
      refine sm_aload_n (q := 45) dX12_duet_44 rfl rfl 0 rfl ?_
      refine sm_getR (r := R a0 25) (q := 48) dX12_duet_45 rfl fk_X12_76 hc1 (by decide) (by decide) rfl ?_
      refine sm_iload (q := 50) dX12_duet_48 rfl 4 rfl ?_
      obtain ⟨hc5, h⟩ := sm_gd_e h
      refine sm_iald (n := (sm_kd (R a0 25)).2) (q := 51) dX12_duet_50 rfl (Prod.ext hc5.1 rfl) hc5.2 ?_
      refine sm_isub (q := 52) dX12_duet_51 rfl ?_
      refine sm_mma (q := 55) dX12_duet_52 rfl mm_X12_428 (Nat.le_of_ble_eq_true rfl) ?_
      refine sm_istore (L' := [(5, .inl (sm_ab ((I (R a0 25) (a3).toNatClampNeg) - (I (R a0 25) (a4).toNatClampNeg)))), (0, .inr (.inl a0)), (1, .inl a1), (2, .inl a2), (3, .inl a3), (4, .inl a4)]) (q := 57) dX12_duet_55 rfl (by decide) rfl ?_
      refine sm_iload (q := 59) dX12_duet_57 rfl 0 rfl ?_
      refine sm_iload_n (q := 60) dX12_duet_59 rfl rfl 3 rfl ?_
      rcases sm_if_e h with ⟨hb6, h⟩ | ⟨hb6, h⟩
      · refine sm_icmp_lt (tgt := 66) (q := 63) dX12_duet_60 (by decide) rfl (fun _ => ?_) (fun hn => absurd hb6 hn)
        refine sm_bipush (v := 10) (q := 68) dX12_duet_66 rfl (by decide) ?_
        refine sm_iload_n (q := 69) dX12_duet_68 rfl rfl 4 rfl ?_
        refine sm_imul (q := 70) dX12_duet_69 rfl ?_
        refine sm_iload (q := 72) dX12_duet_70 rfl 5 rfl ?_
        refine sm_iadd (q := 73) dX12_duet_72 rfl ?_
        refine sm_istore_n (L' := [(1, .inl (((10 : Int32) * a3) + a4)), (5, .inl (sm_ab ((I (R a0 25) (a3).toNatClampNeg) - (I (R a0 25) (a4).toNatClampNeg)))), (0, .inr (.inl a0)), (2, .inl a2), (3, .inl a3), (4, .inl a4)]) (q := 74) dX12_duet_73 rfl rfl (by decide) rfl ?_
        refine sm_iload (q := 76) dX12_duet_74 rfl 1 rfl ?_
        refine sm_istore_n (L' := [(2, .inl (sm_ab ((I (R a0 25) (a3).toNatClampNeg) - (I (R a0 25) (a4).toNatClampNeg)))), (1, .inl (((10 : Int32) * a3) + a4)), (5, .inl (sm_ab ((I (R a0 25) (a3).toNatClampNeg) - (I (R a0 25) (a4).toNatClampNeg)))), (0, .inr (.inl a0)), (3, .inl a3), (4, .inl a4)]) (q := 77) dX12_duet_76 rfl rfl (by decide) rfl ?_
        refine sm_iinc (v := (a4 + 1)) (L' := [(4, .inl (a4 + 1)), (2, .inl (sm_ab ((I (R a0 25) (a3).toNatClampNeg) - (I (R a0 25) (a4).toNatClampNeg)))), (1, .inl (((10 : Int32) * a3) + a4)), (5, .inl (sm_ab ((I (R a0 25) (a3).toNatClampNeg) - (I (R a0 25) (a4).toNatClampNeg)))), (0, .inr (.inl a0)), (3, .inl a3)]) (q := 80) dX12_duet_77 rfl 5 rfl rfl (by decide) rfl ?_
        refine sm_goto (q := 27) dX12_duet_80 (by decide) ?_
        refine sm_pick [4, 2, 1, 5, 0] rfl ?_
        exact ih _ _ _ _ _ _ _ h
      · refine sm_icmp_lt (tgt := 66) (q := 63) dX12_duet_60 (by decide) rfl (fun ht => absurd ht hb6) (fun _ => ?_)
        refine sm_goto (q := 77) dX12_duet_63 (by decide) ?_
        refine sm_iinc (v := (a4 + 1)) (L' := [(4, .inl (a4 + 1)), (5, .inl (sm_ab ((I (R a0 25) (a3).toNatClampNeg) - (I (R a0 25) (a4).toNatClampNeg)))), (0, .inr (.inl a0)), (1, .inl a1), (2, .inl a2), (3, .inl a3)]) (q := 80) dX12_duet_77 rfl 5 rfl rfl (by decide) rfl ?_
        refine sm_goto (q := 27) dX12_duet_80 (by decide) ?_
        refine sm_pick [2, 3, 4, 5, 0] rfl ?_
        exact ih _ _ _ _ _ _ _ h
set_option maxHeartbeats 4000000 in
set_option maxRecDepth 100000 in
theorem w_X12_duet_12 {l : Launch} (N : Nat) (R : Nat → Nat → Nat) : ∀ (n : Nat) (a0 : Nat) (a1 : Int32) (a2 : Int32) (a3 : Int32) (I : (Nat → Nat → Int32)) (y : (Int32 × (Nat → Nat → Int32))), f_X12_duet_12 N R n a0 a1 a2 a3 I = some y → sm_W l 0 mX12_duet 12 [(0, .inr (.inl a0)), (1, .inl a1), (2, .inl a2), (3, .inl a3)] [] (I, R) (.inl (some (.inl y.1))) (y.2, R) := by
  intro n
  induction n with
  | zero => intro a0 a1 a2 a3 I y h; cases h
  | succ n ih =>
    intro a0 a1 a2 a3 I y h
    rw [f_X12_duet_12] at h
    refine sm_iload_n (q := 13) dX12_duet_12 rfl rfl 3 rfl ?_
    refine sm_aload_n (q := 14) dX12_duet_13 rfl rfl 0 rfl ?_
    obtain ⟨hc1, h⟩ := sm_gd_e h
    refine sm_getR (r := R a0 4) (q := 17) dX12_duet_14 rfl fk_X12_41 hc1 (by decide) (by decide) rfl ?_
    refine sm_iconst (v := 1) (q := 18) dX12_duet_17 rfl (by decide) ?_
    obtain ⟨hc2, h⟩ := sm_gd_e h
    refine sm_iald (n := (sm_kd (R a0 4)).2) (q := 19) dX12_duet_18 rfl (Prod.ext hc2.1 rfl) hc2.2 ?_
    rcases sm_if_e h with ⟨hb3, h⟩ | ⟨hb3, h⟩
    · refine sm_icmp_ge (tgt := 89) (q := 22) dX12_duet_19 (by decide) rfl (fun _ => ?_) (fun hn => absurd hb3 hn)
      refine sm_iload_n (q := 90) dX12_duet_89 rfl rfl 1 rfl ?_
      obtain rfl := Option.some.inj h
      exact sm_iret dX12_duet_90 rfl
    · refine sm_icmp_ge (tgt := 89) (q := 22) dX12_duet_19 (by decide) rfl (fun ht => absurd ht hb3) (fun _ => ?_)
      refine sm_iload_n (q := 23) dX12_duet_22 rfl rfl 3 rfl ?_
      refine sm_iconst (v := 1) (q := 24) dX12_duet_23 rfl (by decide) ?_
      refine sm_iadd (q := 25) dX12_duet_24 rfl ?_
      refine sm_istore (L' := [(4, .inl (a3 + (1 : Int32))), (0, .inr (.inl a0)), (1, .inl a1), (2, .inl a2), (3, .inl a3)]) (q := 27) dX12_duet_25 rfl (by decide) rfl ?_
      refine sm_pick [1, 2, 3, 4, 0] rfl ?_
      exact w_X12_duet_27 N R (fun z0 z1 z2 z3 J => f_X12_duet_12 N R n z0 z1 z2 z3 J) (fun z0 z1 z2 z3 J y h => ih z0 z1 z2 z3 J y h) N _ _ _ _ _ _ _ h
set_option maxHeartbeats 4000000 in
set_option maxRecDepth 100000 in
theorem w_X12_duet {l : Launch} (N : Nat) (R : Nat → Nat → Nat) : ∀ (a0 : Nat) (I : (Nat → Nat → Int32)) (y : (Int32 × (Nat → Nat → Int32))), f_X12_duet N R a0 I = some y → sm_W l 0 mX12_duet 0 [(0, .inr (.inl a0))] [] (I, R) (.inl (some (.inl y.1))) (y.2, R) := by
  intro a0 I y h
  unfold f_X12_duet at h
  refine sm_aload_n (q := 1) dX12_duet_0 rfl rfl 0 rfl ?_
  refine sm_iconst (v := 0) (q := 2) dX12_duet_1 rfl (by decide) ?_
  obtain ⟨hc1, h⟩ := sm_gd_e h
  obtain ⟨I2, hI2, h⟩ := sm_lt_e h
  refine sm_putI (q := 5) dX12_duet_2 rfl fk_X12_152 hc1 (by decide) (by decide) ?_
  refine sm_memI hI2 ?_
  refine sm_iconst (v := -1) (q := 6) dX12_duet_5 rfl (by decide) ?_
  refine sm_istore_n (L' := [(1, .inl (-1 : Int32)), (0, .inr (.inl a0))]) (q := 7) dX12_duet_6 rfl rfl (by decide) rfl ?_
  refine sm_bipush (v := 100) (q := 9) dX12_duet_7 rfl (by decide) ?_
  refine sm_istore_n (L' := [(2, .inl (100 : Int32)), (1, .inl (-1 : Int32)), (0, .inr (.inl a0))]) (q := 10) dX12_duet_9 rfl rfl (by decide) rfl ?_
  refine sm_iconst (v := 0) (q := 11) dX12_duet_10 rfl (by decide) ?_
  refine sm_istore_n (L' := [(3, .inl (0 : Int32)), (2, .inl (100 : Int32)), (1, .inl (-1 : Int32)), (0, .inr (.inl a0))]) (q := 12) dX12_duet_11 rfl rfl (by decide) rfl ?_
  refine sm_pick [3, 2, 1, 0] rfl ?_
  exact w_X12_duet_12 N R N _ _ _ _ _ _ h
theorem e_X12_duet {l : Launch} {N : Nat} {R : Nat → Nat → Nat} {a0 : Nat} {I : (Nat → Nat → Int32)} {y : (Int32 × (Nat → Nat → Int32))} (h : f_X12_duet N R a0 I = some y) : sm_E l 0 mX12_duet [.inr (.inl a0)] (I, R) (.inl (some (.inl y.1))) (y.2, R) :=
  sm_meth (by decide) (Nat.le_of_ble_eq_true rfl) (w_X12_duet N R a0 I y h)
def f_X12_common_42 (N : Nat) (R : Nat → Nat → Nat) (k_29 : Nat → Int32 → Int32 → Int32 → (Nat → Nat → Int32) → Option (Int32 × (Nat → Nat → Int32))) : Nat → Nat → Int32 → Int32 → Int32 → Int32 → (Nat → Nat → Int32) → Option (Int32 × (Nat → Nat → Int32))
  | 0, _, _, _, _, _, _ => none
  | n + 1, a0, a1, a2, a3, a4, I =>
    sm_gd (sm_kd a0 = (12, 59)) <|
    sm_gd ((sm_kd (R a0 6)).1 = 13 ∧ ¬ (a2 < 0 ∨ (sm_kd (R a0 6)).2 ≤ (a2).toNatClampNeg)) <|
    if (I (R a0 6) (a2).toNatClampNeg) < a4 then (
      k_29 a0 a1 a2 (a3 + 1) I)
    else (
      if a3 = 0 then (
        sm_gd ((sm_kd (R a0 40)).1 = 13 ∧ ¬ ((((9 : Int32) * a3) + a4) < 0 ∨ (sm_kd (R a0 40)).2 ≤ ((((9 : Int32) * a3) + a4)).toNatClampNeg)) <|
        sm_lt (sm_up I (R a0 40) (sm_up (I (R a0 40)) ((((9 : Int32) * a3) + a4)).toNatClampNeg (0 : Int32))) fun I6 =>
        f_X12_common_42 N R k_29 n a0 a1 a2 a3 (a4 + 1) I6)
      else (
        if a4 = 0 then (
          sm_gd ((sm_kd (R a0 40)).1 = 13 ∧ ¬ ((((9 : Int32) * a3) + a4) < 0 ∨ (sm_kd (R a0 40)).2 ≤ ((((9 : Int32) * a3) + a4)).toNatClampNeg)) <|
          sm_lt (sm_up I (R a0 40) (sm_up (I (R a0 40)) ((((9 : Int32) * a3) + a4)).toNatClampNeg (0 : Int32))) fun I9 =>
          f_X12_common_42 N R k_29 n a0 a1 a2 a3 (a4 + 1) I9)
        else (
          (f_X12_hardOf N R a0 a1 (a3 - (1 : Int32)) I).bind fun p10 =>
          (f_X12_hardOf N R a0 a2 (a4 - (1 : Int32)) p10.2).bind fun p11 =>
          if p10.1 = p11.1 then (
            sm_gd ((sm_kd (R a0 40)).1 = 13 ∧ ¬ ((((((9 : Int32) * a3) + a4) - (8 : Int32)) - (2 : Int32)) < 0 ∨ (sm_kd (R a0 40)).2 ≤ ((((((9 : Int32) * a3) + a4) - (8 : Int32)) - (2 : Int32))).toNatClampNeg)) <|
            sm_gd ((sm_kd (R a0 40)).1 = 13 ∧ ¬ ((((9 : Int32) * a3) + a4) < 0 ∨ (sm_kd (R a0 40)).2 ≤ ((((9 : Int32) * a3) + a4)).toNatClampNeg)) <|
            sm_lt (sm_up p11.2 (R a0 40) (sm_up (p11.2 (R a0 40)) ((((9 : Int32) * a3) + a4)).toNatClampNeg ((p11.2 (R a0 40) ((((((9 : Int32) * a3) + a4) - (8 : Int32)) - (2 : Int32))).toNatClampNeg) + (1 : Int32)))) fun I15 =>
            f_X12_common_42 N R k_29 n a0 a1 a2 a3 (a4 + 1) I15)
          else (
            sm_gd ((sm_kd (R a0 40)).1 = 13 ∧ ¬ (((((9 : Int32) * a3) + a4) - (1 : Int32)) < 0 ∨ (sm_kd (R a0 40)).2 ≤ (((((9 : Int32) * a3) + a4) - (1 : Int32))).toNatClampNeg)) <|
            sm_gd ((sm_kd (R a0 40)).1 = 13 ∧ ¬ ((((((9 : Int32) * a3) + a4) - (8 : Int32)) - (1 : Int32)) < 0 ∨ (sm_kd (R a0 40)).2 ≤ ((((((9 : Int32) * a3) + a4) - (8 : Int32)) - (1 : Int32))).toNatClampNeg)) <|
            sm_gd ((sm_kd (R a0 40)).1 = 13 ∧ ¬ ((((9 : Int32) * a3) + a4) < 0 ∨ (sm_kd (R a0 40)).2 ≤ ((((9 : Int32) * a3) + a4)).toNatClampNeg)) <|
            sm_lt (sm_up p11.2 (R a0 40) (sm_up (p11.2 (R a0 40)) ((((9 : Int32) * a3) + a4)).toNatClampNeg (sm_mx (p11.2 (R a0 40) (((((9 : Int32) * a3) + a4) - (1 : Int32))).toNatClampNeg) (p11.2 (R a0 40) ((((((9 : Int32) * a3) + a4) - (8 : Int32)) - (1 : Int32))).toNatClampNeg)))) fun I19 =>
            f_X12_common_42 N R k_29 n a0 a1 a2 a3 (a4 + 1) I19))))
def f_X12_common_29 (N : Nat) (R : Nat → Nat → Nat) : Nat → Nat → Int32 → Int32 → Int32 → (Nat → Nat → Int32) → Option (Int32 × (Nat → Nat → Int32))
  | 0, _, _, _, _, _ => none
  | n + 1, a0, a1, a2, a3, I =>
    sm_gd (sm_kd a0 = (12, 59)) <|
    sm_gd ((sm_kd (R a0 6)).1 = 13 ∧ ¬ (a1 < 0 ∨ (sm_kd (R a0 6)).2 ≤ (a1).toNatClampNeg)) <|
    if (I (R a0 6) (a1).toNatClampNeg) < a3 then (
      sm_gd ((sm_kd (R a0 6)).1 = 13 ∧ ¬ (a2 < 0 ∨ (sm_kd (R a0 6)).2 ≤ (a2).toNatClampNeg)) <|
      sm_gd ((sm_kd (R a0 40)).1 = 13 ∧ ¬ ((((9 : Int32) * (I (R a0 6) (a1).toNatClampNeg)) + (I (R a0 6) (a2).toNatClampNeg)) < 0 ∨ (sm_kd (R a0 40)).2 ≤ ((((9 : Int32) * (I (R a0 6) (a1).toNatClampNeg)) + (I (R a0 6) (a2).toNatClampNeg))).toNatClampNeg)) <|
      some ((I (R a0 40) ((((9 : Int32) * (I (R a0 6) (a1).toNatClampNeg)) + (I (R a0 6) (a2).toNatClampNeg))).toNatClampNeg), I))
    else (
      f_X12_common_42 N R (fun z0 z1 z2 z3 J => f_X12_common_29 N R n z0 z1 z2 z3 J) N a0 a1 a2 a3 (0 : Int32) I)
def f_X12_common (N : Nat) (R : Nat → Nat → Nat) : Nat → Int32 → Int32 → (Nat → Nat → Int32) → Option (Int32 × (Nat → Nat → Int32)) := fun a0 a1 a2 I =>
  sm_gd (sm_kd a0 = (12, 59)) <|
  sm_lt (sm_up I a0 (sm_up (I a0) 3 (0 : Int32))) fun I2 =>
  (f_X12_isPiece N R a0 a1 I2).bind fun p3 =>
  if p3.1 = 0 then (
    (f_X12_fail N R a0 (1 : Int32) p3.2).bind fun p5 =>
    some (p5.1, p5.2))
  else (
    (f_X12_isPiece N R a0 a2 p3.2).bind fun p6 =>
    if p6.1 = 0 then (
      (f_X12_fail N R a0 (1 : Int32) p6.2).bind fun p8 =>
      some (p8.1, p8.2))
    else (
      f_X12_common_29 N R N a0 a1 a2 (0 : Int32) p6.2))
set_option maxHeartbeats 4000000 in
set_option maxRecDepth 100000 in
theorem w_X12_common_42 {l : Launch} (N : Nat) (R : Nat → Nat → Nat) (k_29 : Nat → Int32 → Int32 → Int32 → (Nat → Nat → Int32) → Option (Int32 × (Nat → Nat → Int32))) (hk_29 : ∀ (a0 : Nat) (a1 : Int32) (a2 : Int32) (a3 : Int32) (I : (Nat → Nat → Int32)) (y : (Int32 × (Nat → Nat → Int32))), k_29 a0 a1 a2 a3 I = some y → sm_W l 2 mX12_common 29 [(0, .inr (.inl a0)), (1, .inl a1), (2, .inl a2), (3, .inl a3)] [] (I, R) (.inl (some (.inl y.1))) (y.2, R)) : ∀ (n : Nat) (a0 : Nat) (a1 : Int32) (a2 : Int32) (a3 : Int32) (a4 : Int32) (I : (Nat → Nat → Int32)) (y : (Int32 × (Nat → Nat → Int32))), f_X12_common_42 N R k_29 n a0 a1 a2 a3 a4 I = some y → sm_W l 2 mX12_common 42 [(0, .inr (.inl a0)), (1, .inl a1), (2, .inl a2), (3, .inl a3), (4, .inl a4)] [] (I, R) (.inl (some (.inl y.1))) (y.2, R) := by
  intro n
  induction n with
  | zero => intro a0 a1 a2 a3 a4 I y h; cases h
  | succ n ih =>
    intro a0 a1 a2 a3 a4 I y h
    rw [f_X12_common_42] at h
    refine sm_iload (q := 44) dX12_common_42 rfl 4 rfl ?_
    refine sm_aload_n (q := 45) dX12_common_44 rfl rfl 0 rfl ?_
    obtain ⟨hc1, h⟩ := sm_gd_e h
    refine sm_getR (r := R a0 6) (q := 48) dX12_common_45 rfl fk_X12_47 hc1 (by decide) (by decide) rfl ?_
    refine sm_iload_n (q := 49) dX12_common_48 rfl rfl 2 rfl ?_
    obtain ⟨hc2, h⟩ := sm_gd_e h
    refine sm_iald (n := (sm_kd (R a0 6)).2) (q := 50) dX12_common_49 rfl (Prod.ext hc2.1 rfl) hc2.2 ?_
    rcases sm_if_e h with ⟨hb3, h⟩ | ⟨hb3, h⟩
    · refine sm_icmp_gt (tgt := 163) (q := 53) dX12_common_50 (by decide) rfl (fun _ => ?_) (fun hn => absurd hb3 hn)
      refine sm_iinc (v := (a3 + 1)) (L' := [(3, .inl (a3 + 1)), (0, .inr (.inl a0)), (1, .inl a1), (2, .inl a2), (4, .inl a4)]) (q := 166) dX12_common_163 rfl 3 rfl rfl (by decide) rfl ?_
      refine sm_goto (q := 29) dX12_common_166 (by decide) ?_
      refine sm_pick [1, 2, 3, 0] rfl ?_
      exact hk_29 _ _ _ _ _ _ h
    · refine sm_icmp_gt (tgt := 163) (q := 53) dX12_common_50 (by decide) rfl (fun ht => absurd ht hb3) (fun _ => ?_)
      refine sm_bipush (v := 9) (q := 55) dX12_common_53 rfl (by decide) ?_
      refine sm_iload_n (q := 56) dX12_common_55 rfl rfl 3 rfl ?_
      refine sm_imul (q := 57) dX12_common_56 rfl ?_
      refine sm_iload (q := 59) dX12_common_57 rfl 4 rfl ?_
      refine sm_iadd (q := 60) dX12_common_59 rfl ?_
      refine sm_istore (L' := [(5, .inl (((9 : Int32) * a3) + a4)), (0, .inr (.inl a0)), (1, .inl a1), (2, .inl a2), (3, .inl a3), (4, .inl a4)]) (q := 62) dX12_common_60 rfl (by decide) rfl ?_
      refine sm_iload_n (q := 63) dX12_common_62 rfl rfl 4 rfl ?_
      rcases sm_if_e h with ⟨hb4, h⟩ | ⟨hb4, h⟩
      · refine sm_if_eq (tgt := 71) (q := 66) dX12_common_63 (by decide) rfl (fun _ => ?_) (fun hn => absurd hb4 hn)
        refine sm_aload_n (q := 72) dX12_common_71 rfl rfl 1 rfl ?_
        refine sm_getR (r := R a0 40) (q := 75) dX12_common_72 rfl fk_X12_107 hc1 (by decide) (by decide) rfl ?_
        refine sm_iload (q := 77) dX12_common_75 rfl 0 rfl ?_
        refine sm_iconst (v := 0) (q := 78) dX12_common_77 rfl (by decide) ?_
        obtain ⟨hc5, h⟩ := sm_gd_e h
        obtain ⟨I6, hI6, h⟩ := sm_lt_e h
        refine sm_iast (n := (sm_kd (R a0 40)).2) (q := 79) dX12_common_78 rfl (Prod.ext hc5.1 rfl) hc5.2 ?_
        refine sm_memI hI6 ?_
        refine sm_goto (q := 157) dX12_common_79 (by decide) ?_
        refine sm_iinc (v := (a4 + 1)) (L' := [(4, .inl (a4 + 1)), (5, .inl (((9 : Int32) * a3) + a4)), (0, .inr (.inl a0)), (1, .inl a1), (2, .inl a2), (3, .inl a3)]) (q := 160) dX12_common_157 rfl 5 rfl rfl (by decide) rfl ?_
        refine sm_goto (q := 42) dX12_common_160 (by decide) ?_
        refine sm_pick [2, 3, 4, 5, 0] rfl ?_
        exact ih _ _ _ _ _ _ _ h
      · refine sm_if_eq (tgt := 71) (q := 66) dX12_common_63 (by decide) rfl (fun ht => absurd ht hb4) (fun _ => ?_)
        refine sm_iload (q := 68) dX12_common_66 rfl 5 rfl ?_
        rcases sm_if_e h with ⟨hb7, h⟩ | ⟨hb7, h⟩
        · refine sm_if_ne (tgt := 82) (q := 71) dX12_common_68 (by decide) rfl (fun hn => absurd hb7 hn) (fun _ => ?_)
          refine sm_aload_n (q := 72) dX12_common_71 rfl rfl 1 rfl ?_
          refine sm_getR (r := R a0 40) (q := 75) dX12_common_72 rfl fk_X12_107 hc1 (by decide) (by decide) rfl ?_
          refine sm_iload (q := 77) dX12_common_75 rfl 0 rfl ?_
          refine sm_iconst (v := 0) (q := 78) dX12_common_77 rfl (by decide) ?_
          obtain ⟨hc8, h⟩ := sm_gd_e h
          obtain ⟨I9, hI9, h⟩ := sm_lt_e h
          refine sm_iast (n := (sm_kd (R a0 40)).2) (q := 79) dX12_common_78 rfl (Prod.ext hc8.1 rfl) hc8.2 ?_
          refine sm_memI hI9 ?_
          refine sm_goto (q := 157) dX12_common_79 (by decide) ?_
          refine sm_iinc (v := (a4 + 1)) (L' := [(4, .inl (a4 + 1)), (5, .inl (((9 : Int32) * a3) + a4)), (0, .inr (.inl a0)), (1, .inl a1), (2, .inl a2), (3, .inl a3)]) (q := 160) dX12_common_157 rfl 5 rfl rfl (by decide) rfl ?_
          refine sm_goto (q := 42) dX12_common_160 (by decide) ?_
          refine sm_pick [2, 3, 4, 5, 0] rfl ?_
          exact ih _ _ _ _ _ _ _ h
        · refine sm_if_ne (tgt := 82) (q := 71) dX12_common_68 (by decide) rfl (fun _ => ?_) (fun he => absurd he hb7)
          refine sm_aload_n (q := 83) dX12_common_82 rfl rfl 1 rfl ?_
          refine sm_iload_n (q := 84) dX12_common_83 rfl rfl 2 rfl ?_
          refine sm_iload_n (q := 85) dX12_common_84 rfl rfl 4 rfl ?_
          refine sm_iconst (v := 1) (q := 86) dX12_common_85 rfl (by decide) ?_
          refine sm_isub (q := 87) dX12_common_86 rfl ?_
          obtain ⟨p10, hc_p10, h⟩ := sm_bd_e h
          refine sm_callVi (q := 90) (As := [.inl a1, .inl (a3 - (1 : Int32))]) (S := []) (e_X12_hardOf hc_p10) mv_X12_316 hc1 rfl (by decide) (Nat.le_of_ble_eq_true rfl) dX12_common_87 rfl ?_
          refine sm_aload_n (q := 91) dX12_common_90 rfl rfl 1 rfl ?_
          refine sm_iload_n (q := 92) dX12_common_91 rfl rfl 3 rfl ?_
          refine sm_iload (q := 94) dX12_common_92 rfl 5 rfl ?_
          refine sm_iconst (v := 1) (q := 95) dX12_common_94 rfl (by decide) ?_
          refine sm_isub (q := 96) dX12_common_95 rfl ?_
          obtain ⟨p11, hc_p11, h⟩ := sm_bd_e h
          refine sm_callVi (q := 99) (As := [.inl a2, .inl (a4 - (1 : Int32))]) (S := [.inl p10.1]) (e_X12_hardOf hc_p11) mv_X12_316 hc1 rfl (by decide) (Nat.le_of_ble_eq_true rfl) dX12_common_96 rfl ?_
          rcases sm_if_e h with ⟨hb12, h⟩ | ⟨hb12, h⟩
          · refine sm_icmp_ne (tgt := 126) (q := 102) dX12_common_99 (by decide) rfl (fun hn => absurd hb12 hn) (fun _ => ?_)
            refine sm_aload_n (q := 103) dX12_common_102 rfl rfl 1 rfl ?_
            refine sm_getR (r := R a0 40) (q := 106) dX12_common_103 rfl fk_X12_107 hc1 (by decide) (by decide) rfl ?_
            refine sm_iload (q := 108) dX12_common_106 rfl 0 rfl ?_
            refine sm_aload_n (q := 109) dX12_common_108 rfl rfl 1 rfl ?_
            refine sm_getR (r := R a0 40) (q := 112) dX12_common_109 rfl fk_X12_107 hc1 (by decide) (by decide) rfl ?_
            refine sm_iload (q := 114) dX12_common_112 rfl 0 rfl ?_
            refine sm_bipush (v := 8) (q := 116) dX12_common_114 rfl (by decide) ?_
            refine sm_isub (q := 117) dX12_common_116 rfl ?_
            refine sm_iconst (v := 2) (q := 118) dX12_common_117 rfl (by decide) ?_
            refine sm_isub (q := 119) dX12_common_118 rfl ?_
            obtain ⟨hc13, h⟩ := sm_gd_e h
            refine sm_iald (n := (sm_kd (R a0 40)).2) (q := 120) dX12_common_119 rfl (Prod.ext hc13.1 rfl) hc13.2 ?_
            refine sm_iconst (v := 1) (q := 121) dX12_common_120 rfl (by decide) ?_
            refine sm_iadd (q := 122) dX12_common_121 rfl ?_
            obtain ⟨hc14, h⟩ := sm_gd_e h
            obtain ⟨I15, hI15, h⟩ := sm_lt_e h
            refine sm_iast (n := (sm_kd (R a0 40)).2) (q := 123) dX12_common_122 rfl (Prod.ext hc14.1 rfl) hc14.2 ?_
            refine sm_memI hI15 ?_
            refine sm_goto (q := 157) dX12_common_123 (by decide) ?_
            refine sm_iinc (v := (a4 + 1)) (L' := [(4, .inl (a4 + 1)), (5, .inl (((9 : Int32) * a3) + a4)), (0, .inr (.inl a0)), (1, .inl a1), (2, .inl a2), (3, .inl a3)]) (q := 160) dX12_common_157 rfl 5 rfl rfl (by decide) rfl ?_
            refine sm_goto (q := 42) dX12_common_160 (by decide) ?_
            refine sm_pick [2, 3, 4, 5, 0] rfl ?_
            exact ih _ _ _ _ _ _ _ h
          · refine sm_icmp_ne (tgt := 126) (q := 102) dX12_common_99 (by decide) rfl (fun _ => ?_) (fun he => absurd he hb12)
            refine sm_aload_n (q := 127) dX12_common_126 rfl rfl 1 rfl ?_
            refine sm_getR (r := R a0 40) (q := 130) dX12_common_127 rfl fk_X12_107 hc1 (by decide) (by decide) rfl ?_
            refine sm_iload (q := 132) dX12_common_130 rfl 0 rfl ?_
            refine sm_aload_n (q := 133) dX12_common_132 rfl rfl 1 rfl ?_
            refine sm_getR (r := R a0 40) (q := 136) dX12_common_133 rfl fk_X12_107 hc1 (by decide) (by decide) rfl ?_
            refine sm_iload (q := 138) dX12_common_136 rfl 0 rfl ?_
            refine sm_iconst (v := 1) (q := 139) dX12_common_138 rfl (by decide) ?_
            refine sm_isub (q := 140) dX12_common_139 rfl ?_
            obtain ⟨hc16, h⟩ := sm_gd_e h
            refine sm_iald (n := (sm_kd (R a0 40)).2) (q := 141) dX12_common_140 rfl (Prod.ext hc16.1 rfl) hc16.2 ?_
            refine sm_aload_n (q := 142) dX12_common_141 rfl rfl 1 rfl ?_
            refine sm_getR (r := R a0 40) (q := 145) dX12_common_142 rfl fk_X12_107 hc1 (by decide) (by decide) rfl ?_
            refine sm_iload (q := 147) dX12_common_145 rfl 0 rfl ?_
            refine sm_bipush (v := 8) (q := 149) dX12_common_147 rfl (by decide) ?_
            refine sm_isub (q := 150) dX12_common_149 rfl ?_
            refine sm_iconst (v := 1) (q := 151) dX12_common_150 rfl (by decide) ?_
            refine sm_isub (q := 152) dX12_common_151 rfl ?_
            obtain ⟨hc17, h⟩ := sm_gd_e h
            refine sm_iald (n := (sm_kd (R a0 40)).2) (q := 153) dX12_common_152 rfl (Prod.ext hc17.1 rfl) hc17.2 ?_
            refine sm_mmx (q := 156) dX12_common_153 rfl mm_X12_328 (Nat.le_of_ble_eq_true rfl) ?_
            obtain ⟨hc18, h⟩ := sm_gd_e h
            obtain ⟨I19, hI19, h⟩ := sm_lt_e h
            refine sm_iast (n := (sm_kd (R a0 40)).2) (q := 157) dX12_common_156 rfl (Prod.ext hc18.1 rfl) hc18.2 ?_
            refine sm_memI hI19 ?_
            refine sm_iinc (v := (a4 + 1)) (L' := [(4, .inl (a4 + 1)), (5, .inl (((9 : Int32) * a3) + a4)), (0, .inr (.inl a0)), (1, .inl a1), (2, .inl a2), (3, .inl a3)]) (q := 160) dX12_common_157 rfl 5 rfl rfl (by decide) rfl ?_
            refine sm_goto (q := 42) dX12_common_160 (by decide) ?_
            refine sm_pick [2, 3, 4, 5, 0] rfl ?_
            exact ih _ _ _ _ _ _ _ h
set_option maxHeartbeats 4000000 in
set_option maxRecDepth 100000 in
theorem w_X12_common_29 {l : Launch} (N : Nat) (R : Nat → Nat → Nat) : ∀ (n : Nat) (a0 : Nat) (a1 : Int32) (a2 : Int32) (a3 : Int32) (I : (Nat → Nat → Int32)) (y : (Int32 × (Nat → Nat → Int32))), f_X12_common_29 N R n a0 a1 a2 a3 I = some y → sm_W l 2 mX12_common 29 [(0, .inr (.inl a0)), (1, .inl a1), (2, .inl a2), (3, .inl a3)] [] (I, R) (.inl (some (.inl y.1))) (y.2, R) := by
  intro n
  induction n with
  | zero => intro a0 a1 a2 a3 I y h; cases h
  | succ n ih =>
    intro a0 a1 a2 a3 I y h
    rw [f_X12_common_29] at h
    refine sm_iload_n (q := 30) dX12_common_29 rfl rfl 3 rfl ?_
    refine sm_aload_n (q := 31) dX12_common_30 rfl rfl 0 rfl ?_
    obtain ⟨hc1, h⟩ := sm_gd_e h
    refine sm_getR (r := R a0 6) (q := 34) dX12_common_31 rfl fk_X12_47 hc1 (by decide) (by decide) rfl ?_
    refine sm_iload_n (q := 35) dX12_common_34 rfl rfl 1 rfl ?_
    obtain ⟨hc2, h⟩ := sm_gd_e h
    refine sm_iald (n := (sm_kd (R a0 6)).2) (q := 36) dX12_common_35 rfl (Prod.ext hc2.1 rfl) hc2.2 ?_
    rcases sm_if_e h with ⟨hb3, h⟩ | ⟨hb3, h⟩
    · refine sm_icmp_gt (tgt := 169) (q := 39) dX12_common_36 (by decide) rfl (fun _ => ?_) (fun hn => absurd hb3 hn)
      refine sm_aload_n (q := 170) dX12_common_169 rfl rfl 0 rfl ?_
      refine sm_getR (r := R a0 40) (q := 173) dX12_common_170 rfl fk_X12_107 hc1 (by decide) (by decide) rfl ?_
      refine sm_bipush (v := 9) (q := 175) dX12_common_173 rfl (by decide) ?_
      refine sm_aload_n (q := 176) dX12_common_175 rfl rfl 0 rfl ?_
      refine sm_getR (r := R a0 6) (q := 179) dX12_common_176 rfl fk_X12_47 hc1 (by decide) (by decide) rfl ?_
      refine sm_iload_n (q := 180) dX12_common_179 rfl rfl 1 rfl ?_
      refine sm_iald (n := (sm_kd (R a0 6)).2) (q := 181) dX12_common_180 rfl (Prod.ext hc2.1 rfl) hc2.2 ?_
      refine sm_imul (q := 182) dX12_common_181 rfl ?_
      refine sm_aload_n (q := 183) dX12_common_182 rfl rfl 0 rfl ?_
      refine sm_getR (r := R a0 6) (q := 186) dX12_common_183 rfl fk_X12_47 hc1 (by decide) (by decide) rfl ?_
      refine sm_iload_n (q := 187) dX12_common_186 rfl rfl 2 rfl ?_
      obtain ⟨hc4, h⟩ := sm_gd_e h
      refine sm_iald (n := (sm_kd (R a0 6)).2) (q := 188) dX12_common_187 rfl (Prod.ext hc4.1 rfl) hc4.2 ?_
      refine sm_iadd (q := 189) dX12_common_188 rfl ?_
      obtain ⟨hc5, h⟩ := sm_gd_e h
      refine sm_iald (n := (sm_kd (R a0 40)).2) (q := 190) dX12_common_189 rfl (Prod.ext hc5.1 rfl) hc5.2 ?_
      obtain rfl := Option.some.inj h
      exact sm_iret dX12_common_190 rfl
    · refine sm_icmp_gt (tgt := 169) (q := 39) dX12_common_36 (by decide) rfl (fun ht => absurd ht hb3) (fun _ => ?_)
      refine sm_iconst (v := 0) (q := 40) dX12_common_39 rfl (by decide) ?_
      refine sm_istore (L' := [(4, .inl (0 : Int32)), (0, .inr (.inl a0)), (1, .inl a1), (2, .inl a2), (3, .inl a3)]) (q := 42) dX12_common_40 rfl (by decide) rfl ?_
      refine sm_pick [1, 2, 3, 4, 0] rfl ?_
      exact w_X12_common_42 N R (fun z0 z1 z2 z3 J => f_X12_common_29 N R n z0 z1 z2 z3 J) (fun z0 z1 z2 z3 J y h => ih z0 z1 z2 z3 J y h) N _ _ _ _ _ _ _ h
set_option maxHeartbeats 4000000 in
set_option maxRecDepth 100000 in
theorem w_X12_common {l : Launch} (N : Nat) (R : Nat → Nat → Nat) : ∀ (a0 : Nat) (a1 : Int32) (a2 : Int32) (I : (Nat → Nat → Int32)) (y : (Int32 × (Nat → Nat → Int32))), f_X12_common N R a0 a1 a2 I = some y → sm_W l 2 mX12_common 0 [(0, .inr (.inl a0)), (1, .inl a1), (2, .inl a2)] [] (I, R) (.inl (some (.inl y.1))) (y.2, R) := by
  intro a0 a1 a2 I y h
  unfold f_X12_common at h
  refine sm_aload_n (q := 1) dX12_common_0 rfl rfl 0 rfl ?_
  refine sm_iconst (v := 0) (q := 2) dX12_common_1 rfl (by decide) ?_
  obtain ⟨hc1, h⟩ := sm_gd_e h
  obtain ⟨I2, hI2, h⟩ := sm_lt_e h
  refine sm_putI (q := 5) dX12_common_2 rfl fk_X12_152 hc1 (by decide) (by decide) ?_
  refine sm_memI hI2 ?_
  refine sm_aload_n (q := 6) dX12_common_5 rfl rfl 0 rfl ?_
  refine sm_iload_n (q := 7) dX12_common_6 rfl rfl 1 rfl ?_
  obtain ⟨p3, hc_p3, h⟩ := sm_bd_e h
  refine sm_callVi (q := 10) (As := [.inl a1]) (S := []) (e_X12_isPiece hc_p3) mv_X12_367 hc1 rfl (by decide) (Nat.le_of_ble_eq_true rfl) dX12_common_7 rfl ?_
  rcases sm_if_e h with ⟨hb4, h⟩ | ⟨hb4, h⟩
  · refine sm_if_eq (tgt := 21) (q := 13) dX12_common_10 (by decide) rfl (fun _ => ?_) (fun hn => absurd hb4 hn)
    refine sm_aload_n (q := 22) dX12_common_21 rfl rfl 0 rfl ?_
    refine sm_iconst (v := 1) (q := 23) dX12_common_22 rfl (by decide) ?_
    obtain ⟨p5, hc_p5, h⟩ := sm_bd_e h
    refine sm_callVi (q := 26) (As := [.inl (1 : Int32)]) (S := []) (e_X12_fail hc_p5) mv_X12_283 hc1 rfl (by decide) (Nat.le_of_ble_eq_true rfl) dX12_common_23 rfl ?_
    obtain rfl := Option.some.inj h
    exact sm_iret dX12_common_26 rfl
  · refine sm_if_eq (tgt := 21) (q := 13) dX12_common_10 (by decide) rfl (fun ht => absurd ht hb4) (fun _ => ?_)
    refine sm_aload_n (q := 14) dX12_common_13 rfl rfl 0 rfl ?_
    refine sm_iload_n (q := 15) dX12_common_14 rfl rfl 2 rfl ?_
    obtain ⟨p6, hc_p6, h⟩ := sm_bd_e h
    refine sm_callVi (q := 18) (As := [.inl a2]) (S := []) (e_X12_isPiece hc_p6) mv_X12_367 hc1 rfl (by decide) (Nat.le_of_ble_eq_true rfl) dX12_common_15 rfl ?_
    rcases sm_if_e h with ⟨hb7, h⟩ | ⟨hb7, h⟩
    · refine sm_if_ne (tgt := 27) (q := 21) dX12_common_18 (by decide) rfl (fun hn => absurd hb7 hn) (fun _ => ?_)
      refine sm_aload_n (q := 22) dX12_common_21 rfl rfl 0 rfl ?_
      refine sm_iconst (v := 1) (q := 23) dX12_common_22 rfl (by decide) ?_
      obtain ⟨p8, hc_p8, h⟩ := sm_bd_e h
      refine sm_callVi (q := 26) (As := [.inl (1 : Int32)]) (S := []) (e_X12_fail hc_p8) mv_X12_283 hc1 rfl (by decide) (Nat.le_of_ble_eq_true rfl) dX12_common_23 rfl ?_
      obtain rfl := Option.some.inj h
      exact sm_iret dX12_common_26 rfl
    · refine sm_if_ne (tgt := 27) (q := 21) dX12_common_18 (by decide) rfl (fun _ => ?_) (fun he => absurd he hb7)
      refine sm_iconst (v := 0) (q := 28) dX12_common_27 rfl (by decide) ?_
      refine sm_istore_n (L' := [(3, .inl (0 : Int32)), (0, .inr (.inl a0)), (1, .inl a1), (2, .inl a2)]) (q := 29) dX12_common_28 rfl rfl (by decide) rfl ?_
      refine sm_pick [1, 2, 3, 0] rfl ?_
      exact w_X12_common_29 N R N _ _ _ _ _ _ h
theorem e_X12_common {l : Launch} {N : Nat} {R : Nat → Nat → Nat} {a0 : Nat} {a1 : Int32} {a2 : Int32} {I : (Nat → Nat → Int32)} {y : (Int32 × (Nat → Nat → Int32))} (h : f_X12_common N R a0 a1 a2 I = some y) : sm_E l 2 mX12_common [.inr (.inl a0), .inl a1, .inl a2] (I, R) (.inl (some (.inl y.1))) (y.2, R) :=
  sm_meth (by decide) (Nat.le_of_ble_eq_true rfl) (w_X12_common N R a0 a1 a2 I y h)
def f_X12_work_23 (N : Nat) (R : Nat → Nat → Nat) : Nat → Nat → Int32 → Int32 → Int32 → (Nat → Nat → Int32) → Option (Int32 × (Nat → Nat → Int32))
  | 0, _, _, _, _, _ => none
  | n + 1, a0, a1, a2, a3, I =>
    sm_gd (sm_kd a0 = (12, 59)) <|
    sm_gd ((sm_kd (R a0 6)).1 = 13 ∧ ¬ (a1 < 0 ∨ (sm_kd (R a0 6)).2 ≤ (a1).toNatClampNeg)) <|
    if (I (R a0 6) (a1).toNatClampNeg) ≤ a3 then (
      some (a2, I))
    else (
      (f_X12_hardOf N R a0 a1 a3 I).bind fun p4 =>
      f_X12_work_23 N R n a0 a1 (a2 + p4.1) (a3 + 1) p4.2)
def f_X12_work (N : Nat) (R : Nat → Nat → Nat) : Nat → Int32 → (Nat → Nat → Int32) → Option (Int32 × (Nat → Nat → Int32)) := fun a0 a1 I =>
  sm_gd (sm_kd a0 = (12, 59)) <|
  sm_lt (sm_up I a0 (sm_up (I a0) 3 (0 : Int32))) fun I2 =>
  (f_X12_isPiece N R a0 a1 I2).bind fun p3 =>
  if p3.1 = 0 then (
    (f_X12_fail N R a0 (1 : Int32) p3.2).bind fun p5 =>
    some (p5.1, p5.2))
  else (
    f_X12_work_23 N R N a0 a1 (0 : Int32) (0 : Int32) p3.2)
set_option maxHeartbeats 4000000 in
set_option maxRecDepth 100000 in
theorem w_X12_work_23 {l : Launch} (N : Nat) (R : Nat → Nat → Nat) : ∀ (n : Nat) (a0 : Nat) (a1 : Int32) (a2 : Int32) (a3 : Int32) (I : (Nat → Nat → Int32)) (y : (Int32 × (Nat → Nat → Int32))), f_X12_work_23 N R n a0 a1 a2 a3 I = some y → sm_W l 2 mX12_work 23 [(0, .inr (.inl a0)), (1, .inl a1), (2, .inl a2), (3, .inl a3)] [] (I, R) (.inl (some (.inl y.1))) (y.2, R) := by
  intro n
  induction n with
  | zero => intro a0 a1 a2 a3 I y h; cases h
  | succ n ih =>
    intro a0 a1 a2 a3 I y h
    rw [f_X12_work_23] at h
    refine sm_iload_n (q := 24) dX12_work_23 rfl rfl 3 rfl ?_
    refine sm_aload_n (q := 25) dX12_work_24 rfl rfl 0 rfl ?_
    obtain ⟨hc1, h⟩ := sm_gd_e h
    refine sm_getR (r := R a0 6) (q := 28) dX12_work_25 rfl fk_X12_47 hc1 (by decide) (by decide) rfl ?_
    refine sm_iload_n (q := 29) dX12_work_28 rfl rfl 1 rfl ?_
    obtain ⟨hc2, h⟩ := sm_gd_e h
    refine sm_iald (n := (sm_kd (R a0 6)).2) (q := 30) dX12_work_29 rfl (Prod.ext hc2.1 rfl) hc2.2 ?_
    rcases sm_if_e h with ⟨hb3, h⟩ | ⟨hb3, h⟩
    · refine sm_icmp_ge (tgt := 48) (q := 33) dX12_work_30 (by decide) rfl (fun _ => ?_) (fun hn => absurd hb3 hn)
      refine sm_iload_n (q := 49) dX12_work_48 rfl rfl 2 rfl ?_
      obtain rfl := Option.some.inj h
      exact sm_iret dX12_work_49 rfl
    · refine sm_icmp_ge (tgt := 48) (q := 33) dX12_work_30 (by decide) rfl (fun ht => absurd ht hb3) (fun _ => ?_)
      refine sm_iload_n (q := 34) dX12_work_33 rfl rfl 2 rfl ?_
      refine sm_aload_n (q := 35) dX12_work_34 rfl rfl 0 rfl ?_
      refine sm_iload_n (q := 36) dX12_work_35 rfl rfl 1 rfl ?_
      refine sm_iload_n (q := 37) dX12_work_36 rfl rfl 3 rfl ?_
      obtain ⟨p4, hc_p4, h⟩ := sm_bd_e h
      refine sm_callVi (q := 40) (As := [.inl a1, .inl a3]) (S := [.inl a2]) (e_X12_hardOf hc_p4) mv_X12_316 hc1 rfl (by decide) (Nat.le_of_ble_eq_true rfl) dX12_work_37 rfl ?_
      refine sm_iadd (q := 41) dX12_work_40 rfl ?_
      refine sm_istore_n (L' := [(2, .inl (a2 + p4.1)), (0, .inr (.inl a0)), (1, .inl a1), (3, .inl a3)]) (q := 42) dX12_work_41 rfl rfl (by decide) rfl ?_
      refine sm_iinc (v := (a3 + 1)) (L' := [(3, .inl (a3 + 1)), (2, .inl (a2 + p4.1)), (0, .inr (.inl a0)), (1, .inl a1)]) (q := 45) dX12_work_42 rfl 3 rfl rfl (by decide) rfl ?_
      refine sm_goto (q := 23) dX12_work_45 (by decide) ?_
      refine sm_pick [2, 3, 1, 0] rfl ?_
      exact ih _ _ _ _ _ _ h
set_option maxHeartbeats 4000000 in
set_option maxRecDepth 100000 in
theorem w_X12_work {l : Launch} (N : Nat) (R : Nat → Nat → Nat) : ∀ (a0 : Nat) (a1 : Int32) (I : (Nat → Nat → Int32)) (y : (Int32 × (Nat → Nat → Int32))), f_X12_work N R a0 a1 I = some y → sm_W l 2 mX12_work 0 [(0, .inr (.inl a0)), (1, .inl a1)] [] (I, R) (.inl (some (.inl y.1))) (y.2, R) := by
  intro a0 a1 I y h
  unfold f_X12_work at h
  refine sm_aload_n (q := 1) dX12_work_0 rfl rfl 0 rfl ?_
  refine sm_iconst (v := 0) (q := 2) dX12_work_1 rfl (by decide) ?_
  obtain ⟨hc1, h⟩ := sm_gd_e h
  obtain ⟨I2, hI2, h⟩ := sm_lt_e h
  refine sm_putI (q := 5) dX12_work_2 rfl fk_X12_152 hc1 (by decide) (by decide) ?_
  refine sm_memI hI2 ?_
  refine sm_aload_n (q := 6) dX12_work_5 rfl rfl 0 rfl ?_
  refine sm_iload_n (q := 7) dX12_work_6 rfl rfl 1 rfl ?_
  obtain ⟨p3, hc_p3, h⟩ := sm_bd_e h
  refine sm_callVi (q := 10) (As := [.inl a1]) (S := []) (e_X12_isPiece hc_p3) mv_X12_367 hc1 rfl (by decide) (Nat.le_of_ble_eq_true rfl) dX12_work_7 rfl ?_
  rcases sm_if_e h with ⟨hb4, h⟩ | ⟨hb4, h⟩
  · refine sm_if_ne (tgt := 19) (q := 13) dX12_work_10 (by decide) rfl (fun hn => absurd hb4 hn) (fun _ => ?_)
    refine sm_aload_n (q := 14) dX12_work_13 rfl rfl 0 rfl ?_
    refine sm_iconst (v := 1) (q := 15) dX12_work_14 rfl (by decide) ?_
    obtain ⟨p5, hc_p5, h⟩ := sm_bd_e h
    refine sm_callVi (q := 18) (As := [.inl (1 : Int32)]) (S := []) (e_X12_fail hc_p5) mv_X12_283 hc1 rfl (by decide) (Nat.le_of_ble_eq_true rfl) dX12_work_15 rfl ?_
    obtain rfl := Option.some.inj h
    exact sm_iret dX12_work_18 rfl
  · refine sm_if_ne (tgt := 19) (q := 13) dX12_work_10 (by decide) rfl (fun _ => ?_) (fun he => absurd he hb4)
    refine sm_iconst (v := 0) (q := 20) dX12_work_19 rfl (by decide) ?_
    refine sm_istore_n (L' := [(2, .inl (0 : Int32)), (0, .inr (.inl a0)), (1, .inl a1)]) (q := 21) dX12_work_20 rfl rfl (by decide) rfl ?_
    refine sm_iconst (v := 0) (q := 22) dX12_work_21 rfl (by decide) ?_
    refine sm_istore_n (L' := [(3, .inl (0 : Int32)), (2, .inl (0 : Int32)), (0, .inr (.inl a0)), (1, .inl a1)]) (q := 23) dX12_work_22 rfl rfl (by decide) rfl ?_
    refine sm_pick [2, 3, 1, 0] rfl ?_
    exact w_X12_work_23 N R N _ _ _ _ _ _ h
theorem e_X12_work {l : Launch} {N : Nat} {R : Nat → Nat → Nat} {a0 : Nat} {a1 : Int32} {I : (Nat → Nat → Int32)} {y : (Int32 × (Nat → Nat → Int32))} (h : f_X12_work N R a0 a1 I = some y) : sm_E l 2 mX12_work [.inr (.inl a0), .inl a1] (I, R) (.inl (some (.inl y.1))) (y.2, R) :=
  sm_meth (by decide) (Nat.le_of_ble_eq_true rfl) (w_X12_work N R a0 a1 I y h)
def f_X12_mates_23 (N : Nat) (R : Nat → Nat → Nat) : Nat → Nat → Int32 → Int32 → Int32 → (Nat → Nat → Int32) → Option (Int32 × (Nat → Nat → Int32))
  | 0, _, _, _, _, _ => none
  | n + 1, a0, a1, a2, a3, I =>
    sm_gd (sm_kd a0 = (12, 59)) <|
    sm_gd ((sm_kd (R a0 4)).1 = 13 ∧ ¬ ((1 : Int32) < 0 ∨ (sm_kd (R a0 4)).2 ≤ ((1 : Int32)).toNatClampNeg)) <|
    if (I (R a0 4) ((1 : Int32)).toNatClampNeg) ≤ a3 then (
      some (a2, I))
    else (
      if a3 = a1 then (
        f_X12_mates_23 N R n a0 a1 (a2 ||| (0 : Int32)) (a3 + 1) I)
      else (
        sm_gd ((sm_kd (R a0 27)).1 = 13 ∧ ¬ (a3 < 0 ∨ (sm_kd (R a0 27)).2 ≤ (a3).toNatClampNeg)) <|
        sm_gd ((sm_kd (R a0 27)).1 = 13 ∧ ¬ (a1 < 0 ∨ (sm_kd (R a0 27)).2 ≤ (a1).toNatClampNeg)) <|
        if (I (R a0 27) (a3).toNatClampNeg) = (I (R a0 27) (a1).toNatClampNeg) then (
          f_X12_mates_23 N R n a0 a1 (a2 ||| ((1 : Int32) <<< (a3 &&& 31))) (a3 + 1) I)
        else (
          f_X12_mates_23 N R n a0 a1 (a2 ||| (0 : Int32)) (a3 + 1) I)))
def f_X12_mates (N : Nat) (R : Nat → Nat → Nat) : Nat → Int32 → (Nat → Nat → Int32) → Option (Int32 × (Nat → Nat → Int32)) := fun a0 a1 I =>
  sm_gd (sm_kd a0 = (12, 59)) <|
  sm_lt (sm_up I a0 (sm_up (I a0) 3 (0 : Int32))) fun I2 =>
  (f_X12_isPupil N R a0 a1 I2).bind fun p3 =>
  if p3.1 = 0 then (
    (f_X12_fail N R a0 (1 : Int32) p3.2).bind fun p5 =>
    some (p5.1, p5.2))
  else (
    f_X12_mates_23 N R N a0 a1 (0 : Int32) (0 : Int32) p3.2)
set_option maxHeartbeats 4000000 in
set_option maxRecDepth 100000 in
theorem w_X12_mates_23 {l : Launch} (N : Nat) (R : Nat → Nat → Nat) : ∀ (n : Nat) (a0 : Nat) (a1 : Int32) (a2 : Int32) (a3 : Int32) (I : (Nat → Nat → Int32)) (y : (Int32 × (Nat → Nat → Int32))), f_X12_mates_23 N R n a0 a1 a2 a3 I = some y → sm_W l 2 mX12_mates 23 [(0, .inr (.inl a0)), (1, .inl a1), (2, .inl a2), (3, .inl a3)] [] (I, R) (.inl (some (.inl y.1))) (y.2, R) := by
  intro n
  induction n with
  | zero => intro a0 a1 a2 a3 I y h; cases h
  | succ n ih =>
    intro a0 a1 a2 a3 I y h
    rw [f_X12_mates_23] at h
    refine sm_iload_n (q := 24) dX12_mates_23 rfl rfl 3 rfl ?_
    refine sm_aload_n (q := 25) dX12_mates_24 rfl rfl 0 rfl ?_
    obtain ⟨hc1, h⟩ := sm_gd_e h
    refine sm_getR (r := R a0 4) (q := 28) dX12_mates_25 rfl fk_X12_41 hc1 (by decide) (by decide) rfl ?_
    refine sm_iconst (v := 1) (q := 29) dX12_mates_28 rfl (by decide) ?_
    obtain ⟨hc2, h⟩ := sm_gd_e h
    refine sm_iald (n := (sm_kd (R a0 4)).2) (q := 30) dX12_mates_29 rfl (Prod.ext hc2.1 rfl) hc2.2 ?_
    rcases sm_if_e h with ⟨hb3, h⟩ | ⟨hb3, h⟩
    · refine sm_icmp_ge (tgt := 69) (q := 33) dX12_mates_30 (by decide) rfl (fun _ => ?_) (fun hn => absurd hb3 hn)
      refine sm_iload_n (q := 70) dX12_mates_69 rfl rfl 2 rfl ?_
      obtain rfl := Option.some.inj h
      exact sm_iret dX12_mates_70 rfl
    · refine sm_icmp_ge (tgt := 69) (q := 33) dX12_mates_30 (by decide) rfl (fun ht => absurd ht hb3) (fun _ => ?_)
      refine sm_iload_n (q := 34) dX12_mates_33 rfl rfl 2 rfl ?_
      refine sm_iload_n (q := 35) dX12_mates_34 rfl rfl 3 rfl ?_
      refine sm_iload_n (q := 36) dX12_mates_35 rfl rfl 1 rfl ?_
      rcases sm_if_e h with ⟨hb4, h⟩ | ⟨hb4, h⟩
      · refine sm_icmp_eq (tgt := 60) (q := 39) dX12_mates_36 (by decide) rfl (fun _ => ?_) (fun hn => absurd hb4 hn)
        refine sm_iconst (v := 0) (q := 61) dX12_mates_60 rfl (by decide) ?_
        refine sm_ior (q := 62) dX12_mates_61 rfl ?_
        refine sm_istore_n (L' := [(2, .inl (a2 ||| (0 : Int32))), (0, .inr (.inl a0)), (1, .inl a1), (3, .inl a3)]) (q := 63) dX12_mates_62 rfl rfl (by decide) rfl ?_
        refine sm_iinc (v := (a3 + 1)) (L' := [(3, .inl (a3 + 1)), (2, .inl (a2 ||| (0 : Int32))), (0, .inr (.inl a0)), (1, .inl a1)]) (q := 66) dX12_mates_63 rfl 3 rfl rfl (by decide) rfl ?_
        refine sm_goto (q := 23) dX12_mates_66 (by decide) ?_
        refine sm_pick [2, 3, 1, 0] rfl ?_
        exact ih _ _ _ _ _ _ h
      · refine sm_icmp_eq (tgt := 60) (q := 39) dX12_mates_36 (by decide) rfl (fun ht => absurd ht hb4) (fun _ => ?_)
        refine sm_aload_n (q := 40) dX12_mates_39 rfl rfl 0 rfl ?_
        refine sm_getR (r := R a0 27) (q := 43) dX12_mates_40 rfl fk_X12_82 hc1 (by decide) (by decide) rfl ?_
        refine sm_iload_n (q := 44) dX12_mates_43 rfl rfl 3 rfl ?_
        obtain ⟨hc5, h⟩ := sm_gd_e h
        refine sm_iald (n := (sm_kd (R a0 27)).2) (q := 45) dX12_mates_44 rfl (Prod.ext hc5.1 rfl) hc5.2 ?_
        refine sm_aload_n (q := 46) dX12_mates_45 rfl rfl 0 rfl ?_
        refine sm_getR (r := R a0 27) (q := 49) dX12_mates_46 rfl fk_X12_82 hc1 (by decide) (by decide) rfl ?_
        refine sm_iload_n (q := 50) dX12_mates_49 rfl rfl 1 rfl ?_
        obtain ⟨hc6, h⟩ := sm_gd_e h
        refine sm_iald (n := (sm_kd (R a0 27)).2) (q := 51) dX12_mates_50 rfl (Prod.ext hc6.1 rfl) hc6.2 ?_
        rcases sm_if_e h with ⟨hb7, h⟩ | ⟨hb7, h⟩
        · refine sm_icmp_ne (tgt := 60) (q := 54) dX12_mates_51 (by decide) rfl (fun hn => absurd hb7 hn) (fun _ => ?_)
          refine sm_iconst (v := 1) (q := 55) dX12_mates_54 rfl (by decide) ?_
          refine sm_iload_n (q := 56) dX12_mates_55 rfl rfl 3 rfl ?_
          refine sm_ishl (q := 57) dX12_mates_56 rfl ?_
          refine sm_goto (q := 61) dX12_mates_57 (by decide) ?_
          refine sm_ior (q := 62) dX12_mates_61 rfl ?_
          refine sm_istore_n (L' := [(2, .inl (a2 ||| ((1 : Int32) <<< (a3 &&& 31)))), (0, .inr (.inl a0)), (1, .inl a1), (3, .inl a3)]) (q := 63) dX12_mates_62 rfl rfl (by decide) rfl ?_
          refine sm_iinc (v := (a3 + 1)) (L' := [(3, .inl (a3 + 1)), (2, .inl (a2 ||| ((1 : Int32) <<< (a3 &&& 31)))), (0, .inr (.inl a0)), (1, .inl a1)]) (q := 66) dX12_mates_63 rfl 3 rfl rfl (by decide) rfl ?_
          refine sm_goto (q := 23) dX12_mates_66 (by decide) ?_
          refine sm_pick [2, 3, 1, 0] rfl ?_
          exact ih _ _ _ _ _ _ h
        · refine sm_icmp_ne (tgt := 60) (q := 54) dX12_mates_51 (by decide) rfl (fun _ => ?_) (fun he => absurd he hb7)
          refine sm_iconst (v := 0) (q := 61) dX12_mates_60 rfl (by decide) ?_
          refine sm_ior (q := 62) dX12_mates_61 rfl ?_
          refine sm_istore_n (L' := [(2, .inl (a2 ||| (0 : Int32))), (0, .inr (.inl a0)), (1, .inl a1), (3, .inl a3)]) (q := 63) dX12_mates_62 rfl rfl (by decide) rfl ?_
          refine sm_iinc (v := (a3 + 1)) (L' := [(3, .inl (a3 + 1)), (2, .inl (a2 ||| (0 : Int32))), (0, .inr (.inl a0)), (1, .inl a1)]) (q := 66) dX12_mates_63 rfl 3 rfl rfl (by decide) rfl ?_
          refine sm_goto (q := 23) dX12_mates_66 (by decide) ?_
          refine sm_pick [2, 3, 1, 0] rfl ?_
          exact ih _ _ _ _ _ _ h
set_option maxHeartbeats 4000000 in
set_option maxRecDepth 100000 in
theorem w_X12_mates {l : Launch} (N : Nat) (R : Nat → Nat → Nat) : ∀ (a0 : Nat) (a1 : Int32) (I : (Nat → Nat → Int32)) (y : (Int32 × (Nat → Nat → Int32))), f_X12_mates N R a0 a1 I = some y → sm_W l 2 mX12_mates 0 [(0, .inr (.inl a0)), (1, .inl a1)] [] (I, R) (.inl (some (.inl y.1))) (y.2, R) := by
  intro a0 a1 I y h
  unfold f_X12_mates at h
  refine sm_aload_n (q := 1) dX12_mates_0 rfl rfl 0 rfl ?_
  refine sm_iconst (v := 0) (q := 2) dX12_mates_1 rfl (by decide) ?_
  obtain ⟨hc1, h⟩ := sm_gd_e h
  obtain ⟨I2, hI2, h⟩ := sm_lt_e h
  refine sm_putI (q := 5) dX12_mates_2 rfl fk_X12_152 hc1 (by decide) (by decide) ?_
  refine sm_memI hI2 ?_
  refine sm_aload_n (q := 6) dX12_mates_5 rfl rfl 0 rfl ?_
  refine sm_iload_n (q := 7) dX12_mates_6 rfl rfl 1 rfl ?_
  obtain ⟨p3, hc_p3, h⟩ := sm_bd_e h
  refine sm_callVi (q := 10) (As := [.inl a1]) (S := []) (e_X12_isPupil hc_p3) mv_X12_375 hc1 rfl (by decide) (Nat.le_of_ble_eq_true rfl) dX12_mates_7 rfl ?_
  rcases sm_if_e h with ⟨hb4, h⟩ | ⟨hb4, h⟩
  · refine sm_if_ne (tgt := 19) (q := 13) dX12_mates_10 (by decide) rfl (fun hn => absurd hb4 hn) (fun _ => ?_)
    refine sm_aload_n (q := 14) dX12_mates_13 rfl rfl 0 rfl ?_
    refine sm_iconst (v := 1) (q := 15) dX12_mates_14 rfl (by decide) ?_
    obtain ⟨p5, hc_p5, h⟩ := sm_bd_e h
    refine sm_callVi (q := 18) (As := [.inl (1 : Int32)]) (S := []) (e_X12_fail hc_p5) mv_X12_283 hc1 rfl (by decide) (Nat.le_of_ble_eq_true rfl) dX12_mates_15 rfl ?_
    obtain rfl := Option.some.inj h
    exact sm_iret dX12_mates_18 rfl
  · refine sm_if_ne (tgt := 19) (q := 13) dX12_mates_10 (by decide) rfl (fun _ => ?_) (fun he => absurd he hb4)
    refine sm_iconst (v := 0) (q := 20) dX12_mates_19 rfl (by decide) ?_
    refine sm_istore_n (L' := [(2, .inl (0 : Int32)), (0, .inr (.inl a0)), (1, .inl a1)]) (q := 21) dX12_mates_20 rfl rfl (by decide) rfl ?_
    refine sm_iconst (v := 0) (q := 22) dX12_mates_21 rfl (by decide) ?_
    refine sm_istore_n (L' := [(3, .inl (0 : Int32)), (2, .inl (0 : Int32)), (0, .inr (.inl a0)), (1, .inl a1)]) (q := 23) dX12_mates_22 rfl rfl (by decide) rfl ?_
    refine sm_pick [2, 3, 1, 0] rfl ?_
    exact w_X12_mates_23 N R N _ _ _ _ _ _ h
theorem e_X12_mates {l : Launch} {N : Nat} {R : Nat → Nat → Nat} {a0 : Nat} {a1 : Int32} {I : (Nat → Nat → Int32)} {y : (Int32 × (Nat → Nat → Int32))} (h : f_X12_mates N R a0 a1 I = some y) : sm_E l 2 mX12_mates [.inr (.inl a0), .inl a1] (I, R) (.inl (some (.inl y.1))) (y.2, R) :=
  sm_meth (by decide) (Nat.le_of_ble_eq_true rfl) (w_X12_mates N R a0 a1 I y h)
def f_X12_see (N : Nat) (R : Nat → Nat → Nat) : Nat → Int32 → Int32 → Int32 → (Nat → Nat → Int32) → Option (Int32 × (Nat → Nat → Int32)) := fun a0 a1 a2 a3 I =>
  sm_gd (sm_kd a0 = (12, 59)) <|
  sm_lt (sm_up I a0 (sm_up (I a0) 3 (0 : Int32))) fun I2 =>
  (f_X12_isPupil N R a0 a1 I2).bind fun p3 =>
  if p3.1 = 0 then (
    (f_X12_fail N R a0 (1 : Int32) p3.2).bind fun p5 =>
    some (p5.1, p5.2))
  else (
    if (p3.2 a0 34) = (8 : Int32) then (
      (f_X12_refuse N R a0 (2 : Int32) p3.2).bind fun p7 =>
      some (p7.1, p7.2))
    else (
      (f_X12_isIn N R (Int32.toInt64 a3) (0 : Int64) (8 : Int64) p3.2).bind fun p8 =>
      if p8.1 = 0 then (
        (f_X12_refuse N R a0 (2 : Int32) p8.2).bind fun p10 =>
        some (p10.1, p10.2))
      else (
        (f_X12_isIn N R (Int32.toInt64 a2) (1 : Int64) (20 : Int64) p8.2).bind fun p11 =>
        if p11.1 = 0 then (
          (f_X12_refuse N R a0 (2 : Int32) p11.2).bind fun p13 =>
          some (p13.1, p13.2))
        else (
          sm_gd ((sm_kd (R a0 41)).1 = 13 ∧ ¬ ((p11.2 a0 34) < 0 ∨ (sm_kd (R a0 41)).2 ≤ ((p11.2 a0 34)).toNatClampNeg)) <|
          sm_lt (sm_up p11.2 (R a0 41) (sm_up (p11.2 (R a0 41)) ((p11.2 a0 34)).toNatClampNeg a1)) fun I15 =>
          sm_gd ((sm_kd (R a0 42)).1 = 13 ∧ ¬ ((I15 a0 34) < 0 ∨ (sm_kd (R a0 42)).2 ≤ ((I15 a0 34)).toNatClampNeg)) <|
          sm_lt (sm_up I15 (R a0 42) (sm_up (I15 (R a0 42)) ((I15 a0 34)).toNatClampNeg a2)) fun I17 =>
          sm_gd ((sm_kd (R a0 43)).1 = 13 ∧ ¬ ((I17 a0 34) < 0 ∨ (sm_kd (R a0 43)).2 ≤ ((I17 a0 34)).toNatClampNeg)) <|
          sm_lt (sm_up I17 (R a0 43) (sm_up (I17 (R a0 43)) ((I17 a0 34)).toNatClampNeg a3)) fun I19 =>
          sm_lt (sm_up I19 a0 (sm_up (I19 a0) 34 ((I19 a0 34) + (1 : Int32)))) fun I20 =>
          some ((I20 a0 34), I20)))))
set_option maxHeartbeats 4000000 in
set_option maxRecDepth 100000 in
theorem w_X12_see {l : Launch} (N : Nat) (R : Nat → Nat → Nat) : ∀ (a0 : Nat) (a1 : Int32) (a2 : Int32) (a3 : Int32) (I : (Nat → Nat → Int32)) (y : (Int32 × (Nat → Nat → Int32))), f_X12_see N R a0 a1 a2 a3 I = some y → sm_W l 2 mX12_see 0 [(0, .inr (.inl a0)), (1, .inl a1), (2, .inl a2), (3, .inl a3)] [] (I, R) (.inl (some (.inl y.1))) (y.2, R) := by
  intro a0 a1 a2 a3 I y h
  unfold f_X12_see at h
  refine sm_aload_n (q := 1) dX12_see_0 rfl rfl 0 rfl ?_
  refine sm_iconst (v := 0) (q := 2) dX12_see_1 rfl (by decide) ?_
  obtain ⟨hc1, h⟩ := sm_gd_e h
  obtain ⟨I2, hI2, h⟩ := sm_lt_e h
  refine sm_putI (q := 5) dX12_see_2 rfl fk_X12_152 hc1 (by decide) (by decide) ?_
  refine sm_memI hI2 ?_
  refine sm_aload_n (q := 6) dX12_see_5 rfl rfl 0 rfl ?_
  refine sm_iload_n (q := 7) dX12_see_6 rfl rfl 1 rfl ?_
  obtain ⟨p3, hc_p3, h⟩ := sm_bd_e h
  refine sm_callVi (q := 10) (As := [.inl a1]) (S := []) (e_X12_isPupil hc_p3) mv_X12_375 hc1 rfl (by decide) (Nat.le_of_ble_eq_true rfl) dX12_see_7 rfl ?_
  rcases sm_if_e h with ⟨hb4, h⟩ | ⟨hb4, h⟩
  · refine sm_if_ne (tgt := 19) (q := 13) dX12_see_10 (by decide) rfl (fun hn => absurd hb4 hn) (fun _ => ?_)
    refine sm_aload_n (q := 14) dX12_see_13 rfl rfl 0 rfl ?_
    refine sm_iconst (v := 1) (q := 15) dX12_see_14 rfl (by decide) ?_
    obtain ⟨p5, hc_p5, h⟩ := sm_bd_e h
    refine sm_callVi (q := 18) (As := [.inl (1 : Int32)]) (S := []) (e_X12_fail hc_p5) mv_X12_283 hc1 rfl (by decide) (Nat.le_of_ble_eq_true rfl) dX12_see_15 rfl ?_
    obtain rfl := Option.some.inj h
    exact sm_iret dX12_see_18 rfl
  · refine sm_if_ne (tgt := 19) (q := 13) dX12_see_10 (by decide) rfl (fun _ => ?_) (fun he => absurd he hb4)
    refine sm_aload_n (q := 20) dX12_see_19 rfl rfl 0 rfl ?_
    refine sm_getI (q := 23) dX12_see_20 rfl fk_X12_302 hc1 (by decide) (by decide) ?_
    refine sm_bipush (v := 8) (q := 25) dX12_see_23 rfl (by decide) ?_
    rcases sm_if_e h with ⟨hb6, h⟩ | ⟨hb6, h⟩
    · refine sm_icmp_eq (tgt := 52) (q := 28) dX12_see_25 (by decide) rfl (fun _ => ?_) (fun hn => absurd hb6 hn)
      refine sm_aload_n (q := 53) dX12_see_52 rfl rfl 0 rfl ?_
      refine sm_iconst (v := 2) (q := 54) dX12_see_53 rfl (by decide) ?_
      obtain ⟨p7, hc_p7, h⟩ := sm_bd_e h
      refine sm_callVi (q := 57) (As := [.inl (2 : Int32)]) (S := []) (e_X12_refuse hc_p7) mv_X12_384 hc1 rfl (by decide) (Nat.le_of_ble_eq_true rfl) dX12_see_54 rfl ?_
      obtain rfl := Option.some.inj h
      exact sm_iret dX12_see_57 rfl
    · refine sm_icmp_eq (tgt := 52) (q := 28) dX12_see_25 (by decide) rfl (fun ht => absurd ht hb6) (fun _ => ?_)
      refine sm_iload_n (q := 29) dX12_see_28 rfl rfl 3 rfl ?_
      refine sm_i2l (v := (Int32.toInt64 a3)) (q := 30) dX12_see_29 rfl rfl ?_
      refine sm_lconst (v := 0) (q := 31) dX12_see_30 rfl (by decide) ?_
      refine sm_ldc2 (q := 34) dX12_see_31 rfl co_X12_431 ?_
      obtain ⟨p8, hc_p8, h⟩ := sm_bd_e h
      refine sm_callSi (q := 37) (As := [.inr (.inr (Int32.toInt64 a3)), .inr (.inr (0 : Int64)), .inr (.inr (8 : Int64))]) (S := []) (e_X12_isIn hc_p8) ms_X12_155 rfl (by decide) (Nat.le_of_ble_eq_true rfl) dX12_see_34 rfl ?_
      rcases sm_if_e h with ⟨hb9, h⟩ | ⟨hb9, h⟩
      · refine sm_if_eq (tgt := 52) (q := 40) dX12_see_37 (by decide) rfl (fun _ => ?_) (fun hn => absurd hb9 hn)
        refine sm_aload_n (q := 53) dX12_see_52 rfl rfl 0 rfl ?_
        refine sm_iconst (v := 2) (q := 54) dX12_see_53 rfl (by decide) ?_
        obtain ⟨p10, hc_p10, h⟩ := sm_bd_e h
        refine sm_callVi (q := 57) (As := [.inl (2 : Int32)]) (S := []) (e_X12_refuse hc_p10) mv_X12_384 hc1 rfl (by decide) (Nat.le_of_ble_eq_true rfl) dX12_see_54 rfl ?_
        obtain rfl := Option.some.inj h
        exact sm_iret dX12_see_57 rfl
      · refine sm_if_eq (tgt := 52) (q := 40) dX12_see_37 (by decide) rfl (fun ht => absurd ht hb9) (fun _ => ?_)
        refine sm_iload_n (q := 41) dX12_see_40 rfl rfl 2 rfl ?_
        refine sm_i2l (v := (Int32.toInt64 a2)) (q := 42) dX12_see_41 rfl rfl ?_
        refine sm_lconst (v := 1) (q := 43) dX12_see_42 rfl (by decide) ?_
        refine sm_ldc2 (q := 46) dX12_see_43 rfl co_X12_382 ?_
        obtain ⟨p11, hc_p11, h⟩ := sm_bd_e h
        refine sm_callSi (q := 49) (As := [.inr (.inr (Int32.toInt64 a2)), .inr (.inr (1 : Int64)), .inr (.inr (20 : Int64))]) (S := []) (e_X12_isIn hc_p11) ms_X12_155 rfl (by decide) (Nat.le_of_ble_eq_true rfl) dX12_see_46 rfl ?_
        rcases sm_if_e h with ⟨hb12, h⟩ | ⟨hb12, h⟩
        · refine sm_if_ne (tgt := 58) (q := 52) dX12_see_49 (by decide) rfl (fun hn => absurd hb12 hn) (fun _ => ?_)
          refine sm_aload_n (q := 53) dX12_see_52 rfl rfl 0 rfl ?_
          refine sm_iconst (v := 2) (q := 54) dX12_see_53 rfl (by decide) ?_
          obtain ⟨p13, hc_p13, h⟩ := sm_bd_e h
          refine sm_callVi (q := 57) (As := [.inl (2 : Int32)]) (S := []) (e_X12_refuse hc_p13) mv_X12_384 hc1 rfl (by decide) (Nat.le_of_ble_eq_true rfl) dX12_see_54 rfl ?_
          obtain rfl := Option.some.inj h
          exact sm_iret dX12_see_57 rfl
        · refine sm_if_ne (tgt := 58) (q := 52) dX12_see_49 (by decide) rfl (fun _ => ?_) (fun he => absurd he hb12)
          refine sm_aload_n (q := 59) dX12_see_58 rfl rfl 0 rfl ?_
          refine sm_getR (r := R a0 41) (q := 62) dX12_see_59 rfl fk_X12_110 hc1 (by decide) (by decide) rfl ?_
          refine sm_aload_n (q := 63) dX12_see_62 rfl rfl 0 rfl ?_
          refine sm_getI (q := 66) dX12_see_63 rfl fk_X12_302 hc1 (by decide) (by decide) ?_
          refine sm_iload_n (q := 67) dX12_see_66 rfl rfl 1 rfl ?_
          obtain ⟨hc14, h⟩ := sm_gd_e h
          obtain ⟨I15, hI15, h⟩ := sm_lt_e h
          refine sm_iast (n := (sm_kd (R a0 41)).2) (q := 68) dX12_see_67 rfl (Prod.ext hc14.1 rfl) hc14.2 ?_
          refine sm_memI hI15 ?_
          refine sm_aload_n (q := 69) dX12_see_68 rfl rfl 0 rfl ?_
          refine sm_getR (r := R a0 42) (q := 72) dX12_see_69 rfl fk_X12_113 hc1 (by decide) (by decide) rfl ?_
          refine sm_aload_n (q := 73) dX12_see_72 rfl rfl 0 rfl ?_
          refine sm_getI (q := 76) dX12_see_73 rfl fk_X12_302 hc1 (by decide) (by decide) ?_
          refine sm_iload_n (q := 77) dX12_see_76 rfl rfl 2 rfl ?_
          obtain ⟨hc16, h⟩ := sm_gd_e h
          obtain ⟨I17, hI17, h⟩ := sm_lt_e h
          refine sm_iast (n := (sm_kd (R a0 42)).2) (q := 78) dX12_see_77 rfl (Prod.ext hc16.1 rfl) hc16.2 ?_
          refine sm_memI hI17 ?_
          refine sm_aload_n (q := 79) dX12_see_78 rfl rfl 0 rfl ?_
          refine sm_getR (r := R a0 43) (q := 82) dX12_see_79 rfl fk_X12_116 hc1 (by decide) (by decide) rfl ?_
          refine sm_aload_n (q := 83) dX12_see_82 rfl rfl 0 rfl ?_
          refine sm_getI (q := 86) dX12_see_83 rfl fk_X12_302 hc1 (by decide) (by decide) ?_
          refine sm_iload_n (q := 87) dX12_see_86 rfl rfl 3 rfl ?_
          obtain ⟨hc18, h⟩ := sm_gd_e h
          obtain ⟨I19, hI19, h⟩ := sm_lt_e h
          refine sm_iast (n := (sm_kd (R a0 43)).2) (q := 88) dX12_see_87 rfl (Prod.ext hc18.1 rfl) hc18.2 ?_
          refine sm_memI hI19 ?_
          refine sm_aload_n (q := 89) dX12_see_88 rfl rfl 0 rfl ?_
          refine sm_dup (q := 90) dX12_see_89 rfl rfl ?_
          refine sm_getI (q := 93) dX12_see_90 rfl fk_X12_302 hc1 (by decide) (by decide) ?_
          refine sm_iconst (v := 1) (q := 94) dX12_see_93 rfl (by decide) ?_
          refine sm_iadd (q := 95) dX12_see_94 rfl ?_
          obtain ⟨I20, hI20, h⟩ := sm_lt_e h
          refine sm_putI (q := 98) dX12_see_95 rfl fk_X12_302 hc1 (by decide) (by decide) ?_
          refine sm_memI hI20 ?_
          refine sm_aload_n (q := 99) dX12_see_98 rfl rfl 0 rfl ?_
          refine sm_getI (q := 102) dX12_see_99 rfl fk_X12_302 hc1 (by decide) (by decide) ?_
          obtain rfl := Option.some.inj h
          exact sm_iret dX12_see_102 rfl
theorem e_X12_see {l : Launch} {N : Nat} {R : Nat → Nat → Nat} {a0 : Nat} {a1 : Int32} {a2 : Int32} {a3 : Int32} {I : (Nat → Nat → Int32)} {y : (Int32 × (Nat → Nat → Int32))} (h : f_X12_see N R a0 a1 a2 a3 I = some y) : sm_E l 2 mX12_see [.inr (.inl a0), .inl a1, .inl a2, .inl a3] (I, R) (.inl (some (.inl y.1))) (y.2, R) :=
  sm_meth (by decide) (Nat.le_of_ble_eq_true rfl) (w_X12_see N R a0 a1 a2 a3 I y h)
