def f_X12_isAsSeen_29 (N : Nat) (R : Nat → Nat → Nat) (k_13 : Nat → Int32 → Int32 → (Nat → Nat → Int32) → Option (Int32 × (Nat → Nat → Int32))) : Nat → Nat → Int32 → Int32 → Int32 → (Nat → Nat → Int32) → Option (Int32 × (Nat → Nat → Int32))
  | 0, _, _, _, _, _ => none
  | n + 1, a0, a1, a2, a3, I =>
    sm_gd (sm_kd a0 = (12, 59)) <|
    if (I a0 34) ≤ a3 then (
      k_13 a0 a1 (a2 + 1) I)
    else (
      if a1 = 0 then (
        f_X12_isAsSeen_29 N R k_13 n a0 (0 : Int32) a2 (a3 + 1) I)
      else (
        sm_gd ((sm_kd (R a0 42)).1 = 13 ∧ ¬ (a3 < 0 ∨ (sm_kd (R a0 42)).2 ≤ (a3).toNatClampNeg)) <|
        if (I (R a0 42) (a3).toNatClampNeg) = a2 then (
          sm_gd ((sm_kd (R a0 41)).1 = 13 ∧ ¬ (a3 < 0 ∨ (sm_kd (R a0 41)).2 ≤ (a3).toNatClampNeg)) <|
          sm_gd ((sm_kd (R a0 28)).1 = 13 ∧ ¬ ((I (R a0 41) (a3).toNatClampNeg) < 0 ∨ (sm_kd (R a0 28)).2 ≤ ((I (R a0 41) (a3).toNatClampNeg)).toNatClampNeg)) <|
          sm_gd ((sm_kd (R a0 43)).1 = 13 ∧ ¬ (a3 < 0 ∨ (sm_kd (R a0 43)).2 ≤ (a3).toNatClampNeg)) <|
          if (I (R a0 28) ((I (R a0 41) (a3).toNatClampNeg)).toNatClampNeg) = (I (R a0 43) (a3).toNatClampNeg) then (
            f_X12_isAsSeen_29 N R k_13 n a0 (1 : Int32) a2 (a3 + 1) I)
          else (
            f_X12_isAsSeen_29 N R k_13 n a0 (0 : Int32) a2 (a3 + 1) I))
        else (
          f_X12_isAsSeen_29 N R k_13 n a0 (1 : Int32) a2 (a3 + 1) I)))
def f_X12_isAsSeen_13 (N : Nat) (R : Nat → Nat → Nat) : Nat → Nat → Int32 → Int32 → (Nat → Nat → Int32) → Option (Int32 × (Nat → Nat → Int32))
  | 0, _, _, _, _ => none
  | n + 1, a0, a1, a2, I =>
    if (20 : Int32) < a2 then (
      sm_gd (sm_kd a0 = (12, 59)) <|
      (f_X12_unpack N R a0 (R a0 44) (0 : Int32) I).bind fun p3 =>
      sm_gd (a1 = 0 ∨ a1 = 1) <|
      some (a1, p3.2))
    else (
      if a1 = 0 then (
        sm_gd (sm_kd a0 = (12, 59)) <|
        (f_X12_unpack N R a0 (R a0 44) (0 : Int32) I).bind fun p7 =>
        sm_gd (a1 = 0 ∨ a1 = 1) <|
        some (a1, p7.2))
      else (
        sm_gd (sm_kd a0 = (12, 59)) <|
        (f_X12_aWeek N R a0 I).bind fun p10 =>
        f_X12_isAsSeen_29 N R (fun z0 z1 z2 J => f_X12_isAsSeen_13 N R n z0 z1 z2 J) N a0 a1 a2 (0 : Int32) p10.2))
def f_X12_isAsSeen (N : Nat) (R : Nat → Nat → Nat) : Nat → (Nat → Nat → Int32) → Option (Int32 × (Nat → Nat → Int32)) := fun a0 I =>
  sm_gd (sm_kd a0 = (12, 59)) <|
  (f_X12_pack N R a0 (R a0 44) (0 : Int32) I).bind fun p2 =>
  f_X12_isAsSeen_13 N R N a0 (1 : Int32) (1 : Int32) p2.2
set_option maxHeartbeats 4000000 in
set_option maxRecDepth 100000 in
theorem w_X12_isAsSeen_29 {l : Launch} (N : Nat) (R : Nat → Nat → Nat) (k_13 : Nat → Int32 → Int32 → (Nat → Nat → Int32) → Option (Int32 × (Nat → Nat → Int32))) (hk_13 : ∀ (a0 : Nat) (a1 : Int32) (a2 : Int32) (I : (Nat → Nat → Int32)) (y : (Int32 × (Nat → Nat → Int32))), k_13 a0 a1 a2 I = some y → sm_W l 5 mX12_isAsSeen 13 [(0, .inr (.inl a0)), (1, .inl a1), (2, .inl a2)] [] (I, R) (.inl (some (.inl y.1))) (y.2, R)) : ∀ (n : Nat) (a0 : Nat) (a1 : Int32) (a2 : Int32) (a3 : Int32) (I : (Nat → Nat → Int32)) (y : (Int32 × (Nat → Nat → Int32))), f_X12_isAsSeen_29 N R k_13 n a0 a1 a2 a3 I = some y → sm_W l 5 mX12_isAsSeen 29 [(0, .inr (.inl a0)), (1, .inl a1), (2, .inl a2), (3, .inl a3)] [] (I, R) (.inl (some (.inl y.1))) (y.2, R) := by
  intro n
  induction n with
  | zero => intro a0 a1 a2 a3 I y h; cases h
  | succ n ih =>
    intro a0 a1 a2 a3 I y h
    rw [f_X12_isAsSeen_29] at h
    refine sm_iload_n (q := 30) dX12_isAsSeen_29 rfl rfl 3 rfl ?_
    refine sm_aload_n (q := 31) dX12_isAsSeen_30 rfl rfl 0 rfl ?_
    obtain ⟨hc1, h⟩ := sm_gd_e h
    refine sm_getI (q := 34) dX12_isAsSeen_31 rfl fk_X12_302 hc1 (by decide) (by decide) ?_
    rcases sm_if_e h with ⟨hb2, h⟩ | ⟨hb2, h⟩
    · refine sm_icmp_ge (tgt := 83) (q := 37) dX12_isAsSeen_34 (by decide) rfl (fun _ => ?_) (fun hn => absurd hb2 hn)
      refine sm_iinc (v := (a2 + 1)) (L' := [(2, .inl (a2 + 1)), (0, .inr (.inl a0)), (1, .inl a1), (3, .inl a3)]) (q := 86) dX12_isAsSeen_83 rfl 2 rfl rfl (by decide) rfl ?_
      refine sm_goto (q := 13) dX12_isAsSeen_86 (by decide) ?_
      refine sm_pick [1, 2, 0] rfl ?_
      exact hk_13 _ _ _ _ _ h
    · refine sm_icmp_ge (tgt := 83) (q := 37) dX12_isAsSeen_34 (by decide) rfl (fun ht => absurd ht hb2) (fun _ => ?_)
      refine sm_iload_n (q := 38) dX12_isAsSeen_37 rfl rfl 1 rfl ?_
      rcases sm_if_e h with ⟨hb3, h⟩ | ⟨hb3, h⟩
      · refine sm_if_eq (tgt := 75) (q := 41) dX12_isAsSeen_38 (by decide) rfl (fun _ => ?_) (fun hn => absurd hb3 hn)
        refine sm_iconst (v := 0) (q := 76) dX12_isAsSeen_75 rfl (by decide) ?_
        refine sm_istore_n (L' := [(1, .inl (0 : Int32)), (0, .inr (.inl a0)), (2, .inl a2), (3, .inl a3)]) (q := 77) dX12_isAsSeen_76 rfl rfl (by decide) rfl ?_
        refine sm_iinc (v := (a3 + 1)) (L' := [(3, .inl (a3 + 1)), (1, .inl (0 : Int32)), (0, .inr (.inl a0)), (2, .inl a2)]) (q := 80) dX12_isAsSeen_77 rfl 3 rfl rfl (by decide) rfl ?_
        refine sm_goto (q := 29) dX12_isAsSeen_80 (by decide) ?_
        refine sm_pick [2, 1, 3, 0] rfl ?_
        exact ih _ _ _ _ _ _ h
      · refine sm_if_eq (tgt := 75) (q := 41) dX12_isAsSeen_38 (by decide) rfl (fun ht => absurd ht hb3) (fun _ => ?_)
        refine sm_aload_n (q := 42) dX12_isAsSeen_41 rfl rfl 0 rfl ?_
        refine sm_getR (r := R a0 42) (q := 45) dX12_isAsSeen_42 rfl fk_X12_113 hc1 (by decide) (by decide) rfl ?_
        refine sm_iload_n (q := 46) dX12_isAsSeen_45 rfl rfl 3 rfl ?_
        obtain ⟨hc4, h⟩ := sm_gd_e h
        refine sm_iald (n := (sm_kd (R a0 42)).2) (q := 47) dX12_isAsSeen_46 rfl (Prod.ext hc4.1 rfl) hc4.2 ?_
        refine sm_iload_n (q := 48) dX12_isAsSeen_47 rfl rfl 2 rfl ?_
        rcases sm_if_e h with ⟨hb5, h⟩ | ⟨hb5, h⟩
        · refine sm_icmp_ne (tgt := 71) (q := 51) dX12_isAsSeen_48 (by decide) rfl (fun hn => absurd hb5 hn) (fun _ => ?_)
          refine sm_aload_n (q := 52) dX12_isAsSeen_51 rfl rfl 0 rfl ?_
          refine sm_getR (r := R a0 28) (q := 55) dX12_isAsSeen_52 rfl fk_X12_85 hc1 (by decide) (by decide) rfl ?_
          refine sm_aload_n (q := 56) dX12_isAsSeen_55 rfl rfl 0 rfl ?_
          refine sm_getR (r := R a0 41) (q := 59) dX12_isAsSeen_56 rfl fk_X12_110 hc1 (by decide) (by decide) rfl ?_
          refine sm_iload_n (q := 60) dX12_isAsSeen_59 rfl rfl 3 rfl ?_
          obtain ⟨hc6, h⟩ := sm_gd_e h
          refine sm_iald (n := (sm_kd (R a0 41)).2) (q := 61) dX12_isAsSeen_60 rfl (Prod.ext hc6.1 rfl) hc6.2 ?_
          obtain ⟨hc7, h⟩ := sm_gd_e h
          refine sm_iald (n := (sm_kd (R a0 28)).2) (q := 62) dX12_isAsSeen_61 rfl (Prod.ext hc7.1 rfl) hc7.2 ?_
          refine sm_aload_n (q := 63) dX12_isAsSeen_62 rfl rfl 0 rfl ?_
          refine sm_getR (r := R a0 43) (q := 66) dX12_isAsSeen_63 rfl fk_X12_116 hc1 (by decide) (by decide) rfl ?_
          refine sm_iload_n (q := 67) dX12_isAsSeen_66 rfl rfl 3 rfl ?_
          obtain ⟨hc8, h⟩ := sm_gd_e h
          refine sm_iald (n := (sm_kd (R a0 43)).2) (q := 68) dX12_isAsSeen_67 rfl (Prod.ext hc8.1 rfl) hc8.2 ?_
          rcases sm_if_e h with ⟨hb9, h⟩ | ⟨hb9, h⟩
          · refine sm_icmp_ne (tgt := 75) (q := 71) dX12_isAsSeen_68 (by decide) rfl (fun hn => absurd hb9 hn) (fun _ => ?_)
            refine sm_iconst (v := 1) (q := 72) dX12_isAsSeen_71 rfl (by decide) ?_
            refine sm_goto (q := 76) dX12_isAsSeen_72 (by decide) ?_
            refine sm_istore_n (L' := [(1, .inl (1 : Int32)), (0, .inr (.inl a0)), (2, .inl a2), (3, .inl a3)]) (q := 77) dX12_isAsSeen_76 rfl rfl (by decide) rfl ?_
            refine sm_iinc (v := (a3 + 1)) (L' := [(3, .inl (a3 + 1)), (1, .inl (1 : Int32)), (0, .inr (.inl a0)), (2, .inl a2)]) (q := 80) dX12_isAsSeen_77 rfl 3 rfl rfl (by decide) rfl ?_
            refine sm_goto (q := 29) dX12_isAsSeen_80 (by decide) ?_
            refine sm_pick [2, 1, 3, 0] rfl ?_
            exact ih _ _ _ _ _ _ h
          · refine sm_icmp_ne (tgt := 75) (q := 71) dX12_isAsSeen_68 (by decide) rfl (fun _ => ?_) (fun he => absurd he hb9)
            refine sm_iconst (v := 0) (q := 76) dX12_isAsSeen_75 rfl (by decide) ?_
            refine sm_istore_n (L' := [(1, .inl (0 : Int32)), (0, .inr (.inl a0)), (2, .inl a2), (3, .inl a3)]) (q := 77) dX12_isAsSeen_76 rfl rfl (by decide) rfl ?_
            refine sm_iinc (v := (a3 + 1)) (L' := [(3, .inl (a3 + 1)), (1, .inl (0 : Int32)), (0, .inr (.inl a0)), (2, .inl a2)]) (q := 80) dX12_isAsSeen_77 rfl 3 rfl rfl (by decide) rfl ?_
            refine sm_goto (q := 29) dX12_isAsSeen_80 (by decide) ?_
            refine sm_pick [2, 1, 3, 0] rfl ?_
            exact ih _ _ _ _ _ _ h
        · refine sm_icmp_ne (tgt := 71) (q := 51) dX12_isAsSeen_48 (by decide) rfl (fun _ => ?_) (fun he => absurd he hb5)
          refine sm_iconst (v := 1) (q := 72) dX12_isAsSeen_71 rfl (by decide) ?_
          refine sm_goto (q := 76) dX12_isAsSeen_72 (by decide) ?_
          refine sm_istore_n (L' := [(1, .inl (1 : Int32)), (0, .inr (.inl a0)), (2, .inl a2), (3, .inl a3)]) (q := 77) dX12_isAsSeen_76 rfl rfl (by decide) rfl ?_
          refine sm_iinc (v := (a3 + 1)) (L' := [(3, .inl (a3 + 1)), (1, .inl (1 : Int32)), (0, .inr (.inl a0)), (2, .inl a2)]) (q := 80) dX12_isAsSeen_77 rfl 3 rfl rfl (by decide) rfl ?_
          refine sm_goto (q := 29) dX12_isAsSeen_80 (by decide) ?_
          refine sm_pick [2, 1, 3, 0] rfl ?_
          exact ih _ _ _ _ _ _ h
set_option maxHeartbeats 4000000 in
set_option maxRecDepth 100000 in
theorem w_X12_isAsSeen_13 {l : Launch} (N : Nat) (R : Nat → Nat → Nat) : ∀ (n : Nat) (a0 : Nat) (a1 : Int32) (a2 : Int32) (I : (Nat → Nat → Int32)) (y : (Int32 × (Nat → Nat → Int32))), f_X12_isAsSeen_13 N R n a0 a1 a2 I = some y → sm_W l 5 mX12_isAsSeen 13 [(0, .inr (.inl a0)), (1, .inl a1), (2, .inl a2)] [] (I, R) (.inl (some (.inl y.1))) (y.2, R) := by
  intro n
  induction n with
  | zero => intro a0 a1 a2 I y h; cases h
  | succ n ih =>
    intro a0 a1 a2 I y h
    rw [f_X12_isAsSeen_13] at h
    refine sm_iload_n (q := 14) dX12_isAsSeen_13 rfl rfl 2 rfl ?_
    refine sm_bipush (v := 20) (q := 16) dX12_isAsSeen_14 rfl (by decide) ?_
    rcases sm_if_e h with ⟨hb1, h⟩ | ⟨hb1, h⟩
    · refine sm_icmp_gt (tgt := 89) (q := 19) dX12_isAsSeen_16 (by decide) rfl (fun _ => ?_) (fun hn => absurd hb1 hn)
      refine sm_aload_n (q := 90) dX12_isAsSeen_89 rfl rfl 0 rfl ?_
      refine sm_aload_n (q := 91) dX12_isAsSeen_90 rfl rfl 0 rfl ?_
      obtain ⟨hc2, h⟩ := sm_gd_e h
      refine sm_getR (r := R a0 44) (q := 94) dX12_isAsSeen_91 rfl fk_X12_119 hc2 (by decide) (by decide) rfl ?_
      refine sm_iconst (v := 0) (q := 95) dX12_isAsSeen_94 rfl (by decide) ?_
      obtain ⟨p3, hc_p3, h⟩ := sm_bd_e h
      refine sm_callVv (q := 98) (As := [.inr (.inl (R a0 44)), .inl (0 : Int32)]) (S := []) (e_X12_unpack hc_p3) mv_X12_400 hc2 rfl (by decide) (Nat.le_of_ble_eq_true rfl) dX12_isAsSeen_95 rfl ?_
      refine sm_iload_n (q := 99) dX12_isAsSeen_98 rfl rfl 1 rfl ?_
      obtain ⟨hc4, h⟩ := sm_gd_e h
      obtain rfl := Option.some.inj h
      exact sm_zret dX12_isAsSeen_99 rfl hc4
    · refine sm_icmp_gt (tgt := 89) (q := 19) dX12_isAsSeen_16 (by decide) rfl (fun ht => absurd ht hb1) (fun _ => ?_)
      refine sm_iload_n (q := 20) dX12_isAsSeen_19 rfl rfl 1 rfl ?_
      rcases sm_if_e h with ⟨hb5, h⟩ | ⟨hb5, h⟩
      · refine sm_if_eq (tgt := 89) (q := 23) dX12_isAsSeen_20 (by decide) rfl (fun _ => ?_) (fun hn => absurd hb5 hn)
        refine sm_aload_n (q := 90) dX12_isAsSeen_89 rfl rfl 0 rfl ?_
        refine sm_aload_n (q := 91) dX12_isAsSeen_90 rfl rfl 0 rfl ?_
        obtain ⟨hc6, h⟩ := sm_gd_e h
        refine sm_getR (r := R a0 44) (q := 94) dX12_isAsSeen_91 rfl fk_X12_119 hc6 (by decide) (by decide) rfl ?_
        refine sm_iconst (v := 0) (q := 95) dX12_isAsSeen_94 rfl (by decide) ?_
        obtain ⟨p7, hc_p7, h⟩ := sm_bd_e h
        refine sm_callVv (q := 98) (As := [.inr (.inl (R a0 44)), .inl (0 : Int32)]) (S := []) (e_X12_unpack hc_p7) mv_X12_400 hc6 rfl (by decide) (Nat.le_of_ble_eq_true rfl) dX12_isAsSeen_95 rfl ?_
        refine sm_iload_n (q := 99) dX12_isAsSeen_98 rfl rfl 1 rfl ?_
        obtain ⟨hc8, h⟩ := sm_gd_e h
        obtain rfl := Option.some.inj h
        exact sm_zret dX12_isAsSeen_99 rfl hc8
      · refine sm_if_eq (tgt := 89) (q := 23) dX12_isAsSeen_20 (by decide) rfl (fun ht => absurd ht hb5) (fun _ => ?_)
        refine sm_aload_n (q := 24) dX12_isAsSeen_23 rfl rfl 0 rfl ?_
        obtain ⟨hc9, h⟩ := sm_gd_e h
        obtain ⟨p10, hc_p10, h⟩ := sm_bd_e h
        refine sm_callVv (q := 27) (As := []) (S := []) (e_X12_aWeek hc_p10) mv_X12_346 hc9 rfl (by decide) (Nat.le_of_ble_eq_true rfl) dX12_isAsSeen_24 rfl ?_
        refine sm_iconst (v := 0) (q := 28) dX12_isAsSeen_27 rfl (by decide) ?_
        refine sm_istore_n (L' := [(3, .inl (0 : Int32)), (0, .inr (.inl a0)), (1, .inl a1), (2, .inl a2)]) (q := 29) dX12_isAsSeen_28 rfl rfl (by decide) rfl ?_
        refine sm_pick [1, 2, 3, 0] rfl ?_
        exact w_X12_isAsSeen_29 N R (fun z0 z1 z2 J => f_X12_isAsSeen_13 N R n z0 z1 z2 J) (fun z0 z1 z2 J y h => ih z0 z1 z2 J y h) N _ _ _ _ _ _ h
set_option maxHeartbeats 4000000 in
set_option maxRecDepth 100000 in
theorem w_X12_isAsSeen {l : Launch} (N : Nat) (R : Nat → Nat → Nat) : ∀ (a0 : Nat) (I : (Nat → Nat → Int32)) (y : (Int32 × (Nat → Nat → Int32))), f_X12_isAsSeen N R a0 I = some y → sm_W l 5 mX12_isAsSeen 0 [(0, .inr (.inl a0))] [] (I, R) (.inl (some (.inl y.1))) (y.2, R) := by
  intro a0 I y h
  unfold f_X12_isAsSeen at h
  refine sm_aload_n (q := 1) dX12_isAsSeen_0 rfl rfl 0 rfl ?_
  refine sm_aload_n (q := 2) dX12_isAsSeen_1 rfl rfl 0 rfl ?_
  obtain ⟨hc1, h⟩ := sm_gd_e h
  refine sm_getR (r := R a0 44) (q := 5) dX12_isAsSeen_2 rfl fk_X12_119 hc1 (by decide) (by decide) rfl ?_
  refine sm_iconst (v := 0) (q := 6) dX12_isAsSeen_5 rfl (by decide) ?_
  obtain ⟨p2, hc_p2, h⟩ := sm_bd_e h
  refine sm_callVv (q := 9) (As := [.inr (.inl (R a0 44)), .inl (0 : Int32)]) (S := []) (e_X12_pack hc_p2) mv_X12_378 hc1 rfl (by decide) (Nat.le_of_ble_eq_true rfl) dX12_isAsSeen_6 rfl ?_
  refine sm_iconst (v := 1) (q := 10) dX12_isAsSeen_9 rfl (by decide) ?_
  refine sm_istore_n (L' := [(1, .inl (1 : Int32)), (0, .inr (.inl a0))]) (q := 11) dX12_isAsSeen_10 rfl rfl (by decide) rfl ?_
  refine sm_iconst (v := 1) (q := 12) dX12_isAsSeen_11 rfl (by decide) ?_
  refine sm_istore_n (L' := [(2, .inl (1 : Int32)), (1, .inl (1 : Int32)), (0, .inr (.inl a0))]) (q := 13) dX12_isAsSeen_12 rfl rfl (by decide) rfl ?_
  refine sm_pick [2, 1, 0] rfl ?_
  exact w_X12_isAsSeen_13 N R N _ _ _ _ _ h
theorem e_X12_isAsSeen {l : Launch} {N : Nat} {R : Nat → Nat → Nat} {a0 : Nat} {I : (Nat → Nat → Int32)} {y : (Int32 × (Nat → Nat → Int32))} (h : f_X12_isAsSeen N R a0 I = some y) : sm_E l 5 mX12_isAsSeen [.inr (.inl a0)] (I, R) (.inl (some (.inl y.1))) (y.2, R) :=
  sm_meth (by decide) (Nat.le_of_ble_eq_true rfl) (w_X12_isAsSeen N R a0 I y h)
def f_X12_tellFits_26 (N : Nat) (R : Nat → Nat → Nat) (k_7 : Nat → Int32 → (Nat → Nat → Int32) → Option (Unit × (Nat → Nat → Int32))) : Nat → Nat → Int32 → Int32 → Int32 → (Nat → Nat → Int32) → Option (Unit × (Nat → Nat → Int32))
  | 0, _, _, _, _, _ => none
  | n + 1, a0, a1, a2, a3, I =>
    if (20 : Int32) < a3 then (
      k_7 a0 (a1 + 1) I)
    else (
      (f_X12_isOf N R a2 (a3 - (1 : Int32)) I).bind fun p2 =>
      if p2.1 = 0 then (
        sm_gd (sm_kd a0 = (12, 59)) <|
        sm_gd ((sm_kd (R a0 29)).1 = 13 ∧ ¬ (a1 < 0 ∨ (sm_kd (R a0 29)).2 ≤ (a1).toNatClampNeg)) <|
        sm_lt (sm_up p2.2 (R a0 29) (sm_up (p2.2 (R a0 29)) (a1).toNatClampNeg (a2 ||| ((1 : Int32) <<< ((a3 - (1 : Int32)) &&& 31))))) fun I6 =>
        (f_X12_isAsSeen N R a0 I6).bind fun p7 =>
        if p7.1 = 0 then (
          sm_lt (sm_up p7.2 (R a0 29) (sm_up (p7.2 (R a0 29)) (a1).toNatClampNeg a2)) fun I9 =>
          f_X12_tellFits_26 N R k_7 n a0 a1 a2 (a3 + 1) I9)
        else (
          sm_gd ((sm_kd (R a0 45)).1 = 13 ∧ ¬ ((p7.2 a0 47) < 0 ∨ (sm_kd (R a0 45)).2 ≤ ((p7.2 a0 47)).toNatClampNeg)) <|
          sm_lt (sm_up p7.2 (R a0 45) (sm_up (p7.2 (R a0 45)) ((p7.2 a0 47)).toNatClampNeg (((100 : Int32) * a1) + a3))) fun I11 =>
          sm_lt (sm_up I11 a0 (sm_up (I11 a0) 47 ((I11 a0 47) + (1 : Int32)))) fun I12 =>
          sm_lt (sm_up I12 (R a0 29) (sm_up (I12 (R a0 29)) (a1).toNatClampNeg a2)) fun I13 =>
          f_X12_tellFits_26 N R k_7 n a0 a1 a2 (a3 + 1) I13))
      else (
        f_X12_tellFits_26 N R k_7 n a0 a1 a2 (a3 + 1) p2.2))
def f_X12_tellFits_7 (N : Nat) (R : Nat → Nat → Nat) : Nat → Nat → Int32 → (Nat → Nat → Int32) → Option (Unit × (Nat → Nat → Int32))
  | 0, _, _, _ => none
  | n + 1, a0, a1, I =>
    sm_gd (sm_kd a0 = (12, 59)) <|
    sm_gd ((sm_kd (R a0 4)).1 = 13 ∧ ¬ ((1 : Int32) < 0 ∨ (sm_kd (R a0 4)).2 ≤ ((1 : Int32)).toNatClampNeg)) <|
    if (I (R a0 4) ((1 : Int32)).toNatClampNeg) ≤ a1 then (
      some ((), I))
    else (
      sm_gd ((sm_kd (R a0 29)).1 = 13 ∧ ¬ (a1 < 0 ∨ (sm_kd (R a0 29)).2 ≤ (a1).toNatClampNeg)) <|
      f_X12_tellFits_26 N R (fun z0 z1 J => f_X12_tellFits_7 N R n z0 z1 J) N a0 a1 (I (R a0 29) (a1).toNatClampNeg) (1 : Int32) I)
def f_X12_tellFits (N : Nat) (R : Nat → Nat → Nat) : Nat → (Nat → Nat → Int32) → Option (Unit × (Nat → Nat → Int32)) := fun a0 I =>
  sm_gd (sm_kd a0 = (12, 59)) <|
  sm_lt (sm_up I a0 (sm_up (I a0) 47 (0 : Int32))) fun I2 =>
  f_X12_tellFits_7 N R N a0 (0 : Int32) I2
set_option maxHeartbeats 4000000 in
set_option maxRecDepth 100000 in
theorem w_X12_tellFits_26 {l : Launch} (N : Nat) (R : Nat → Nat → Nat) (k_7 : Nat → Int32 → (Nat → Nat → Int32) → Option (Unit × (Nat → Nat → Int32))) (hk_7 : ∀ (a0 : Nat) (a1 : Int32) (I : (Nat → Nat → Int32)) (y : (Unit × (Nat → Nat → Int32))), k_7 a0 a1 I = some y → sm_W l 6 mX12_tellFits 7 [(0, .inr (.inl a0)), (1, .inl a1)] [] (I, R) (.inl none) (y.2, R)) : ∀ (n : Nat) (a0 : Nat) (a1 : Int32) (a2 : Int32) (a3 : Int32) (I : (Nat → Nat → Int32)) (y : (Unit × (Nat → Nat → Int32))), f_X12_tellFits_26 N R k_7 n a0 a1 a2 a3 I = some y → sm_W l 6 mX12_tellFits 26 [(0, .inr (.inl a0)), (1, .inl a1), (2, .inl a2), (3, .inl a3)] [] (I, R) (.inl none) (y.2, R) := by
  intro n
  induction n with
  | zero => intro a0 a1 a2 a3 I y h; cases h
  | succ n ih =>
    intro a0 a1 a2 a3 I y h
    rw [f_X12_tellFits_26] at h
    refine sm_iload_n (q := 27) dX12_tellFits_26 rfl rfl 3 rfl ?_
    refine sm_bipush (v := 20) (q := 29) dX12_tellFits_27 rfl (by decide) ?_
    rcases sm_if_e h with ⟨hb1, h⟩ | ⟨hb1, h⟩
    · refine sm_icmp_gt (tgt := 103) (q := 32) dX12_tellFits_29 (by decide) rfl (fun _ => ?_) (fun hn => absurd hb1 hn)
      refine sm_iinc (v := (a1 + 1)) (L' := [(1, .inl (a1 + 1)), (0, .inr (.inl a0)), (2, .inl a2), (3, .inl a3)]) (q := 106) dX12_tellFits_103 rfl 1 rfl rfl (by decide) rfl ?_
      refine sm_goto (q := 7) dX12_tellFits_106 (by decide) ?_
      refine sm_pick [1, 0] rfl ?_
      exact hk_7 _ _ _ _ h
    · refine sm_icmp_gt (tgt := 103) (q := 32) dX12_tellFits_29 (by decide) rfl (fun ht => absurd ht hb1) (fun _ => ?_)
      refine sm_iload_n (q := 33) dX12_tellFits_32 rfl rfl 2 rfl ?_
      refine sm_iload_n (q := 34) dX12_tellFits_33 rfl rfl 3 rfl ?_
      refine sm_iconst (v := 1) (q := 35) dX12_tellFits_34 rfl (by decide) ?_
      refine sm_isub (q := 36) dX12_tellFits_35 rfl ?_
      obtain ⟨p2, hc_p2, h⟩ := sm_bd_e h
      refine sm_callSi (q := 39) (As := [.inl a2, .inl (a3 - (1 : Int32))]) (S := []) (e_X12_isOf hc_p2) ms_X12_337 rfl (by decide) (Nat.le_of_ble_eq_true rfl) dX12_tellFits_36 rfl ?_
      rcases sm_if_e h with ⟨hb3, h⟩ | ⟨hb3, h⟩
      · refine sm_if_eq (tgt := 45) (q := 42) dX12_tellFits_39 (by decide) rfl (fun _ => ?_) (fun hn => absurd hb3 hn)
        refine sm_aload_n (q := 46) dX12_tellFits_45 rfl rfl 0 rfl ?_
        obtain ⟨hc4, h⟩ := sm_gd_e h
        refine sm_getR (r := R a0 29) (q := 49) dX12_tellFits_46 rfl fk_X12_87 hc4 (by decide) (by decide) rfl ?_
        refine sm_iload_n (q := 50) dX12_tellFits_49 rfl rfl 1 rfl ?_
        refine sm_iload_n (q := 51) dX12_tellFits_50 rfl rfl 2 rfl ?_
        refine sm_iconst (v := 1) (q := 52) dX12_tellFits_51 rfl (by decide) ?_
        refine sm_iload_n (q := 53) dX12_tellFits_52 rfl rfl 3 rfl ?_
        refine sm_iconst (v := 1) (q := 54) dX12_tellFits_53 rfl (by decide) ?_
        refine sm_isub (q := 55) dX12_tellFits_54 rfl ?_
        refine sm_ishl (q := 56) dX12_tellFits_55 rfl ?_
        refine sm_ior (q := 57) dX12_tellFits_56 rfl ?_
        obtain ⟨hc5, h⟩ := sm_gd_e h
        obtain ⟨I6, hI6, h⟩ := sm_lt_e h
        refine sm_iast (n := (sm_kd (R a0 29)).2) (q := 58) dX12_tellFits_57 rfl (Prod.ext hc5.1 rfl) hc5.2 ?_
        refine sm_memI hI6 ?_
        refine sm_aload_n (q := 59) dX12_tellFits_58 rfl rfl 0 rfl ?_
        obtain ⟨p7, hc_p7, h⟩ := sm_bd_e h
        refine sm_callVi (q := 62) (As := []) (S := []) (e_X12_isAsSeen hc_p7) mv_X12_436 hc4 rfl (by decide) (Nat.le_of_ble_eq_true rfl) dX12_tellFits_59 rfl ?_
        rcases sm_if_e h with ⟨hb8, h⟩ | ⟨hb8, h⟩
        · refine sm_if_eq (tgt := 90) (q := 65) dX12_tellFits_62 (by decide) rfl (fun _ => ?_) (fun hn => absurd hb8 hn)
          refine sm_aload_n (q := 91) dX12_tellFits_90 rfl rfl 0 rfl ?_
          refine sm_getR (r := R a0 29) (q := 94) dX12_tellFits_91 rfl fk_X12_87 hc4 (by decide) (by decide) rfl ?_
          refine sm_iload_n (q := 95) dX12_tellFits_94 rfl rfl 1 rfl ?_
          refine sm_iload_n (q := 96) dX12_tellFits_95 rfl rfl 2 rfl ?_
          obtain ⟨I9, hI9, h⟩ := sm_lt_e h
          refine sm_iast (n := (sm_kd (R a0 29)).2) (q := 97) dX12_tellFits_96 rfl (Prod.ext hc5.1 rfl) hc5.2 ?_
          refine sm_memI hI9 ?_
          refine sm_iinc (v := (a3 + 1)) (L' := [(3, .inl (a3 + 1)), (0, .inr (.inl a0)), (1, .inl a1), (2, .inl a2)]) (q := 100) dX12_tellFits_97 rfl 3 rfl rfl (by decide) rfl ?_
          refine sm_goto (q := 26) dX12_tellFits_100 (by decide) ?_
          refine sm_pick [1, 2, 3, 0] rfl ?_
          exact ih _ _ _ _ _ _ h
        · refine sm_if_eq (tgt := 90) (q := 65) dX12_tellFits_62 (by decide) rfl (fun ht => absurd ht hb8) (fun _ => ?_)
          refine sm_aload_n (q := 66) dX12_tellFits_65 rfl rfl 0 rfl ?_
          refine sm_getR (r := R a0 45) (q := 69) dX12_tellFits_66 rfl fk_X12_122 hc4 (by decide) (by decide) rfl ?_
          refine sm_aload_n (q := 70) dX12_tellFits_69 rfl rfl 0 rfl ?_
          refine sm_getI (q := 73) dX12_tellFits_70 rfl fk_X12_433 hc4 (by decide) (by decide) ?_
          refine sm_bipush (v := 100) (q := 75) dX12_tellFits_73 rfl (by decide) ?_
          refine sm_iload_n (q := 76) dX12_tellFits_75 rfl rfl 1 rfl ?_
          refine sm_imul (q := 77) dX12_tellFits_76 rfl ?_
          refine sm_iload_n (q := 78) dX12_tellFits_77 rfl rfl 3 rfl ?_
          refine sm_iadd (q := 79) dX12_tellFits_78 rfl ?_
          obtain ⟨hc10, h⟩ := sm_gd_e h
          obtain ⟨I11, hI11, h⟩ := sm_lt_e h
          refine sm_iast (n := (sm_kd (R a0 45)).2) (q := 80) dX12_tellFits_79 rfl (Prod.ext hc10.1 rfl) hc10.2 ?_
          refine sm_memI hI11 ?_
          refine sm_aload_n (q := 81) dX12_tellFits_80 rfl rfl 0 rfl ?_
          refine sm_dup (q := 82) dX12_tellFits_81 rfl rfl ?_
          refine sm_getI (q := 85) dX12_tellFits_82 rfl fk_X12_433 hc4 (by decide) (by decide) ?_
          refine sm_iconst (v := 1) (q := 86) dX12_tellFits_85 rfl (by decide) ?_
          refine sm_iadd (q := 87) dX12_tellFits_86 rfl ?_
          obtain ⟨I12, hI12, h⟩ := sm_lt_e h
          refine sm_putI (q := 90) dX12_tellFits_87 rfl fk_X12_433 hc4 (by decide) (by decide) ?_
          refine sm_memI hI12 ?_
          refine sm_aload_n (q := 91) dX12_tellFits_90 rfl rfl 0 rfl ?_
          refine sm_getR (r := R a0 29) (q := 94) dX12_tellFits_91 rfl fk_X12_87 hc4 (by decide) (by decide) rfl ?_
          refine sm_iload_n (q := 95) dX12_tellFits_94 rfl rfl 1 rfl ?_
          refine sm_iload_n (q := 96) dX12_tellFits_95 rfl rfl 2 rfl ?_
          obtain ⟨I13, hI13, h⟩ := sm_lt_e h
          refine sm_iast (n := (sm_kd (R a0 29)).2) (q := 97) dX12_tellFits_96 rfl (Prod.ext hc5.1 rfl) hc5.2 ?_
          refine sm_memI hI13 ?_
          refine sm_iinc (v := (a3 + 1)) (L' := [(3, .inl (a3 + 1)), (0, .inr (.inl a0)), (1, .inl a1), (2, .inl a2)]) (q := 100) dX12_tellFits_97 rfl 3 rfl rfl (by decide) rfl ?_
          refine sm_goto (q := 26) dX12_tellFits_100 (by decide) ?_
          refine sm_pick [1, 2, 3, 0] rfl ?_
          exact ih _ _ _ _ _ _ h
      · refine sm_if_eq (tgt := 45) (q := 42) dX12_tellFits_39 (by decide) rfl (fun ht => absurd ht hb3) (fun _ => ?_)
        refine sm_goto (q := 97) dX12_tellFits_42 (by decide) ?_
        refine sm_iinc (v := (a3 + 1)) (L' := [(3, .inl (a3 + 1)), (0, .inr (.inl a0)), (1, .inl a1), (2, .inl a2)]) (q := 100) dX12_tellFits_97 rfl 3 rfl rfl (by decide) rfl ?_
        refine sm_goto (q := 26) dX12_tellFits_100 (by decide) ?_
        refine sm_pick [1, 2, 3, 0] rfl ?_
        exact ih _ _ _ _ _ _ h
set_option maxHeartbeats 4000000 in
set_option maxRecDepth 100000 in
theorem w_X12_tellFits_7 {l : Launch} (N : Nat) (R : Nat → Nat → Nat) : ∀ (n : Nat) (a0 : Nat) (a1 : Int32) (I : (Nat → Nat → Int32)) (y : (Unit × (Nat → Nat → Int32))), f_X12_tellFits_7 N R n a0 a1 I = some y → sm_W l 6 mX12_tellFits 7 [(0, .inr (.inl a0)), (1, .inl a1)] [] (I, R) (.inl none) (y.2, R) := by
  intro n
  induction n with
  | zero => intro a0 a1 I y h; cases h
  | succ n ih =>
    intro a0 a1 I y h
    rw [f_X12_tellFits_7] at h
    refine sm_iload_n (q := 8) dX12_tellFits_7 rfl rfl 1 rfl ?_
    refine sm_aload_n (q := 9) dX12_tellFits_8 rfl rfl 0 rfl ?_
    obtain ⟨hc1, h⟩ := sm_gd_e h
    refine sm_getR (r := R a0 4) (q := 12) dX12_tellFits_9 rfl fk_X12_41 hc1 (by decide) (by decide) rfl ?_
    refine sm_iconst (v := 1) (q := 13) dX12_tellFits_12 rfl (by decide) ?_
    obtain ⟨hc2, h⟩ := sm_gd_e h
    refine sm_iald (n := (sm_kd (R a0 4)).2) (q := 14) dX12_tellFits_13 rfl (Prod.ext hc2.1 rfl) hc2.2 ?_
    rcases sm_if_e h with ⟨hb3, h⟩ | ⟨hb3, h⟩
    · refine sm_icmp_ge (tgt := 109) (q := 17) dX12_tellFits_14 (by decide) rfl (fun _ => ?_) (fun hn => absurd hb3 hn)
      obtain rfl := Option.some.inj h
      exact sm_vret dX12_tellFits_109 rfl
    · refine sm_icmp_ge (tgt := 109) (q := 17) dX12_tellFits_14 (by decide) rfl (fun ht => absurd ht hb3) (fun _ => ?_)
      refine sm_aload_n (q := 18) dX12_tellFits_17 rfl rfl 0 rfl ?_
      refine sm_getR (r := R a0 29) (q := 21) dX12_tellFits_18 rfl fk_X12_87 hc1 (by decide) (by decide) rfl ?_
      refine sm_iload_n (q := 22) dX12_tellFits_21 rfl rfl 1 rfl ?_
      obtain ⟨hc4, h⟩ := sm_gd_e h
      refine sm_iald (n := (sm_kd (R a0 29)).2) (q := 23) dX12_tellFits_22 rfl (Prod.ext hc4.1 rfl) hc4.2 ?_
      refine sm_istore_n (L' := [(2, .inl (I (R a0 29) (a1).toNatClampNeg)), (0, .inr (.inl a0)), (1, .inl a1)]) (q := 24) dX12_tellFits_23 rfl rfl (by decide) rfl ?_
      refine sm_iconst (v := 1) (q := 25) dX12_tellFits_24 rfl (by decide) ?_
      refine sm_istore_n (L' := [(3, .inl (1 : Int32)), (2, .inl (I (R a0 29) (a1).toNatClampNeg)), (0, .inr (.inl a0)), (1, .inl a1)]) (q := 26) dX12_tellFits_25 rfl rfl (by decide) rfl ?_
      refine sm_pick [2, 3, 1, 0] rfl ?_
      exact w_X12_tellFits_26 N R (fun z0 z1 J => f_X12_tellFits_7 N R n z0 z1 J) (fun z0 z1 J y h => ih z0 z1 J y h) N _ _ _ _ _ _ h
set_option maxHeartbeats 4000000 in
set_option maxRecDepth 100000 in
theorem w_X12_tellFits {l : Launch} (N : Nat) (R : Nat → Nat → Nat) : ∀ (a0 : Nat) (I : (Nat → Nat → Int32)) (y : (Unit × (Nat → Nat → Int32))), f_X12_tellFits N R a0 I = some y → sm_W l 6 mX12_tellFits 0 [(0, .inr (.inl a0))] [] (I, R) (.inl none) (y.2, R) := by
  intro a0 I y h
  unfold f_X12_tellFits at h
  refine sm_aload_n (q := 1) dX12_tellFits_0 rfl rfl 0 rfl ?_
  refine sm_iconst (v := 0) (q := 2) dX12_tellFits_1 rfl (by decide) ?_
  obtain ⟨hc1, h⟩ := sm_gd_e h
  obtain ⟨I2, hI2, h⟩ := sm_lt_e h
  refine sm_putI (q := 5) dX12_tellFits_2 rfl fk_X12_433 hc1 (by decide) (by decide) ?_
  refine sm_memI hI2 ?_
  refine sm_iconst (v := 0) (q := 6) dX12_tellFits_5 rfl (by decide) ?_
  refine sm_istore_n (L' := [(1, .inl (0 : Int32)), (0, .inr (.inl a0))]) (q := 7) dX12_tellFits_6 rfl rfl (by decide) rfl ?_
  refine sm_pick [1, 0] rfl ?_
  exact w_X12_tellFits_7 N R N _ _ _ _ h
theorem e_X12_tellFits {l : Launch} {N : Nat} {R : Nat → Nat → Nat} {a0 : Nat} {I : (Nat → Nat → Int32)} {y : (Unit × (Nat → Nat → Int32))} (h : f_X12_tellFits N R a0 I = some y) : sm_E l 6 mX12_tellFits [.inr (.inl a0)] (I, R) (.inl none) (y.2, R) :=
  sm_meth (by decide) (Nat.le_of_ble_eq_true rfl) (w_X12_tellFits N R a0 I y h)
def f_X12_been (N : Nat) (R : Nat → Nat → Nat) : Nat → Int32 → (Nat → Nat → Int32) → Option (Int32 × (Nat → Nat → Int32)) := fun a0 a1 I =>
  sm_gd (sm_kd a0 = (12, 59)) <|
  sm_lt (sm_up I a0 (sm_up (I a0) 3 (0 : Int32))) fun I2 =>
  (f_X12_isIn N R (Int32.toInt64 a1) (0 : Int64) (2 : Int64) I2).bind fun p3 =>
  if p3.1 = 0 then (
    (f_X12_fail N R a0 (1 : Int32) p3.2).bind fun p5 =>
    some (p5.1, p5.2))
  else (
    if a1 = (2 : Int32) then (
      (f_X12_isAsSeen N R a0 p3.2).bind fun p7 =>
      if p7.1 = 0 then (
        some ((0 : Int32), p7.2))
      else (
        some ((1 : Int32), p7.2)))
    else (
      (f_X12_tellFits N R a0 p3.2).bind fun p9 =>
      if a1 = 0 then (
        some ((p9.2 a0 47), p9.2))
      else (
        if (p9.2 a0 47) = 0 then (
          some ((-1 : Int32), p9.2))
        else (
          sm_gd ((sm_kd (R a0 45)).1 = 13 ∧ ¬ ((0 : Int32) < 0 ∨ (sm_kd (R a0 45)).2 ≤ ((0 : Int32)).toNatClampNeg)) <|
          some ((p9.2 (R a0 45) ((0 : Int32)).toNatClampNeg), p9.2)))))
set_option maxHeartbeats 4000000 in
set_option maxRecDepth 100000 in
theorem w_X12_been {l : Launch} (N : Nat) (R : Nat → Nat → Nat) : ∀ (a0 : Nat) (a1 : Int32) (I : (Nat → Nat → Int32)) (y : (Int32 × (Nat → Nat → Int32))), f_X12_been N R a0 a1 I = some y → sm_W l 7 mX12_been 0 [(0, .inr (.inl a0)), (1, .inl a1)] [] (I, R) (.inl (some (.inl y.1))) (y.2, R) := by
  intro a0 a1 I y h
  unfold f_X12_been at h
  refine sm_aload_n (q := 1) dX12_been_0 rfl rfl 0 rfl ?_
  refine sm_iconst (v := 0) (q := 2) dX12_been_1 rfl (by decide) ?_
  obtain ⟨hc1, h⟩ := sm_gd_e h
  obtain ⟨I2, hI2, h⟩ := sm_lt_e h
  refine sm_putI (q := 5) dX12_been_2 rfl fk_X12_152 hc1 (by decide) (by decide) ?_
  refine sm_memI hI2 ?_
  refine sm_iload_n (q := 6) dX12_been_5 rfl rfl 1 rfl ?_
  refine sm_i2l (v := (Int32.toInt64 a1)) (q := 7) dX12_been_6 rfl rfl ?_
  refine sm_lconst (v := 0) (q := 8) dX12_been_7 rfl (by decide) ?_
  refine sm_ldc2 (q := 11) dX12_been_8 rfl co_X12_370 ?_
  obtain ⟨p3, hc_p3, h⟩ := sm_bd_e h
  refine sm_callSi (q := 14) (As := [.inr (.inr (Int32.toInt64 a1)), .inr (.inr (0 : Int64)), .inr (.inr (2 : Int64))]) (S := []) (e_X12_isIn hc_p3) ms_X12_155 rfl (by decide) (Nat.le_of_ble_eq_true rfl) dX12_been_11 rfl ?_
  rcases sm_if_e h with ⟨hb4, h⟩ | ⟨hb4, h⟩
  · refine sm_if_ne (tgt := 23) (q := 17) dX12_been_14 (by decide) rfl (fun hn => absurd hb4 hn) (fun _ => ?_)
    refine sm_aload_n (q := 18) dX12_been_17 rfl rfl 0 rfl ?_
    refine sm_iconst (v := 1) (q := 19) dX12_been_18 rfl (by decide) ?_
    obtain ⟨p5, hc_p5, h⟩ := sm_bd_e h
    refine sm_callVi (q := 22) (As := [.inl (1 : Int32)]) (S := []) (e_X12_fail hc_p5) mv_X12_283 hc1 rfl (by decide) (Nat.le_of_ble_eq_true rfl) dX12_been_19 rfl ?_
    obtain rfl := Option.some.inj h
    exact sm_iret dX12_been_22 rfl
  · refine sm_if_ne (tgt := 23) (q := 17) dX12_been_14 (by decide) rfl (fun _ => ?_) (fun he => absurd he hb4)
    refine sm_iload_n (q := 24) dX12_been_23 rfl rfl 1 rfl ?_
    refine sm_iconst (v := 2) (q := 25) dX12_been_24 rfl (by decide) ?_
    rcases sm_if_e h with ⟨hb6, h⟩ | ⟨hb6, h⟩
    · refine sm_icmp_ne (tgt := 41) (q := 28) dX12_been_25 (by decide) rfl (fun hn => absurd hb6 hn) (fun _ => ?_)
      refine sm_aload_n (q := 29) dX12_been_28 rfl rfl 0 rfl ?_
      obtain ⟨p7, hc_p7, h⟩ := sm_bd_e h
      refine sm_callVi (q := 32) (As := []) (S := []) (e_X12_isAsSeen hc_p7) mv_X12_436 hc1 rfl (by decide) (Nat.le_of_ble_eq_true rfl) dX12_been_29 rfl ?_
      rcases sm_if_e h with ⟨hb8, h⟩ | ⟨hb8, h⟩
      · refine sm_if_eq (tgt := 39) (q := 35) dX12_been_32 (by decide) rfl (fun _ => ?_) (fun hn => absurd hb8 hn)
        refine sm_iconst (v := 0) (q := 40) dX12_been_39 rfl (by decide) ?_
        obtain rfl := Option.some.inj h
        exact sm_iret dX12_been_40 rfl
      · refine sm_if_eq (tgt := 39) (q := 35) dX12_been_32 (by decide) rfl (fun ht => absurd ht hb8) (fun _ => ?_)
        refine sm_iconst (v := 1) (q := 36) dX12_been_35 rfl (by decide) ?_
        refine sm_goto (q := 40) dX12_been_36 (by decide) ?_
        obtain rfl := Option.some.inj h
        exact sm_iret dX12_been_40 rfl
    · refine sm_icmp_ne (tgt := 41) (q := 28) dX12_been_25 (by decide) rfl (fun _ => ?_) (fun he => absurd he hb6)
      refine sm_aload_n (q := 42) dX12_been_41 rfl rfl 0 rfl ?_
      obtain ⟨p9, hc_p9, h⟩ := sm_bd_e h
      refine sm_callVv (q := 45) (As := []) (S := []) (e_X12_tellFits hc_p9) mv_X12_440 hc1 rfl (by decide) (Nat.le_of_ble_eq_true rfl) dX12_been_42 rfl ?_
      refine sm_iload_n (q := 46) dX12_been_45 rfl rfl 1 rfl ?_
      rcases sm_if_e h with ⟨hb10, h⟩ | ⟨hb10, h⟩
      · refine sm_if_ne (tgt := 56) (q := 49) dX12_been_46 (by decide) rfl (fun hn => absurd hb10 hn) (fun _ => ?_)
        refine sm_aload_n (q := 50) dX12_been_49 rfl rfl 0 rfl ?_
        refine sm_getI (q := 53) dX12_been_50 rfl fk_X12_433 hc1 (by decide) (by decide) ?_
        refine sm_goto (q := 73) dX12_been_53 (by decide) ?_
        obtain rfl := Option.some.inj h
        exact sm_iret dX12_been_73 rfl
      · refine sm_if_ne (tgt := 56) (q := 49) dX12_been_46 (by decide) rfl (fun _ => ?_) (fun he => absurd he hb10)
        refine sm_aload_n (q := 57) dX12_been_56 rfl rfl 0 rfl ?_
        refine sm_getI (q := 60) dX12_been_57 rfl fk_X12_433 hc1 (by decide) (by decide) ?_
        rcases sm_if_e h with ⟨hb11, h⟩ | ⟨hb11, h⟩
        · refine sm_if_ne (tgt := 67) (q := 63) dX12_been_60 (by decide) rfl (fun hn => absurd hb11 hn) (fun _ => ?_)
          refine sm_iconst (v := -1) (q := 64) dX12_been_63 rfl (by decide) ?_
          refine sm_goto (q := 73) dX12_been_64 (by decide) ?_
          obtain rfl := Option.some.inj h
          exact sm_iret dX12_been_73 rfl
        · refine sm_if_ne (tgt := 67) (q := 63) dX12_been_60 (by decide) rfl (fun _ => ?_) (fun he => absurd he hb11)
          refine sm_aload_n (q := 68) dX12_been_67 rfl rfl 0 rfl ?_
          refine sm_getR (r := R a0 45) (q := 71) dX12_been_68 rfl fk_X12_122 hc1 (by decide) (by decide) rfl ?_
          refine sm_iconst (v := 0) (q := 72) dX12_been_71 rfl (by decide) ?_
          obtain ⟨hc12, h⟩ := sm_gd_e h
          refine sm_iald (n := (sm_kd (R a0 45)).2) (q := 73) dX12_been_72 rfl (Prod.ext hc12.1 rfl) hc12.2 ?_
          obtain rfl := Option.some.inj h
          exact sm_iret dX12_been_73 rfl
theorem e_X12_been {l : Launch} {N : Nat} {R : Nat → Nat → Nat} {a0 : Nat} {a1 : Int32} {I : (Nat → Nat → Int32)} {y : (Int32 × (Nat → Nat → Int32))} (h : f_X12_been N R a0 a1 I = some y) : sm_E l 7 mX12_been [.inr (.inl a0), .inl a1] (I, R) (.inl (some (.inl y.1))) (y.2, R) :=
  sm_meth (by decide) (Nat.le_of_ble_eq_true rfl) (w_X12_been N R a0 a1 I y h)
def f_X12_unlike_68 (N : Nat) (R : Nat → Nat → Nat) (k_4 : Nat → Int32 → Int32 → Int32 → (Nat → Nat → Int32) → Option (Int32 × (Nat → Nat → Int32))) : Nat → Int32 → Int32 → Int32 → Int32 → (Nat → Nat → Int32) → Option (Int32 × (Nat → Nat → Int32)) := fun a0 a1 a2 a3 a4 I =>
  if a4 = 0 then (
    k_4 a0 a1 (a2 + (0 : Int32)) (a3 + 1) I)
  else (
    k_4 a0 a1 (a2 + (1 : Int32)) (a3 + 1) I)
def f_X12_unlike_18 (N : Nat) (R : Nat → Nat → Nat) (k_4 : Nat → Int32 → Int32 → Int32 → (Nat → Nat → Int32) → Option (Int32 × (Nat → Nat → Int32))) : Nat → Nat → Int32 → Int32 → Int32 → Int32 → Int32 → (Nat → Nat → Int32) → Option (Int32 × (Nat → Nat → Int32))
  | 0, _, _, _, _, _, _, _ => none
  | n + 1, a0, a1, a2, a3, a4, a5, I =>
    if a3 ≤ a5 then (
      f_X12_unlike_68 N R k_4 a0 a1 a2 a3 a4 I)
    else (
      if a4 = 0 then (
        f_X12_unlike_68 N R k_4 a0 a1 a2 a3 a4 I)
      else (
        sm_gd (sm_kd a0 = (12, 59)) <|
        sm_gd ((sm_kd (R a0 46)).1 = 13 ∧ ¬ ((((7 : Int32) * a5) + a1) < 0 ∨ (sm_kd (R a0 46)).2 ≤ ((((7 : Int32) * a5) + a1)).toNatClampNeg)) <|
        sm_gd ((sm_kd (R a0 46)).1 = 13 ∧ ¬ ((((7 : Int32) * a3) + a1) < 0 ∨ (sm_kd (R a0 46)).2 ≤ ((((7 : Int32) * a3) + a1)).toNatClampNeg)) <|
        if (I (R a0 46) ((((7 : Int32) * a5) + a1)).toNatClampNeg) = (I (R a0 46) ((((7 : Int32) * a3) + a1)).toNatClampNeg) then (
          f_X12_unlike_18 N R k_4 n a0 a1 a2 a3 (0 : Int32) (a5 + 1) I)
        else (
          f_X12_unlike_18 N R k_4 n a0 a1 a2 a3 (1 : Int32) (a5 + 1) I)))
def f_X12_unlike_4 (N : Nat) (R : Nat → Nat → Nat) : Nat → Nat → Int32 → Int32 → Int32 → (Nat → Nat → Int32) → Option (Int32 × (Nat → Nat → Int32))
  | 0, _, _, _, _, _ => none
  | n + 1, a0, a1, a2, a3, I =>
    sm_gd (sm_kd a0 = (12, 59)) <|
    if (I a0 47) ≤ a3 then (
      some (a2, I))
    else (
      f_X12_unlike_18 N R (fun z0 z1 z2 z3 J => f_X12_unlike_4 N R n z0 z1 z2 z3 J) N a0 a1 a2 a3 (1 : Int32) (0 : Int32) I)
def f_X12_unlike (N : Nat) (R : Nat → Nat → Nat) : Nat → Int32 → (Nat → Nat → Int32) → Option (Int32 × (Nat → Nat → Int32)) := fun a0 a1 I =>
  f_X12_unlike_4 N R N a0 a1 (0 : Int32) (0 : Int32) I
set_option maxHeartbeats 4000000 in
set_option maxRecDepth 100000 in
theorem w_X12_unlike_68 {l : Launch} (N : Nat) (R : Nat → Nat → Nat) (k_4 : Nat → Int32 → Int32 → Int32 → (Nat → Nat → Int32) → Option (Int32 × (Nat → Nat → Int32))) (hk_4 : ∀ (a0 : Nat) (a1 : Int32) (a2 : Int32) (a3 : Int32) (I : (Nat → Nat → Int32)) (y : (Int32 × (Nat → Nat → Int32))), k_4 a0 a1 a2 a3 I = some y → sm_W l 0 mX12_unlike 4 [(0, .inr (.inl a0)), (1, .inl a1), (2, .inl a2), (3, .inl a3)] [] (I, R) (.inl (some (.inl y.1))) (y.2, R)) : ∀ (a0 : Nat) (a1 : Int32) (a2 : Int32) (a3 : Int32) (a4 : Int32) (I : (Nat → Nat → Int32)) (y : (Int32 × (Nat → Nat → Int32))), f_X12_unlike_68 N R k_4 a0 a1 a2 a3 a4 I = some y → sm_W l 0 mX12_unlike 68 [(0, .inr (.inl a0)), (1, .inl a1), (2, .inl a2), (3, .inl a3), (4, .inl a4)] [] (I, R) (.inl (some (.inl y.1))) (y.2, R) := by
  intro a0 a1 a2 a3 a4 I y h
  unfold f_X12_unlike_68 at h
  refine sm_iload_n (q := 69) dX12_unlike_68 rfl rfl 2 rfl ?_
  refine sm_iload (q := 71) dX12_unlike_69 rfl 4 rfl ?_
  rcases sm_if_e h with ⟨hb1, h⟩ | ⟨hb1, h⟩
  · refine sm_if_eq (tgt := 78) (q := 74) dX12_unlike_71 (by decide) rfl (fun _ => ?_) (fun hn => absurd hb1 hn)
    refine sm_iconst (v := 0) (q := 79) dX12_unlike_78 rfl (by decide) ?_
    refine sm_iadd (q := 80) dX12_unlike_79 rfl ?_
    refine sm_istore_n (L' := [(2, .inl (a2 + (0 : Int32))), (0, .inr (.inl a0)), (1, .inl a1), (3, .inl a3), (4, .inl a4)]) (q := 81) dX12_unlike_80 rfl rfl (by decide) rfl ?_
    refine sm_iinc (v := (a3 + 1)) (L' := [(3, .inl (a3 + 1)), (2, .inl (a2 + (0 : Int32))), (0, .inr (.inl a0)), (1, .inl a1), (4, .inl a4)]) (q := 84) dX12_unlike_81 rfl 3 rfl rfl (by decide) rfl ?_
    refine sm_goto (q := 4) dX12_unlike_84 (by decide) ?_
    refine sm_pick [2, 3, 1, 0] rfl ?_
    exact hk_4 _ _ _ _ _ _ h
  · refine sm_if_eq (tgt := 78) (q := 74) dX12_unlike_71 (by decide) rfl (fun ht => absurd ht hb1) (fun _ => ?_)
    refine sm_iconst (v := 1) (q := 75) dX12_unlike_74 rfl (by decide) ?_
    refine sm_goto (q := 79) dX12_unlike_75 (by decide) ?_
    refine sm_iadd (q := 80) dX12_unlike_79 rfl ?_
    refine sm_istore_n (L' := [(2, .inl (a2 + (1 : Int32))), (0, .inr (.inl a0)), (1, .inl a1), (3, .inl a3), (4, .inl a4)]) (q := 81) dX12_unlike_80 rfl rfl (by decide) rfl ?_
    refine sm_iinc (v := (a3 + 1)) (L' := [(3, .inl (a3 + 1)), (2, .inl (a2 + (1 : Int32))), (0, .inr (.inl a0)), (1, .inl a1), (4, .inl a4)]) (q := 84) dX12_unlike_81 rfl 3 rfl rfl (by decide) rfl ?_
    refine sm_goto (q := 4) dX12_unlike_84 (by decide) ?_
    refine sm_pick [2, 3, 1, 0] rfl ?_
    exact hk_4 _ _ _ _ _ _ h
set_option maxHeartbeats 4000000 in
set_option maxRecDepth 100000 in
theorem w_X12_unlike_18 {l : Launch} (N : Nat) (R : Nat → Nat → Nat) (k_4 : Nat → Int32 → Int32 → Int32 → (Nat → Nat → Int32) → Option (Int32 × (Nat → Nat → Int32))) (hk_4 : ∀ (a0 : Nat) (a1 : Int32) (a2 : Int32) (a3 : Int32) (I : (Nat → Nat → Int32)) (y : (Int32 × (Nat → Nat → Int32))), k_4 a0 a1 a2 a3 I = some y → sm_W l 0 mX12_unlike 4 [(0, .inr (.inl a0)), (1, .inl a1), (2, .inl a2), (3, .inl a3)] [] (I, R) (.inl (some (.inl y.1))) (y.2, R)) : ∀ (n : Nat) (a0 : Nat) (a1 : Int32) (a2 : Int32) (a3 : Int32) (a4 : Int32) (a5 : Int32) (I : (Nat → Nat → Int32)) (y : (Int32 × (Nat → Nat → Int32))), f_X12_unlike_18 N R k_4 n a0 a1 a2 a3 a4 a5 I = some y → sm_W l 0 mX12_unlike 18 [(0, .inr (.inl a0)), (1, .inl a1), (2, .inl a2), (3, .inl a3), (4, .inl a4), (5, .inl a5)] [] (I, R) (.inl (some (.inl y.1))) (y.2, R) := by
  intro n
  induction n with
  | zero => intro a0 a1 a2 a3 a4 a5 I y h; cases h
  | succ n ih =>
    intro a0 a1 a2 a3 a4 a5 I y h
    rw [f_X12_unlike_18] at h
    refine sm_iload (q := 20) dX12_unlike_18 rfl 5 rfl ?_
    refine sm_iload_n (q := 21) dX12_unlike_20 rfl rfl 3 rfl ?_
    rcases sm_if_e h with ⟨hb1, h⟩ | ⟨hb1, h⟩
    · refine sm_icmp_ge (tgt := 68) (q := 24) dX12_unlike_21 (by decide) rfl (fun _ => ?_) (fun hn => absurd hb1 hn)
      refine sm_pick [0, 1, 2, 3, 4] rfl ?_
      exact w_X12_unlike_68 N R k_4 hk_4 _ _ _ _ _ _ _ h
    · refine sm_icmp_ge (tgt := 68) (q := 24) dX12_unlike_21 (by decide) rfl (fun ht => absurd ht hb1) (fun _ => ?_)
      refine sm_iload (q := 26) dX12_unlike_24 rfl 4 rfl ?_
      rcases sm_if_e h with ⟨hb2, h⟩ | ⟨hb2, h⟩
      · refine sm_if_eq (tgt := 68) (q := 29) dX12_unlike_26 (by decide) rfl (fun _ => ?_) (fun hn => absurd hb2 hn)
        refine sm_pick [0, 1, 2, 3, 4] rfl ?_
        exact w_X12_unlike_68 N R k_4 hk_4 _ _ _ _ _ _ _ h
      · refine sm_if_eq (tgt := 68) (q := 29) dX12_unlike_26 (by decide) rfl (fun ht => absurd ht hb2) (fun _ => ?_)
        refine sm_aload_n (q := 30) dX12_unlike_29 rfl rfl 0 rfl ?_
        obtain ⟨hc3, h⟩ := sm_gd_e h
        refine sm_getR (r := R a0 46) (q := 33) dX12_unlike_30 rfl fk_X12_125 hc3 (by decide) (by decide) rfl ?_
        refine sm_bipush (v := 7) (q := 35) dX12_unlike_33 rfl (by decide) ?_
        refine sm_iload (q := 37) dX12_unlike_35 rfl 5 rfl ?_
        refine sm_imul (q := 38) dX12_unlike_37 rfl ?_
        refine sm_iload_n (q := 39) dX12_unlike_38 rfl rfl 1 rfl ?_
        refine sm_iadd (q := 40) dX12_unlike_39 rfl ?_
        obtain ⟨hc4, h⟩ := sm_gd_e h
        refine sm_iald (n := (sm_kd (R a0 46)).2) (q := 41) dX12_unlike_40 rfl (Prod.ext hc4.1 rfl) hc4.2 ?_
        refine sm_aload_n (q := 42) dX12_unlike_41 rfl rfl 0 rfl ?_
        refine sm_getR (r := R a0 46) (q := 45) dX12_unlike_42 rfl fk_X12_125 hc3 (by decide) (by decide) rfl ?_
        refine sm_bipush (v := 7) (q := 47) dX12_unlike_45 rfl (by decide) ?_
        refine sm_iload_n (q := 48) dX12_unlike_47 rfl rfl 3 rfl ?_
        refine sm_imul (q := 49) dX12_unlike_48 rfl ?_
        refine sm_iload_n (q := 50) dX12_unlike_49 rfl rfl 1 rfl ?_
        refine sm_iadd (q := 51) dX12_unlike_50 rfl ?_
        obtain ⟨hc5, h⟩ := sm_gd_e h
        refine sm_iald (n := (sm_kd (R a0 46)).2) (q := 52) dX12_unlike_51 rfl (Prod.ext hc5.1 rfl) hc5.2 ?_
        rcases sm_if_e h with ⟨hb6, h⟩ | ⟨hb6, h⟩
        · refine sm_icmp_eq (tgt := 59) (q := 55) dX12_unlike_52 (by decide) rfl (fun _ => ?_) (fun hn => absurd hb6 hn)
          refine sm_iconst (v := 0) (q := 60) dX12_unlike_59 rfl (by decide) ?_
          refine sm_istore (L' := [(4, .inl (0 : Int32)), (0, .inr (.inl a0)), (1, .inl a1), (2, .inl a2), (3, .inl a3), (5, .inl a5)]) (q := 62) dX12_unlike_60 rfl (by decide) rfl ?_
          refine sm_iinc (v := (a5 + 1)) (L' := [(5, .inl (a5 + 1)), (4, .inl (0 : Int32)), (0, .inr (.inl a0)), (1, .inl a1), (2, .inl a2), (3, .inl a3)]) (q := 65) dX12_unlike_62 rfl 5 rfl rfl (by decide) rfl ?_
          refine sm_goto (q := 18) dX12_unlike_65 (by decide) ?_
          refine sm_pick [2, 3, 4, 5, 1, 0] rfl ?_
          exact ih _ _ _ _ _ _ _ _ h
        · refine sm_icmp_eq (tgt := 59) (q := 55) dX12_unlike_52 (by decide) rfl (fun ht => absurd ht hb6) (fun _ => ?_)
          refine sm_iconst (v := 1) (q := 56) dX12_unlike_55 rfl (by decide) ?_
          refine sm_goto (q := 60) dX12_unlike_56 (by decide) ?_
          refine sm_istore (L' := [(4, .inl (1 : Int32)), (0, .inr (.inl a0)), (1, .inl a1), (2, .inl a2), (3, .inl a3), (5, .inl a5)]) (q := 62) dX12_unlike_60 rfl (by decide) rfl ?_
          refine sm_iinc (v := (a5 + 1)) (L' := [(5, .inl (a5 + 1)), (4, .inl (1 : Int32)), (0, .inr (.inl a0)), (1, .inl a1), (2, .inl a2), (3, .inl a3)]) (q := 65) dX12_unlike_62 rfl 5 rfl rfl (by decide) rfl ?_
          refine sm_goto (q := 18) dX12_unlike_65 (by decide) ?_
          refine sm_pick [2, 3, 4, 5, 1, 0] rfl ?_
          exact ih _ _ _ _ _ _ _ _ h
set_option maxHeartbeats 4000000 in
set_option maxRecDepth 100000 in
theorem w_X12_unlike_4 {l : Launch} (N : Nat) (R : Nat → Nat → Nat) : ∀ (n : Nat) (a0 : Nat) (a1 : Int32) (a2 : Int32) (a3 : Int32) (I : (Nat → Nat → Int32)) (y : (Int32 × (Nat → Nat → Int32))), f_X12_unlike_4 N R n a0 a1 a2 a3 I = some y → sm_W l 0 mX12_unlike 4 [(0, .inr (.inl a0)), (1, .inl a1), (2, .inl a2), (3, .inl a3)] [] (I, R) (.inl (some (.inl y.1))) (y.2, R) := by
  intro n
  induction n with
  | zero => intro a0 a1 a2 a3 I y h; cases h
  | succ n ih =>
    intro a0 a1 a2 a3 I y h
    rw [f_X12_unlike_4] at h
    refine sm_iload_n (q := 5) dX12_unlike_4 rfl rfl 3 rfl ?_
    refine sm_aload_n (q := 6) dX12_unlike_5 rfl rfl 0 rfl ?_
    obtain ⟨hc1, h⟩ := sm_gd_e h
    refine sm_getI (q := 9) dX12_unlike_6 rfl fk_X12_433 hc1 (by decide) (by decide) ?_
    rcases sm_if_e h with ⟨hb2, h⟩ | ⟨hb2, h⟩
    · refine sm_icmp_ge (tgt := 87) (q := 12) dX12_unlike_9 (by decide) rfl (fun _ => ?_) (fun hn => absurd hb2 hn)
      refine sm_iload_n (q := 88) dX12_unlike_87 rfl rfl 2 rfl ?_
      obtain rfl := Option.some.inj h
      exact sm_iret dX12_unlike_88 rfl
    · refine sm_icmp_ge (tgt := 87) (q := 12) dX12_unlike_9 (by decide) rfl (fun ht => absurd ht hb2) (fun _ => ?_)
      refine sm_iconst (v := 1) (q := 13) dX12_unlike_12 rfl (by decide) ?_
      refine sm_istore (L' := [(4, .inl (1 : Int32)), (0, .inr (.inl a0)), (1, .inl a1), (2, .inl a2), (3, .inl a3)]) (q := 15) dX12_unlike_13 rfl (by decide) rfl ?_
      refine sm_iconst (v := 0) (q := 16) dX12_unlike_15 rfl (by decide) ?_
      refine sm_istore (L' := [(5, .inl (0 : Int32)), (4, .inl (1 : Int32)), (0, .inr (.inl a0)), (1, .inl a1), (2, .inl a2), (3, .inl a3)]) (q := 18) dX12_unlike_16 rfl (by decide) rfl ?_
      refine sm_pick [2, 3, 4, 5, 1, 0] rfl ?_
      exact w_X12_unlike_18 N R (fun z0 z1 z2 z3 J => f_X12_unlike_4 N R n z0 z1 z2 z3 J) (fun z0 z1 z2 z3 J y h => ih z0 z1 z2 z3 J y h) N _ _ _ _ _ _ _ _ h
set_option maxHeartbeats 4000000 in
set_option maxRecDepth 100000 in
theorem w_X12_unlike {l : Launch} (N : Nat) (R : Nat → Nat → Nat) : ∀ (a0 : Nat) (a1 : Int32) (I : (Nat → Nat → Int32)) (y : (Int32 × (Nat → Nat → Int32))), f_X12_unlike N R a0 a1 I = some y → sm_W l 0 mX12_unlike 0 [(0, .inr (.inl a0)), (1, .inl a1)] [] (I, R) (.inl (some (.inl y.1))) (y.2, R) := by
  intro a0 a1 I y h
  unfold f_X12_unlike at h
  refine sm_iconst (v := 0) (q := 1) dX12_unlike_0 rfl (by decide) ?_
  refine sm_istore_n (L' := [(2, .inl (0 : Int32)), (0, .inr (.inl a0)), (1, .inl a1)]) (q := 2) dX12_unlike_1 rfl rfl (by decide) rfl ?_
  refine sm_iconst (v := 0) (q := 3) dX12_unlike_2 rfl (by decide) ?_
  refine sm_istore_n (L' := [(3, .inl (0 : Int32)), (2, .inl (0 : Int32)), (0, .inr (.inl a0)), (1, .inl a1)]) (q := 4) dX12_unlike_3 rfl rfl (by decide) rfl ?_
  refine sm_pick [2, 3, 1, 0] rfl ?_
  exact w_X12_unlike_4 N R N _ _ _ _ _ _ h
theorem e_X12_unlike {l : Launch} {N : Nat} {R : Nat → Nat → Nat} {a0 : Nat} {a1 : Int32} {I : (Nat → Nat → Int32)} {y : (Int32 × (Nat → Nat → Int32))} (h : f_X12_unlike N R a0 a1 I = some y) : sm_E l 0 mX12_unlike [.inr (.inl a0), .inl a1] (I, R) (.inl (some (.inl y.1))) (y.2, R) :=
  sm_meth (by decide) (Nat.le_of_ble_eq_true rfl) (w_X12_unlike N R a0 a1 I y h)
def f_X12_listen_81 (N : Nat) (R : Nat → Nat → Nat) (k_35 : Nat → Int32 → Int32 → (Nat → Nat → Int32) → Option (Int32 × (Nat → Nat → Int32))) : Nat → Nat → Int32 → Int32 → Int32 → (Nat → Nat → Int32) → Option (Int32 × (Nat → Nat → Int32))
  | 0, _, _, _, _, _ => none
  | n + 1, a0, a1, a2, a3, I =>
    if (7 : Int32) ≤ a3 then (
      sm_gd (sm_kd a0 = (12, 59)) <|
      (f_X12_unpack N R a0 (R a0 37) (0 : Int32) I).bind fun p3 =>
      k_35 a0 a1 (a2 + 1) p3.2)
    else (
      sm_gd (sm_kd a0 = (12, 59)) <|
      sm_gd ((sm_kd (R a0 25)).1 = 13 ∧ ¬ (a3 < 0 ∨ (sm_kd (R a0 25)).2 ≤ (a3).toNatClampNeg)) <|
      sm_gd ((sm_kd (R a0 46)).1 = 13 ∧ ¬ ((((7 : Int32) * a2) + a3) < 0 ∨ (sm_kd (R a0 46)).2 ≤ ((((7 : Int32) * a2) + a3)).toNatClampNeg)) <|
      sm_lt (sm_up I (R a0 46) (sm_up (I (R a0 46)) ((((7 : Int32) * a2) + a3)).toNatClampNeg (I (R a0 25) (a3).toNatClampNeg))) fun I7 =>
      f_X12_listen_81 N R k_35 n a0 a1 a2 (a3 + 1) I7)
def f_X12_listen_132 (N : Nat) (R : Nat → Nat → Nat) : Nat → Nat → Int32 → Int32 → Int32 → Int32 → (Nat → Nat → Int32) → Option (Int32 × (Nat → Nat → Int32))
  | 0, _, _, _, _, _, _ => none
  | n + 1, a0, a1, a2, a3, a4, I =>
    sm_gd (sm_kd a0 = (12, 59)) <|
    sm_gd ((sm_kd (R a0 4)).1 = 13 ∧ ¬ ((1 : Int32) < 0 ∨ (sm_kd (R a0 4)).2 ≤ ((1 : Int32)).toNatClampNeg)) <|
    if (I (R a0 4) ((1 : Int32)).toNatClampNeg) ≤ a4 then (
      if a1 = 0 then (
        some (a2, I))
      else (
        some (a3, I)))
    else (
      (f_X12_unlike N R a0 a4 I).bind fun p5 =>
      if a3 < p5.1 then (
        f_X12_listen_132 N R n a0 a1 a4 p5.1 (a4 + 1) p5.2)
      else (
        f_X12_listen_132 N R n a0 a1 a2 a3 (a4 + 1) p5.2))
def f_X12_listen_35 (N : Nat) (R : Nat → Nat → Nat) : Nat → Nat → Int32 → Int32 → (Nat → Nat → Int32) → Option (Int32 × (Nat → Nat → Int32))
  | 0, _, _, _, _ => none
  | n + 1, a0, a1, a2, I =>
    sm_gd (sm_kd a0 = (12, 59)) <|
    if (I a0 47) ≤ a2 then (
      f_X12_listen_132 N R N a0 a1 (-1 : Int32) (0 : Int32) (0 : Int32) I)
    else (
      sm_gd ((sm_kd (R a0 45)).1 = 13 ∧ ¬ (a2 < 0 ∨ (sm_kd (R a0 45)).2 ≤ (a2).toNatClampNeg)) <|
      sm_gd ((sm_kd (R a0 29)).1 = 13 ∧ ¬ (((I (R a0 45) (a2).toNatClampNeg) / (100 : Int32)) < 0 ∨ (sm_kd (R a0 29)).2 ≤ (((I (R a0 45) (a2).toNatClampNeg) / (100 : Int32))).toNatClampNeg)) <|
      sm_lt (sm_up I (R a0 29) (sm_up (I (R a0 29)) (((I (R a0 45) (a2).toNatClampNeg) / (100 : Int32))).toNatClampNeg ((I (R a0 29) (((I (R a0 45) (a2).toNatClampNeg) / (100 : Int32))).toNatClampNeg) ||| ((1 : Int32) <<< ((((I (R a0 45) (a2).toNatClampNeg) - (I (R a0 45) (a2).toNatClampNeg) / (100 : Int32) * (100 : Int32)) - (1 : Int32)) &&& 31))))) fun I5 =>
      (f_X12_goOn N R a0 (20 : Int32) I5).bind fun p6 =>
      f_X12_listen_81 N R (fun z0 z1 z2 J => f_X12_listen_35 N R n z0 z1 z2 J) N a0 a1 a2 (0 : Int32) p6.2)
def f_X12_listen (N : Nat) (R : Nat → Nat → Nat) : Nat → Int32 → (Nat → Nat → Int32) → Option (Int32 × (Nat → Nat → Int32)) := fun a0 a1 I =>
  sm_gd (sm_kd a0 = (12, 59)) <|
  sm_lt (sm_up I a0 (sm_up (I a0) 3 (0 : Int32))) fun I2 =>
  if a1 < 0 then (
    (f_X12_fail N R a0 (1 : Int32) I2).bind fun p4 =>
    some (p4.1, p4.2))
  else (
    if a1 ≤ (1 : Int32) then (
      (f_X12_tellFits N R a0 I2).bind fun p6 =>
      (f_X12_pack N R a0 (R a0 37) (0 : Int32) p6.2).bind fun p7 =>
      f_X12_listen_35 N R N a0 a1 (0 : Int32) p7.2)
    else (
      (f_X12_fail N R a0 (1 : Int32) I2).bind fun p8 =>
      some (p8.1, p8.2)))
set_option maxHeartbeats 4000000 in
set_option maxRecDepth 100000 in
theorem w_X12_listen_81 {l : Launch} (N : Nat) (R : Nat → Nat → Nat) (k_35 : Nat → Int32 → Int32 → (Nat → Nat → Int32) → Option (Int32 × (Nat → Nat → Int32))) (hk_35 : ∀ (a0 : Nat) (a1 : Int32) (a2 : Int32) (I : (Nat → Nat → Int32)) (y : (Int32 × (Nat → Nat → Int32))), k_35 a0 a1 a2 I = some y → sm_W l 7 mX12_listen 35 [(0, .inr (.inl a0)), (1, .inl a1), (2, .inl a2)] [] (I, R) (.inl (some (.inl y.1))) (y.2, R)) : ∀ (n : Nat) (a0 : Nat) (a1 : Int32) (a2 : Int32) (a3 : Int32) (I : (Nat → Nat → Int32)) (y : (Int32 × (Nat → Nat → Int32))), f_X12_listen_81 N R k_35 n a0 a1 a2 a3 I = some y → sm_W l 7 mX12_listen 81 [(0, .inr (.inl a0)), (1, .inl a1), (2, .inl a2), (3, .inl a3)] [] (I, R) (.inl (some (.inl y.1))) (y.2, R) := by
  intro n
  induction n with
  | zero => intro a0 a1 a2 a3 I y h; cases h
  | succ n ih =>
    intro a0 a1 a2 a3 I y h
    rw [f_X12_listen_81] at h
    refine sm_iload_n (q := 82) dX12_listen_81 rfl rfl 3 rfl ?_
    refine sm_bipush (v := 7) (q := 84) dX12_listen_82 rfl (by decide) ?_
    rcases sm_if_e h with ⟨hb1, h⟩ | ⟨hb1, h⟩
    · refine sm_icmp_ge (tgt := 110) (q := 87) dX12_listen_84 (by decide) rfl (fun _ => ?_) (fun hn => absurd hb1 hn)
      refine sm_aload_n (q := 111) dX12_listen_110 rfl rfl 0 rfl ?_
      refine sm_aload_n (q := 112) dX12_listen_111 rfl rfl 0 rfl ?_
      obtain ⟨hc2, h⟩ := sm_gd_e h
      refine sm_getR (r := R a0 37) (q := 115) dX12_listen_112 rfl fk_X12_98 hc2 (by decide) (by decide) rfl ?_
      refine sm_iconst (v := 0) (q := 116) dX12_listen_115 rfl (by decide) ?_
      obtain ⟨p3, hc_p3, h⟩ := sm_bd_e h
      refine sm_callVv (q := 119) (As := [.inr (.inl (R a0 37)), .inl (0 : Int32)]) (S := []) (e_X12_unpack hc_p3) mv_X12_400 hc2 rfl (by decide) (Nat.le_of_ble_eq_true rfl) dX12_listen_116 rfl ?_
      refine sm_iinc (v := (a2 + 1)) (L' := [(2, .inl (a2 + 1)), (0, .inr (.inl a0)), (1, .inl a1), (3, .inl a3)]) (q := 122) dX12_listen_119 rfl 2 rfl rfl (by decide) rfl ?_
      refine sm_goto (q := 35) dX12_listen_122 (by decide) ?_
      refine sm_pick [1, 2, 0] rfl ?_
      exact hk_35 _ _ _ _ _ h
    · refine sm_icmp_ge (tgt := 110) (q := 87) dX12_listen_84 (by decide) rfl (fun ht => absurd ht hb1) (fun _ => ?_)
      refine sm_aload_n (q := 88) dX12_listen_87 rfl rfl 0 rfl ?_
      obtain ⟨hc4, h⟩ := sm_gd_e h
      refine sm_getR (r := R a0 46) (q := 91) dX12_listen_88 rfl fk_X12_125 hc4 (by decide) (by decide) rfl ?_
      refine sm_bipush (v := 7) (q := 93) dX12_listen_91 rfl (by decide) ?_
      refine sm_iload_n (q := 94) dX12_listen_93 rfl rfl 2 rfl ?_
      refine sm_imul (q := 95) dX12_listen_94 rfl ?_
      refine sm_iload_n (q := 96) dX12_listen_95 rfl rfl 3 rfl ?_
      refine sm_iadd (q := 97) dX12_listen_96 rfl ?_
      refine sm_aload_n (q := 98) dX12_listen_97 rfl rfl 0 rfl ?_
      refine sm_getR (r := R a0 25) (q := 101) dX12_listen_98 rfl fk_X12_76 hc4 (by decide) (by decide) rfl ?_
      refine sm_iload_n (q := 102) dX12_listen_101 rfl rfl 3 rfl ?_
      obtain ⟨hc5, h⟩ := sm_gd_e h
      refine sm_iald (n := (sm_kd (R a0 25)).2) (q := 103) dX12_listen_102 rfl (Prod.ext hc5.1 rfl) hc5.2 ?_
      obtain ⟨hc6, h⟩ := sm_gd_e h
      obtain ⟨I7, hI7, h⟩ := sm_lt_e h
      refine sm_iast (n := (sm_kd (R a0 46)).2) (q := 104) dX12_listen_103 rfl (Prod.ext hc6.1 rfl) hc6.2 ?_
      refine sm_memI hI7 ?_
      refine sm_iinc (v := (a3 + 1)) (L' := [(3, .inl (a3 + 1)), (0, .inr (.inl a0)), (1, .inl a1), (2, .inl a2)]) (q := 107) dX12_listen_104 rfl 3 rfl rfl (by decide) rfl ?_
      refine sm_goto (q := 81) dX12_listen_107 (by decide) ?_
      refine sm_pick [1, 2, 3, 0] rfl ?_
      exact ih _ _ _ _ _ _ h
set_option maxHeartbeats 4000000 in
set_option maxRecDepth 100000 in
theorem w_X12_listen_132 {l : Launch} (N : Nat) (R : Nat → Nat → Nat) : ∀ (n : Nat) (a0 : Nat) (a1 : Int32) (a2 : Int32) (a3 : Int32) (a4 : Int32) (I : (Nat → Nat → Int32)) (y : (Int32 × (Nat → Nat → Int32))), f_X12_listen_132 N R n a0 a1 a2 a3 a4 I = some y → sm_W l 7 mX12_listen 132 [(0, .inr (.inl a0)), (1, .inl a1), (2, .inl a2), (3, .inl a3), (4, .inl a4)] [] (I, R) (.inl (some (.inl y.1))) (y.2, R) := by
  intro n
  induction n with
  | zero => intro a0 a1 a2 a3 a4 I y h; cases h
  | succ n ih =>
    intro a0 a1 a2 a3 a4 I y h
    rw [f_X12_listen_132] at h
    refine sm_iload (q := 134) dX12_listen_132 rfl 4 rfl ?_
    refine sm_aload_n (q := 135) dX12_listen_134 rfl rfl 0 rfl ?_
    obtain ⟨hc1, h⟩ := sm_gd_e h
    refine sm_getR (r := R a0 4) (q := 138) dX12_listen_135 rfl fk_X12_41 hc1 (by decide) (by decide) rfl ?_
    refine sm_iconst (v := 1) (q := 139) dX12_listen_138 rfl (by decide) ?_
    obtain ⟨hc2, h⟩ := sm_gd_e h
    refine sm_iald (n := (sm_kd (R a0 4)).2) (q := 140) dX12_listen_139 rfl (Prod.ext hc2.1 rfl) hc2.2 ?_
    rcases sm_if_e h with ⟨hb3, h⟩ | ⟨hb3, h⟩
    · refine sm_icmp_ge (tgt := 172) (q := 143) dX12_listen_140 (by decide) rfl (fun _ => ?_) (fun hn => absurd hb3 hn)
      refine sm_iload_n (q := 173) dX12_listen_172 rfl rfl 1 rfl ?_
      rcases sm_if_e h with ⟨hb4, h⟩ | ⟨hb4, h⟩
      · refine sm_if_ne (tgt := 180) (q := 176) dX12_listen_173 (by decide) rfl (fun hn => absurd hb4 hn) (fun _ => ?_)
        refine sm_iload_n (q := 177) dX12_listen_176 rfl rfl 2 rfl ?_
        refine sm_goto (q := 181) dX12_listen_177 (by decide) ?_
        obtain rfl := Option.some.inj h
        exact sm_iret dX12_listen_181 rfl
      · refine sm_if_ne (tgt := 180) (q := 176) dX12_listen_173 (by decide) rfl (fun _ => ?_) (fun he => absurd he hb4)
        refine sm_iload_n (q := 181) dX12_listen_180 rfl rfl 3 rfl ?_
        obtain rfl := Option.some.inj h
        exact sm_iret dX12_listen_181 rfl
    · refine sm_icmp_ge (tgt := 172) (q := 143) dX12_listen_140 (by decide) rfl (fun ht => absurd ht hb3) (fun _ => ?_)
      refine sm_aload_n (q := 144) dX12_listen_143 rfl rfl 0 rfl ?_
      refine sm_iload (q := 146) dX12_listen_144 rfl 4 rfl ?_
      obtain ⟨p5, hc_p5, h⟩ := sm_bd_e h
      refine sm_callVi (q := 149) (As := [.inl a4]) (S := []) (e_X12_unlike hc_p5) mv_X12_443 hc1 rfl (by decide) (Nat.le_of_ble_eq_true rfl) dX12_listen_146 rfl ?_
      refine sm_istore (L' := [(5, .inl p5.1), (0, .inr (.inl a0)), (1, .inl a1), (2, .inl a2), (3, .inl a3), (4, .inl a4)]) (q := 151) dX12_listen_149 rfl (by decide) rfl ?_
      refine sm_iload (q := 153) dX12_listen_151 rfl 0 rfl ?_
      refine sm_iload_n (q := 154) dX12_listen_153 rfl rfl 4 rfl ?_
      rcases sm_if_e h with ⟨hb6, h⟩ | ⟨hb6, h⟩
      · refine sm_icmp_gt (tgt := 160) (q := 157) dX12_listen_154 (by decide) rfl (fun _ => ?_) (fun hn => absurd hb6 hn)
        refine sm_iload (q := 162) dX12_listen_160 rfl 5 rfl ?_
        refine sm_istore_n (L' := [(2, .inl a4), (5, .inl p5.1), (0, .inr (.inl a0)), (1, .inl a1), (3, .inl a3), (4, .inl a4)]) (q := 163) dX12_listen_162 rfl rfl (by decide) rfl ?_
        refine sm_iload (q := 165) dX12_listen_163 rfl 1 rfl ?_
        refine sm_istore_n (L' := [(3, .inl p5.1), (2, .inl a4), (5, .inl p5.1), (0, .inr (.inl a0)), (1, .inl a1), (4, .inl a4)]) (q := 166) dX12_listen_165 rfl rfl (by decide) rfl ?_
        refine sm_iinc (v := (a4 + 1)) (L' := [(4, .inl (a4 + 1)), (3, .inl p5.1), (2, .inl a4), (5, .inl p5.1), (0, .inr (.inl a0)), (1, .inl a1)]) (q := 169) dX12_listen_166 rfl 5 rfl rfl (by decide) rfl ?_
        refine sm_goto (q := 132) dX12_listen_169 (by decide) ?_
        refine sm_pick [4, 5, 2, 1, 0] rfl ?_
        exact ih _ _ _ _ _ _ _ h
      · refine sm_icmp_gt (tgt := 160) (q := 157) dX12_listen_154 (by decide) rfl (fun ht => absurd ht hb6) (fun _ => ?_)
        refine sm_goto (q := 166) dX12_listen_157 (by decide) ?_
        refine sm_iinc (v := (a4 + 1)) (L' := [(4, .inl (a4 + 1)), (5, .inl p5.1), (0, .inr (.inl a0)), (1, .inl a1), (2, .inl a2), (3, .inl a3)]) (q := 169) dX12_listen_166 rfl 5 rfl rfl (by decide) rfl ?_
        refine sm_goto (q := 132) dX12_listen_169 (by decide) ?_
        refine sm_pick [2, 3, 4, 5, 0] rfl ?_
        exact ih _ _ _ _ _ _ _ h
set_option maxHeartbeats 4000000 in
set_option maxRecDepth 100000 in
theorem w_X12_listen_35 {l : Launch} (N : Nat) (R : Nat → Nat → Nat) : ∀ (n : Nat) (a0 : Nat) (a1 : Int32) (a2 : Int32) (I : (Nat → Nat → Int32)) (y : (Int32 × (Nat → Nat → Int32))), f_X12_listen_35 N R n a0 a1 a2 I = some y → sm_W l 7 mX12_listen 35 [(0, .inr (.inl a0)), (1, .inl a1), (2, .inl a2)] [] (I, R) (.inl (some (.inl y.1))) (y.2, R) := by
  intro n
  induction n with
  | zero => intro a0 a1 a2 I y h; cases h
  | succ n ih =>
    intro a0 a1 a2 I y h
    rw [f_X12_listen_35] at h
    refine sm_iload_n (q := 36) dX12_listen_35 rfl rfl 2 rfl ?_
    refine sm_aload_n (q := 37) dX12_listen_36 rfl rfl 0 rfl ?_
    obtain ⟨hc1, h⟩ := sm_gd_e h
    refine sm_getI (q := 40) dX12_listen_37 rfl fk_X12_433 hc1 (by decide) (by decide) ?_
    rcases sm_if_e h with ⟨hb2, h⟩ | ⟨hb2, h⟩
    · refine sm_icmp_ge (tgt := 125) (q := 43) dX12_listen_40 (by decide) rfl (fun _ => ?_) (fun hn => absurd hb2 hn)
      refine sm_iconst (v := -1) (q := 126) dX12_listen_125 rfl (by decide) ?_
      refine sm_istore_n (L' := [(2, .inl (-1 : Int32)), (0, .inr (.inl a0)), (1, .inl a1)]) (q := 127) dX12_listen_126 rfl rfl (by decide) rfl ?_
      refine sm_iconst (v := 0) (q := 128) dX12_listen_127 rfl (by decide) ?_
      refine sm_istore_n (L' := [(3, .inl (0 : Int32)), (2, .inl (-1 : Int32)), (0, .inr (.inl a0)), (1, .inl a1)]) (q := 129) dX12_listen_128 rfl rfl (by decide) rfl ?_
      refine sm_iconst (v := 0) (q := 130) dX12_listen_129 rfl (by decide) ?_
      refine sm_istore (L' := [(4, .inl (0 : Int32)), (3, .inl (0 : Int32)), (2, .inl (-1 : Int32)), (0, .inr (.inl a0)), (1, .inl a1)]) (q := 132) dX12_listen_130 rfl (by decide) rfl ?_
      refine sm_pick [3, 4, 2, 1, 0] rfl ?_
      exact w_X12_listen_132 N R N _ _ _ _ _ _ _ h
    · refine sm_icmp_ge (tgt := 125) (q := 43) dX12_listen_40 (by decide) rfl (fun ht => absurd ht hb2) (fun _ => ?_)
      refine sm_aload_n (q := 44) dX12_listen_43 rfl rfl 0 rfl ?_
      refine sm_getR (r := R a0 29) (q := 47) dX12_listen_44 rfl fk_X12_87 hc1 (by decide) (by decide) rfl ?_
      refine sm_aload_n (q := 48) dX12_listen_47 rfl rfl 0 rfl ?_
      refine sm_getR (r := R a0 45) (q := 51) dX12_listen_48 rfl fk_X12_122 hc1 (by decide) (by decide) rfl ?_
      refine sm_iload_n (q := 52) dX12_listen_51 rfl rfl 2 rfl ?_
      obtain ⟨hc3, h⟩ := sm_gd_e h
      refine sm_iald (n := (sm_kd (R a0 45)).2) (q := 53) dX12_listen_52 rfl (Prod.ext hc3.1 rfl) hc3.2 ?_
      refine sm_bipush (v := 100) (q := 55) dX12_listen_53 rfl (by decide) ?_
      refine sm_idiv (q := 56) dX12_listen_55 rfl (by decide) ?_
      refine sm_dup2 (q := 57) dX12_listen_56 rfl rfl rfl ?_
      obtain ⟨hc4, h⟩ := sm_gd_e h
      refine sm_iald (n := (sm_kd (R a0 29)).2) (q := 58) dX12_listen_57 rfl (Prod.ext hc4.1 rfl) hc4.2 ?_
      refine sm_iconst (v := 1) (q := 59) dX12_listen_58 rfl (by decide) ?_
      refine sm_aload_n (q := 60) dX12_listen_59 rfl rfl 0 rfl ?_
      refine sm_getR (r := R a0 45) (q := 63) dX12_listen_60 rfl fk_X12_122 hc1 (by decide) (by decide) rfl ?_
      refine sm_iload_n (q := 64) dX12_listen_63 rfl rfl 2 rfl ?_
      refine sm_iald (n := (sm_kd (R a0 45)).2) (q := 65) dX12_listen_64 rfl (Prod.ext hc3.1 rfl) hc3.2 ?_
      refine sm_bipush (v := 100) (q := 67) dX12_listen_65 rfl (by decide) ?_
      refine sm_irem (q := 68) dX12_listen_67 rfl (by decide) ?_
      refine sm_iconst (v := 1) (q := 69) dX12_listen_68 rfl (by decide) ?_
      refine sm_isub (q := 70) dX12_listen_69 rfl ?_
      refine sm_ishl (q := 71) dX12_listen_70 rfl ?_
      refine sm_ior (q := 72) dX12_listen_71 rfl ?_
      obtain ⟨I5, hI5, h⟩ := sm_lt_e h
      refine sm_iast (n := (sm_kd (R a0 29)).2) (q := 73) dX12_listen_72 rfl (Prod.ext hc4.1 rfl) hc4.2 ?_
      refine sm_memI hI5 ?_
      refine sm_aload_n (q := 74) dX12_listen_73 rfl rfl 0 rfl ?_
      refine sm_bipush (v := 20) (q := 76) dX12_listen_74 rfl (by decide) ?_
      obtain ⟨p6, hc_p6, h⟩ := sm_bd_e h
      refine sm_callVv (q := 79) (As := [.inl (20 : Int32)]) (S := []) (e_X12_goOn hc_p6) mv_X12_390 hc1 rfl (by decide) (Nat.le_of_ble_eq_true rfl) dX12_listen_76 rfl ?_
      refine sm_iconst (v := 0) (q := 80) dX12_listen_79 rfl (by decide) ?_
      refine sm_istore_n (L' := [(3, .inl (0 : Int32)), (0, .inr (.inl a0)), (1, .inl a1), (2, .inl a2)]) (q := 81) dX12_listen_80 rfl rfl (by decide) rfl ?_
      refine sm_pick [1, 2, 3, 0] rfl ?_
      exact w_X12_listen_81 N R (fun z0 z1 z2 J => f_X12_listen_35 N R n z0 z1 z2 J) (fun z0 z1 z2 J y h => ih z0 z1 z2 J y h) N _ _ _ _ _ _ h
set_option maxHeartbeats 4000000 in
set_option maxRecDepth 100000 in
theorem w_X12_listen {l : Launch} (N : Nat) (R : Nat → Nat → Nat) : ∀ (a0 : Nat) (a1 : Int32) (I : (Nat → Nat → Int32)) (y : (Int32 × (Nat → Nat → Int32))), f_X12_listen N R a0 a1 I = some y → sm_W l 7 mX12_listen 0 [(0, .inr (.inl a0)), (1, .inl a1)] [] (I, R) (.inl (some (.inl y.1))) (y.2, R) := by
  intro a0 a1 I y h
  unfold f_X12_listen at h
  refine sm_aload_n (q := 1) dX12_listen_0 rfl rfl 0 rfl ?_
  refine sm_iconst (v := 0) (q := 2) dX12_listen_1 rfl (by decide) ?_
  obtain ⟨hc1, h⟩ := sm_gd_e h
  obtain ⟨I2, hI2, h⟩ := sm_lt_e h
  refine sm_putI (q := 5) dX12_listen_2 rfl fk_X12_152 hc1 (by decide) (by decide) ?_
  refine sm_memI hI2 ?_
  refine sm_iload_n (q := 6) dX12_listen_5 rfl rfl 1 rfl ?_
  rcases sm_if_e h with ⟨hb3, h⟩ | ⟨hb3, h⟩
  · refine sm_if_lt (tgt := 14) (q := 9) dX12_listen_6 (by decide) rfl (fun _ => ?_) (fun hn => absurd hb3 hn)
    refine sm_aload_n (q := 15) dX12_listen_14 rfl rfl 0 rfl ?_
    refine sm_iconst (v := 1) (q := 16) dX12_listen_15 rfl (by decide) ?_
    obtain ⟨p4, hc_p4, h⟩ := sm_bd_e h
    refine sm_callVi (q := 19) (As := [.inl (1 : Int32)]) (S := []) (e_X12_fail hc_p4) mv_X12_283 hc1 rfl (by decide) (Nat.le_of_ble_eq_true rfl) dX12_listen_16 rfl ?_
    obtain rfl := Option.some.inj h
    exact sm_iret dX12_listen_19 rfl
  · refine sm_if_lt (tgt := 14) (q := 9) dX12_listen_6 (by decide) rfl (fun ht => absurd ht hb3) (fun _ => ?_)
    refine sm_iload_n (q := 10) dX12_listen_9 rfl rfl 1 rfl ?_
    refine sm_iconst (v := 1) (q := 11) dX12_listen_10 rfl (by decide) ?_
    rcases sm_if_e h with ⟨hb5, h⟩ | ⟨hb5, h⟩
    · refine sm_icmp_le (tgt := 20) (q := 14) dX12_listen_11 (by decide) rfl (fun _ => ?_) (fun hn => absurd hb5 hn)
      refine sm_aload_n (q := 21) dX12_listen_20 rfl rfl 0 rfl ?_
      obtain ⟨p6, hc_p6, h⟩ := sm_bd_e h
      refine sm_callVv (q := 24) (As := []) (S := []) (e_X12_tellFits hc_p6) mv_X12_440 hc1 rfl (by decide) (Nat.le_of_ble_eq_true rfl) dX12_listen_21 rfl ?_
      refine sm_aload_n (q := 25) dX12_listen_24 rfl rfl 0 rfl ?_
      refine sm_aload_n (q := 26) dX12_listen_25 rfl rfl 0 rfl ?_
      refine sm_getR (r := R a0 37) (q := 29) dX12_listen_26 rfl fk_X12_98 hc1 (by decide) (by decide) rfl ?_
      refine sm_iconst (v := 0) (q := 30) dX12_listen_29 rfl (by decide) ?_
      obtain ⟨p7, hc_p7, h⟩ := sm_bd_e h
      refine sm_callVv (q := 33) (As := [.inr (.inl (R a0 37)), .inl (0 : Int32)]) (S := []) (e_X12_pack hc_p7) mv_X12_378 hc1 rfl (by decide) (Nat.le_of_ble_eq_true rfl) dX12_listen_30 rfl ?_
      refine sm_iconst (v := 0) (q := 34) dX12_listen_33 rfl (by decide) ?_
      refine sm_istore_n (L' := [(2, .inl (0 : Int32)), (0, .inr (.inl a0)), (1, .inl a1)]) (q := 35) dX12_listen_34 rfl rfl (by decide) rfl ?_
      refine sm_pick [1, 2, 0] rfl ?_
      exact w_X12_listen_35 N R N _ _ _ _ _ h
    · refine sm_icmp_le (tgt := 20) (q := 14) dX12_listen_11 (by decide) rfl (fun ht => absurd ht hb5) (fun _ => ?_)
      refine sm_aload_n (q := 15) dX12_listen_14 rfl rfl 0 rfl ?_
      refine sm_iconst (v := 1) (q := 16) dX12_listen_15 rfl (by decide) ?_
      obtain ⟨p8, hc_p8, h⟩ := sm_bd_e h
      refine sm_callVi (q := 19) (As := [.inl (1 : Int32)]) (S := []) (e_X12_fail hc_p8) mv_X12_283 hc1 rfl (by decide) (Nat.le_of_ble_eq_true rfl) dX12_listen_16 rfl ?_
      obtain rfl := Option.some.inj h
      exact sm_iret dX12_listen_19 rfl
theorem e_X12_listen {l : Launch} {N : Nat} {R : Nat → Nat → Nat} {a0 : Nat} {a1 : Int32} {I : (Nat → Nat → Int32)} {y : (Int32 × (Nat → Nat → Int32))} (h : f_X12_listen N R a0 a1 I = some y) : sm_E l 7 mX12_listen [.inr (.inl a0), .inl a1] (I, R) (.inl (some (.inl y.1))) (y.2, R) :=
  sm_meth (by decide) (Nat.le_of_ble_eq_true rfl) (w_X12_listen N R a0 a1 I y h)
def f_X12_forget (N : Nat) (R : Nat → Nat → Nat) : Nat → (Nat → Nat → Int32) → Option (Unit × (Nat → Nat → Int32)) := fun a0 I =>
  sm_gd (sm_kd a0 = (12, 59)) <|
  sm_lt (sm_up I a0 (sm_up (I a0) 3 (0 : Int32))) fun I2 =>
  sm_lt (sm_up I2 a0 (sm_up (I2 a0) 34 (0 : Int32))) fun I3 =>
  some ((), I3)
set_option maxHeartbeats 4000000 in
set_option maxRecDepth 100000 in
theorem w_X12_forget {l : Launch} (N : Nat) (R : Nat → Nat → Nat) : ∀ (a0 : Nat) (I : (Nat → Nat → Int32)) (y : (Unit × (Nat → Nat → Int32))), f_X12_forget N R a0 I = some y → sm_W l 0 mX12_forget 0 [(0, .inr (.inl a0))] [] (I, R) (.inl none) (y.2, R) := by
  intro a0 I y h
  unfold f_X12_forget at h
  refine sm_aload_n (q := 1) dX12_forget_0 rfl rfl 0 rfl ?_
  refine sm_iconst (v := 0) (q := 2) dX12_forget_1 rfl (by decide) ?_
  obtain ⟨hc1, h⟩ := sm_gd_e h
  obtain ⟨I2, hI2, h⟩ := sm_lt_e h
  refine sm_putI (q := 5) dX12_forget_2 rfl fk_X12_152 hc1 (by decide) (by decide) ?_
  refine sm_memI hI2 ?_
  refine sm_aload_n (q := 6) dX12_forget_5 rfl rfl 0 rfl ?_
  refine sm_iconst (v := 0) (q := 7) dX12_forget_6 rfl (by decide) ?_
  obtain ⟨I3, hI3, h⟩ := sm_lt_e h
  refine sm_putI (q := 10) dX12_forget_7 rfl fk_X12_302 hc1 (by decide) (by decide) ?_
  refine sm_memI hI3 ?_
  obtain rfl := Option.some.inj h
  exact sm_vret dX12_forget_10 rfl
theorem e_X12_forget {l : Launch} {N : Nat} {R : Nat → Nat → Nat} {a0 : Nat} {I : (Nat → Nat → Int32)} {y : (Unit × (Nat → Nat → Int32))} (h : f_X12_forget N R a0 I = some y) : sm_E l 0 mX12_forget [.inr (.inl a0)] (I, R) (.inl none) (y.2, R) :=
  sm_meth (by decide) (Nat.le_of_ble_eq_true rfl) (w_X12_forget N R a0 I y h)
def f_X12_tellGains_156 (N : Nat) (R : Nat → Nat → Nat) (k_25 : Nat → Int32 → Int32 → Int32 → Int32 → Int32 → (Nat → Nat → Int32) → Option (Unit × (Nat → Nat → Int32))) : Nat → Int32 → Int32 → Int32 → Int32 → Int32 → (Nat → Nat → Int32) → Option (Unit × (Nat → Nat → Int32)) := fun a0 a1 a2 a3 a4 a5 I =>
  sm_gd (sm_kd a0 = (12, 59)) <|
  (f_X12_goOn N R a0 (10 : Int32) I).bind fun p2 =>
  sm_gd ((sm_kd (R a0 28)).1 = 13 ∧ ¬ (a1 < 0 ∨ (sm_kd (R a0 28)).2 ≤ (a1).toNatClampNeg)) <|
  sm_gd ((sm_kd (R a0 48)).1 = 13 ∧ ¬ (((2 : Int32) * a5) < 0 ∨ (sm_kd (R a0 48)).2 ≤ (((2 : Int32) * a5)).toNatClampNeg)) <|
  sm_lt (sm_up p2.2 (R a0 48) (sm_up (p2.2 (R a0 48)) (((2 : Int32) * a5)).toNatClampNeg (p2.2 (R a0 28) (a1).toNatClampNeg))) fun I5 =>
  sm_gd ((sm_kd (R a0 28)).1 = 13 ∧ ¬ (a2 < 0 ∨ (sm_kd (R a0 28)).2 ≤ (a2).toNatClampNeg)) <|
  sm_gd ((sm_kd (R a0 48)).1 = 13 ∧ ¬ ((((2 : Int32) * a5) + (1 : Int32)) < 0 ∨ (sm_kd (R a0 48)).2 ≤ ((((2 : Int32) * a5) + (1 : Int32))).toNatClampNeg)) <|
  sm_lt (sm_up I5 (R a0 48) (sm_up (I5 (R a0 48)) ((((2 : Int32) * a5) + (1 : Int32))).toNatClampNeg (I5 (R a0 28) (a2).toNatClampNeg))) fun I8 =>
  (f_X12_unpack N R a0 (R a0 37) (0 : Int32) I8).bind fun p9 =>
  sm_lt (sm_up p9.2 (R a0 48) (sm_up (p9.2 (R a0 48)) (((2 : Int32) * a5)).toNatClampNeg ((p9.2 (R a0 48) (((2 : Int32) * a5)).toNatClampNeg) - (p9.2 (R a0 28) (a1).toNatClampNeg)))) fun I10 =>
  sm_lt (sm_up I10 (R a0 48) (sm_up (I10 (R a0 48)) ((((2 : Int32) * a5) + (1 : Int32))).toNatClampNeg ((I10 (R a0 48) ((((2 : Int32) * a5) + (1 : Int32))).toNatClampNeg) - (I10 (R a0 28) (a2).toNatClampNeg)))) fun I11 =>
  k_25 a0 a1 a2 a3 a4 (a5 + 1) I11
def f_X12_tellGains_124 (N : Nat) (R : Nat → Nat → Nat) (k_25 : Nat → Int32 → Int32 → Int32 → Int32 → Int32 → (Nat → Nat → Int32) → Option (Unit × (Nat → Nat → Int32))) : Nat → Int32 → Int32 → Int32 → Int32 → Int32 → Int32 → (Nat → Nat → Int32) → Option (Unit × (Nat → Nat → Int32)) := fun a0 a1 a2 a3 a4 a5 a7 I =>
  if a7 = 0 then (
    f_X12_tellGains_156 N R k_25 a0 a1 a2 a3 a4 a5 I)
  else (
    sm_gd (sm_kd a0 = (12, 59)) <|
    (f_X12_mayGo N R a0 a4 (1 : Int32) I).bind fun p3 =>
    if p3.1 = 0 then (
      (f_X12_tire N R a0 a4 (2 : Int32) p3.2).bind fun p5 =>
      f_X12_tellGains_156 N R k_25 a0 a1 a2 a3 a4 a5 p5.2)
    else (
      (f_X12_go N R a0 a4 (1 : Int32) p3.2).bind fun p6 =>
      f_X12_tellGains_156 N R k_25 a0 a1 a2 a3 a4 a5 p6.2))
def f_X12_tellGains_102 (N : Nat) (R : Nat → Nat → Nat) (k_25 : Nat → Int32 → Int32 → Int32 → Int32 → Int32 → (Nat → Nat → Int32) → Option (Unit × (Nat → Nat → Int32))) : Nat → Int32 → Int32 → Int32 → Int32 → Int32 → Int32 → Int32 → (Nat → Nat → Int32) → Option (Unit × (Nat → Nat → Int32)) := fun a0 a1 a2 a3 a4 a5 a6 b0 I =>
  if a6 = 0 then (
    f_X12_tellGains_124 N R k_25 a0 a1 a2 a3 a4 a5 b0 I)
  else (
    sm_gd (sm_kd a0 = (12, 59)) <|
    (f_X12_mayGo N R a0 a3 (1 : Int32) I).bind fun p3 =>
    if p3.1 = 0 then (
      f_X12_tellGains_124 N R k_25 a0 a1 a2 a3 a4 a5 b0 p3.2)
    else (
      (f_X12_go N R a0 a3 (1 : Int32) p3.2).bind fun p5 =>
      f_X12_tellGains_124 N R k_25 a0 a1 a2 a3 a4 a5 b0 p5.2))
def f_X12_tellGains_65 (N : Nat) (R : Nat → Nat → Nat) (k_25 : Nat → Int32 → Int32 → Int32 → Int32 → Int32 → (Nat → Nat → Int32) → Option (Unit × (Nat → Nat → Int32))) : Nat → Int32 → Int32 → Int32 → Int32 → Int32 → Int32 → (Nat → Nat → Int32) → Option (Unit × (Nat → Nat → Int32)) := fun a0 a1 a2 a3 a4 a5 b0 I =>
  if a4 = a1 then (
    if (a5 / (2 : Int32)) = (1 : Int32) then (
      f_X12_tellGains_102 N R k_25 a0 a1 a2 a3 a4 a5 b0 (1 : Int32) I)
    else (
      f_X12_tellGains_102 N R k_25 a0 a1 a2 a3 a4 a5 b0 (0 : Int32) I))
  else (
    if (a5 - a5 / (2 : Int32) * (2 : Int32)) = (1 : Int32) then (
      f_X12_tellGains_102 N R k_25 a0 a1 a2 a3 a4 a5 b0 (1 : Int32) I)
    else (
      f_X12_tellGains_102 N R k_25 a0 a1 a2 a3 a4 a5 b0 (0 : Int32) I))
def f_X12_tellGains_25 (N : Nat) (R : Nat → Nat → Nat) : Nat → Nat → Int32 → Int32 → Int32 → Int32 → Int32 → (Nat → Nat → Int32) → Option (Unit × (Nat → Nat → Int32))
  | 0, _, _, _, _, _, _, _ => none
  | n + 1, a0, a1, a2, a3, a4, a5, I =>
    if (4 : Int32) ≤ a5 then (
      some ((), I))
    else (
      if a3 = a1 then (
        if (a5 / (2 : Int32)) = (1 : Int32) then (
          f_X12_tellGains_65 N R (fun z0 z1 z2 z3 z4 z5 J => f_X12_tellGains_25 N R n z0 z1 z2 z3 z4 z5 J) a0 a1 a2 a3 a4 a5 (1 : Int32) I)
        else (
          f_X12_tellGains_65 N R (fun z0 z1 z2 z3 z4 z5 J => f_X12_tellGains_25 N R n z0 z1 z2 z3 z4 z5 J) a0 a1 a2 a3 a4 a5 (0 : Int32) I))
      else (
        if (a5 - a5 / (2 : Int32) * (2 : Int32)) = (1 : Int32) then (
          f_X12_tellGains_65 N R (fun z0 z1 z2 z3 z4 z5 J => f_X12_tellGains_25 N R n z0 z1 z2 z3 z4 z5 J) a0 a1 a2 a3 a4 a5 (1 : Int32) I)
        else (
          f_X12_tellGains_65 N R (fun z0 z1 z2 z3 z4 z5 J => f_X12_tellGains_25 N R n z0 z1 z2 z3 z4 z5 J) a0 a1 a2 a3 a4 a5 (0 : Int32) I)))
def f_X12_tellGains (N : Nat) (R : Nat → Nat → Nat) : Nat → Int32 → Int32 → (Nat → Nat → Int32) → Option (Unit × (Nat → Nat → Int32)) := fun a0 a1 a2 I =>
  sm_gd (sm_kd a0 = (12, 59)) <|
  (f_X12_pack N R a0 (R a0 37) (0 : Int32) I).bind fun p2 =>
  f_X12_tellGains_25 N R N a0 a1 a2 (sm_mn a1 a2) (sm_mx a1 a2) (0 : Int32) p2.2
set_option maxHeartbeats 4000000 in
set_option maxRecDepth 100000 in
theorem w_X12_tellGains_156 {l : Launch} (N : Nat) (R : Nat → Nat → Nat) (k_25 : Nat → Int32 → Int32 → Int32 → Int32 → Int32 → (Nat → Nat → Int32) → Option (Unit × (Nat → Nat → Int32))) (hk_25 : ∀ (a0 : Nat) (a1 : Int32) (a2 : Int32) (a3 : Int32) (a4 : Int32) (a5 : Int32) (I : (Nat → Nat → Int32)) (y : (Unit × (Nat → Nat → Int32))), k_25 a0 a1 a2 a3 a4 a5 I = some y → sm_W l 6 mX12_tellGains 25 [(0, .inr (.inl a0)), (1, .inl a1), (2, .inl a2), (3, .inl a3), (4, .inl a4), (5, .inl a5)] [] (I, R) (.inl none) (y.2, R)) : ∀ (a0 : Nat) (a1 : Int32) (a2 : Int32) (a3 : Int32) (a4 : Int32) (a5 : Int32) (I : (Nat → Nat → Int32)) (y : (Unit × (Nat → Nat → Int32))), f_X12_tellGains_156 N R k_25 a0 a1 a2 a3 a4 a5 I = some y → sm_W l 6 mX12_tellGains 156 [(0, .inr (.inl a0)), (1, .inl a1), (2, .inl a2), (3, .inl a3), (4, .inl a4), (5, .inl a5)] [] (I, R) (.inl none) (y.2, R) := by
  intro a0 a1 a2 a3 a4 a5 I y h
  unfold f_X12_tellGains_156 at h
  refine sm_aload_n (q := 157) dX12_tellGains_156 rfl rfl 0 rfl ?_
  refine sm_bipush (v := 10) (q := 159) dX12_tellGains_157 rfl (by decide) ?_
  obtain ⟨hc1, h⟩ := sm_gd_e h
  obtain ⟨p2, hc_p2, h⟩ := sm_bd_e h
  refine sm_callVv (q := 162) (As := [.inl (10 : Int32)]) (S := []) (e_X12_goOn hc_p2) mv_X12_390 hc1 rfl (by decide) (Nat.le_of_ble_eq_true rfl) dX12_tellGains_159 rfl ?_
  refine sm_aload_n (q := 163) dX12_tellGains_162 rfl rfl 0 rfl ?_
  refine sm_getR (r := R a0 48) (q := 166) dX12_tellGains_163 rfl fk_X12_128 hc1 (by decide) (by decide) rfl ?_
  refine sm_iconst (v := 2) (q := 167) dX12_tellGains_166 rfl (by decide) ?_
  refine sm_iload (q := 169) dX12_tellGains_167 rfl 5 rfl ?_
  refine sm_imul (q := 170) dX12_tellGains_169 rfl ?_
  refine sm_aload_n (q := 171) dX12_tellGains_170 rfl rfl 0 rfl ?_
  refine sm_getR (r := R a0 28) (q := 174) dX12_tellGains_171 rfl fk_X12_85 hc1 (by decide) (by decide) rfl ?_
  refine sm_iload_n (q := 175) dX12_tellGains_174 rfl rfl 1 rfl ?_
  obtain ⟨hc3, h⟩ := sm_gd_e h
  refine sm_iald (n := (sm_kd (R a0 28)).2) (q := 176) dX12_tellGains_175 rfl (Prod.ext hc3.1 rfl) hc3.2 ?_
  obtain ⟨hc4, h⟩ := sm_gd_e h
  obtain ⟨I5, hI5, h⟩ := sm_lt_e h
  refine sm_iast (n := (sm_kd (R a0 48)).2) (q := 177) dX12_tellGains_176 rfl (Prod.ext hc4.1 rfl) hc4.2 ?_
  refine sm_memI hI5 ?_
  refine sm_aload_n (q := 178) dX12_tellGains_177 rfl rfl 0 rfl ?_
  refine sm_getR (r := R a0 48) (q := 181) dX12_tellGains_178 rfl fk_X12_128 hc1 (by decide) (by decide) rfl ?_
  refine sm_iconst (v := 2) (q := 182) dX12_tellGains_181 rfl (by decide) ?_
  refine sm_iload (q := 184) dX12_tellGains_182 rfl 5 rfl ?_
  refine sm_imul (q := 185) dX12_tellGains_184 rfl ?_
  refine sm_iconst (v := 1) (q := 186) dX12_tellGains_185 rfl (by decide) ?_
  refine sm_iadd (q := 187) dX12_tellGains_186 rfl ?_
  refine sm_aload_n (q := 188) dX12_tellGains_187 rfl rfl 0 rfl ?_
  refine sm_getR (r := R a0 28) (q := 191) dX12_tellGains_188 rfl fk_X12_85 hc1 (by decide) (by decide) rfl ?_
  refine sm_iload_n (q := 192) dX12_tellGains_191 rfl rfl 2 rfl ?_
  obtain ⟨hc6, h⟩ := sm_gd_e h
  refine sm_iald (n := (sm_kd (R a0 28)).2) (q := 193) dX12_tellGains_192 rfl (Prod.ext hc6.1 rfl) hc6.2 ?_
  obtain ⟨hc7, h⟩ := sm_gd_e h
  obtain ⟨I8, hI8, h⟩ := sm_lt_e h
  refine sm_iast (n := (sm_kd (R a0 48)).2) (q := 194) dX12_tellGains_193 rfl (Prod.ext hc7.1 rfl) hc7.2 ?_
  refine sm_memI hI8 ?_
  refine sm_aload_n (q := 195) dX12_tellGains_194 rfl rfl 0 rfl ?_
  refine sm_aload_n (q := 196) dX12_tellGains_195 rfl rfl 0 rfl ?_
  refine sm_getR (r := R a0 37) (q := 199) dX12_tellGains_196 rfl fk_X12_98 hc1 (by decide) (by decide) rfl ?_
  refine sm_iconst (v := 0) (q := 200) dX12_tellGains_199 rfl (by decide) ?_
  obtain ⟨p9, hc_p9, h⟩ := sm_bd_e h
  refine sm_callVv (q := 203) (As := [.inr (.inl (R a0 37)), .inl (0 : Int32)]) (S := []) (e_X12_unpack hc_p9) mv_X12_400 hc1 rfl (by decide) (Nat.le_of_ble_eq_true rfl) dX12_tellGains_200 rfl ?_
  refine sm_aload_n (q := 204) dX12_tellGains_203 rfl rfl 0 rfl ?_
  refine sm_getR (r := R a0 48) (q := 207) dX12_tellGains_204 rfl fk_X12_128 hc1 (by decide) (by decide) rfl ?_
  refine sm_iconst (v := 2) (q := 208) dX12_tellGains_207 rfl (by decide) ?_
  refine sm_iload (q := 210) dX12_tellGains_208 rfl 5 rfl ?_
  refine sm_imul (q := 211) dX12_tellGains_210 rfl ?_
  refine sm_dup2 (q := 212) dX12_tellGains_211 rfl rfl rfl ?_
  refine sm_iald (n := (sm_kd (R a0 48)).2) (q := 213) dX12_tellGains_212 rfl (Prod.ext hc4.1 rfl) hc4.2 ?_
  refine sm_aload_n (q := 214) dX12_tellGains_213 rfl rfl 0 rfl ?_
  refine sm_getR (r := R a0 28) (q := 217) dX12_tellGains_214 rfl fk_X12_85 hc1 (by decide) (by decide) rfl ?_
  refine sm_iload_n (q := 218) dX12_tellGains_217 rfl rfl 1 rfl ?_
  refine sm_iald (n := (sm_kd (R a0 28)).2) (q := 219) dX12_tellGains_218 rfl (Prod.ext hc3.1 rfl) hc3.2 ?_
  refine sm_isub (q := 220) dX12_tellGains_219 rfl ?_
  obtain ⟨I10, hI10, h⟩ := sm_lt_e h
  refine sm_iast (n := (sm_kd (R a0 48)).2) (q := 221) dX12_tellGains_220 rfl (Prod.ext hc4.1 rfl) hc4.2 ?_
  refine sm_memI hI10 ?_
  refine sm_aload_n (q := 222) dX12_tellGains_221 rfl rfl 0 rfl ?_
  refine sm_getR (r := R a0 48) (q := 225) dX12_tellGains_222 rfl fk_X12_128 hc1 (by decide) (by decide) rfl ?_
  refine sm_iconst (v := 2) (q := 226) dX12_tellGains_225 rfl (by decide) ?_
  refine sm_iload (q := 228) dX12_tellGains_226 rfl 5 rfl ?_
  refine sm_imul (q := 229) dX12_tellGains_228 rfl ?_
  refine sm_iconst (v := 1) (q := 230) dX12_tellGains_229 rfl (by decide) ?_
  refine sm_iadd (q := 231) dX12_tellGains_230 rfl ?_
  refine sm_dup2 (q := 232) dX12_tellGains_231 rfl rfl rfl ?_
  refine sm_iald (n := (sm_kd (R a0 48)).2) (q := 233) dX12_tellGains_232 rfl (Prod.ext hc7.1 rfl) hc7.2 ?_
  refine sm_aload_n (q := 234) dX12_tellGains_233 rfl rfl 0 rfl ?_
  refine sm_getR (r := R a0 28) (q := 237) dX12_tellGains_234 rfl fk_X12_85 hc1 (by decide) (by decide) rfl ?_
  refine sm_iload_n (q := 238) dX12_tellGains_237 rfl rfl 2 rfl ?_
  refine sm_iald (n := (sm_kd (R a0 28)).2) (q := 239) dX12_tellGains_238 rfl (Prod.ext hc6.1 rfl) hc6.2 ?_
  refine sm_isub (q := 240) dX12_tellGains_239 rfl ?_
  obtain ⟨I11, hI11, h⟩ := sm_lt_e h
  refine sm_iast (n := (sm_kd (R a0 48)).2) (q := 241) dX12_tellGains_240 rfl (Prod.ext hc7.1 rfl) hc7.2 ?_
  refine sm_memI hI11 ?_
  refine sm_iinc (v := (a5 + 1)) (L' := [(5, .inl (a5 + 1)), (0, .inr (.inl a0)), (1, .inl a1), (2, .inl a2), (3, .inl a3), (4, .inl a4)]) (q := 244) dX12_tellGains_241 rfl 5 rfl rfl (by decide) rfl ?_
  refine sm_goto (q := 25) dX12_tellGains_244 (by decide) ?_
  refine sm_pick [1, 2, 3, 4, 5, 0] rfl ?_
  exact hk_25 _ _ _ _ _ _ _ _ h
set_option maxHeartbeats 4000000 in
set_option maxRecDepth 100000 in
theorem w_X12_tellGains_124 {l : Launch} (N : Nat) (R : Nat → Nat → Nat) (k_25 : Nat → Int32 → Int32 → Int32 → Int32 → Int32 → (Nat → Nat → Int32) → Option (Unit × (Nat → Nat → Int32))) (hk_25 : ∀ (a0 : Nat) (a1 : Int32) (a2 : Int32) (a3 : Int32) (a4 : Int32) (a5 : Int32) (I : (Nat → Nat → Int32)) (y : (Unit × (Nat → Nat → Int32))), k_25 a0 a1 a2 a3 a4 a5 I = some y → sm_W l 6 mX12_tellGains 25 [(0, .inr (.inl a0)), (1, .inl a1), (2, .inl a2), (3, .inl a3), (4, .inl a4), (5, .inl a5)] [] (I, R) (.inl none) (y.2, R)) : ∀ (a0 : Nat) (a1 : Int32) (a2 : Int32) (a3 : Int32) (a4 : Int32) (a5 : Int32) (a7 : Int32) (I : (Nat → Nat → Int32)) (y : (Unit × (Nat → Nat → Int32))), f_X12_tellGains_124 N R k_25 a0 a1 a2 a3 a4 a5 a7 I = some y → sm_W l 6 mX12_tellGains 124 [(0, .inr (.inl a0)), (1, .inl a1), (2, .inl a2), (3, .inl a3), (4, .inl a4), (5, .inl a5), (7, .inl a7)] [] (I, R) (.inl none) (y.2, R) := by
  intro a0 a1 a2 a3 a4 a5 a7 I y h
  unfold f_X12_tellGains_124 at h
  refine sm_iload (q := 126) dX12_tellGains_124 rfl 6 rfl ?_
  rcases sm_if_e h with ⟨hb1, h⟩ | ⟨hb1, h⟩
  · refine sm_if_eq (tgt := 156) (q := 129) dX12_tellGains_126 (by decide) rfl (fun _ => ?_) (fun hn => absurd hb1 hn)
    refine sm_pick [0, 1, 2, 3, 4, 5] rfl ?_
    exact w_X12_tellGains_156 N R k_25 hk_25 _ _ _ _ _ _ _ _ h
  · refine sm_if_eq (tgt := 156) (q := 129) dX12_tellGains_126 (by decide) rfl (fun ht => absurd ht hb1) (fun _ => ?_)
    refine sm_aload_n (q := 130) dX12_tellGains_129 rfl rfl 0 rfl ?_
    refine sm_iload (q := 132) dX12_tellGains_130 rfl 4 rfl ?_
    refine sm_iconst (v := 1) (q := 133) dX12_tellGains_132 rfl (by decide) ?_
    obtain ⟨hc2, h⟩ := sm_gd_e h
    obtain ⟨p3, hc_p3, h⟩ := sm_bd_e h
    refine sm_callVi (q := 136) (As := [.inl a4, .inl (1 : Int32)]) (S := []) (e_X12_mayGo hc_p3) mv_X12_358 hc2 rfl (by decide) (Nat.le_of_ble_eq_true rfl) dX12_tellGains_133 rfl ?_
    rcases sm_if_e h with ⟨hb4, h⟩ | ⟨hb4, h⟩
    · refine sm_if_eq (tgt := 149) (q := 139) dX12_tellGains_136 (by decide) rfl (fun _ => ?_) (fun hn => absurd hb4 hn)
      refine sm_aload_n (q := 150) dX12_tellGains_149 rfl rfl 0 rfl ?_
      refine sm_iload (q := 152) dX12_tellGains_150 rfl 4 rfl ?_
      refine sm_iconst (v := 2) (q := 153) dX12_tellGains_152 rfl (by decide) ?_
      obtain ⟨p5, hc_p5, h⟩ := sm_bd_e h
      refine sm_callVv (q := 156) (As := [.inl a4, .inl (2 : Int32)]) (S := []) (e_X12_tire hc_p5) mv_X12_354 hc2 rfl (by decide) (Nat.le_of_ble_eq_true rfl) dX12_tellGains_153 rfl ?_
      refine sm_pick [0, 1, 2, 3, 4, 5] rfl ?_
      exact w_X12_tellGains_156 N R k_25 hk_25 _ _ _ _ _ _ _ _ h
    · refine sm_if_eq (tgt := 149) (q := 139) dX12_tellGains_136 (by decide) rfl (fun ht => absurd ht hb4) (fun _ => ?_)
      refine sm_aload_n (q := 140) dX12_tellGains_139 rfl rfl 0 rfl ?_
      refine sm_iload (q := 142) dX12_tellGains_140 rfl 4 rfl ?_
      refine sm_iconst (v := 1) (q := 143) dX12_tellGains_142 rfl (by decide) ?_
      obtain ⟨p6, hc_p6, h⟩ := sm_bd_e h
      refine sm_callVv (q := 146) (As := [.inl a4, .inl (1 : Int32)]) (S := []) (e_X12_go hc_p6) mv_X12_393 hc2 rfl (by decide) (Nat.le_of_ble_eq_true rfl) dX12_tellGains_143 rfl ?_
      refine sm_goto (q := 156) dX12_tellGains_146 (by decide) ?_
      refine sm_pick [0, 1, 2, 3, 4, 5] rfl ?_
      exact w_X12_tellGains_156 N R k_25 hk_25 _ _ _ _ _ _ _ _ h
set_option maxHeartbeats 4000000 in
set_option maxRecDepth 100000 in
theorem w_X12_tellGains_102 {l : Launch} (N : Nat) (R : Nat → Nat → Nat) (k_25 : Nat → Int32 → Int32 → Int32 → Int32 → Int32 → (Nat → Nat → Int32) → Option (Unit × (Nat → Nat → Int32))) (hk_25 : ∀ (a0 : Nat) (a1 : Int32) (a2 : Int32) (a3 : Int32) (a4 : Int32) (a5 : Int32) (I : (Nat → Nat → Int32)) (y : (Unit × (Nat → Nat → Int32))), k_25 a0 a1 a2 a3 a4 a5 I = some y → sm_W l 6 mX12_tellGains 25 [(0, .inr (.inl a0)), (1, .inl a1), (2, .inl a2), (3, .inl a3), (4, .inl a4), (5, .inl a5)] [] (I, R) (.inl none) (y.2, R)) : ∀ (a0 : Nat) (a1 : Int32) (a2 : Int32) (a3 : Int32) (a4 : Int32) (a5 : Int32) (a6 : Int32) (b0 : Int32) (I : (Nat → Nat → Int32)) (y : (Unit × (Nat → Nat → Int32))), f_X12_tellGains_102 N R k_25 a0 a1 a2 a3 a4 a5 a6 b0 I = some y → sm_W l 6 mX12_tellGains 102 [(0, .inr (.inl a0)), (1, .inl a1), (2, .inl a2), (3, .inl a3), (4, .inl a4), (5, .inl a5), (6, .inl a6)] [.inl b0] (I, R) (.inl none) (y.2, R) := by
  intro a0 a1 a2 a3 a4 a5 a6 b0 I y h
  unfold f_X12_tellGains_102 at h
  refine sm_istore (L' := [(7, .inl b0), (0, .inr (.inl a0)), (1, .inl a1), (2, .inl a2), (3, .inl a3), (4, .inl a4), (5, .inl a5), (6, .inl a6)]) (q := 104) dX12_tellGains_102 rfl (by decide) rfl ?_
  refine sm_iload (q := 106) dX12_tellGains_104 rfl 7 rfl ?_
  rcases sm_if_e h with ⟨hb1, h⟩ | ⟨hb1, h⟩
  · refine sm_if_eq (tgt := 124) (q := 109) dX12_tellGains_106 (by decide) rfl (fun _ => ?_) (fun hn => absurd hb1 hn)
    refine sm_pick [1, 2, 3, 4, 5, 6, 0] rfl ?_
    exact w_X12_tellGains_124 N R k_25 hk_25 _ _ _ _ _ _ _ _ _ h
  · refine sm_if_eq (tgt := 124) (q := 109) dX12_tellGains_106 (by decide) rfl (fun ht => absurd ht hb1) (fun _ => ?_)
    refine sm_aload_n (q := 110) dX12_tellGains_109 rfl rfl 1 rfl ?_
    refine sm_iload_n (q := 111) dX12_tellGains_110 rfl rfl 4 rfl ?_
    refine sm_iconst (v := 1) (q := 112) dX12_tellGains_111 rfl (by decide) ?_
    obtain ⟨hc2, h⟩ := sm_gd_e h
    obtain ⟨p3, hc_p3, h⟩ := sm_bd_e h
    refine sm_callVi (q := 115) (As := [.inl a3, .inl (1 : Int32)]) (S := []) (e_X12_mayGo hc_p3) mv_X12_358 hc2 rfl (by decide) (Nat.le_of_ble_eq_true rfl) dX12_tellGains_112 rfl ?_
    rcases sm_if_e h with ⟨hb4, h⟩ | ⟨hb4, h⟩
    · refine sm_if_eq (tgt := 124) (q := 118) dX12_tellGains_115 (by decide) rfl (fun _ => ?_) (fun hn => absurd hb4 hn)
      refine sm_pick [1, 2, 3, 4, 5, 6, 0] rfl ?_
      exact w_X12_tellGains_124 N R k_25 hk_25 _ _ _ _ _ _ _ _ _ h
    · refine sm_if_eq (tgt := 124) (q := 118) dX12_tellGains_115 (by decide) rfl (fun ht => absurd ht hb4) (fun _ => ?_)
      refine sm_aload_n (q := 119) dX12_tellGains_118 rfl rfl 1 rfl ?_
      refine sm_iload_n (q := 120) dX12_tellGains_119 rfl rfl 4 rfl ?_
      refine sm_iconst (v := 1) (q := 121) dX12_tellGains_120 rfl (by decide) ?_
      obtain ⟨p5, hc_p5, h⟩ := sm_bd_e h
      refine sm_callVv (q := 124) (As := [.inl a3, .inl (1 : Int32)]) (S := []) (e_X12_go hc_p5) mv_X12_393 hc2 rfl (by decide) (Nat.le_of_ble_eq_true rfl) dX12_tellGains_121 rfl ?_
      refine sm_pick [1, 2, 3, 4, 5, 6, 0] rfl ?_
      exact w_X12_tellGains_124 N R k_25 hk_25 _ _ _ _ _ _ _ _ _ h
set_option maxHeartbeats 4000000 in
set_option maxRecDepth 100000 in
theorem w_X12_tellGains_65 {l : Launch} (N : Nat) (R : Nat → Nat → Nat) (k_25 : Nat → Int32 → Int32 → Int32 → Int32 → Int32 → (Nat → Nat → Int32) → Option (Unit × (Nat → Nat → Int32))) (hk_25 : ∀ (a0 : Nat) (a1 : Int32) (a2 : Int32) (a3 : Int32) (a4 : Int32) (a5 : Int32) (I : (Nat → Nat → Int32)) (y : (Unit × (Nat → Nat → Int32))), k_25 a0 a1 a2 a3 a4 a5 I = some y → sm_W l 6 mX12_tellGains 25 [(0, .inr (.inl a0)), (1, .inl a1), (2, .inl a2), (3, .inl a3), (4, .inl a4), (5, .inl a5)] [] (I, R) (.inl none) (y.2, R)) : ∀ (a0 : Nat) (a1 : Int32) (a2 : Int32) (a3 : Int32) (a4 : Int32) (a5 : Int32) (b0 : Int32) (I : (Nat → Nat → Int32)) (y : (Unit × (Nat → Nat → Int32))), f_X12_tellGains_65 N R k_25 a0 a1 a2 a3 a4 a5 b0 I = some y → sm_W l 6 mX12_tellGains 65 [(0, .inr (.inl a0)), (1, .inl a1), (2, .inl a2), (3, .inl a3), (4, .inl a4), (5, .inl a5)] [.inl b0] (I, R) (.inl none) (y.2, R) := by
  intro a0 a1 a2 a3 a4 a5 b0 I y h
  unfold f_X12_tellGains_65 at h
  refine sm_istore (L' := [(6, .inl b0), (0, .inr (.inl a0)), (1, .inl a1), (2, .inl a2), (3, .inl a3), (4, .inl a4), (5, .inl a5)]) (q := 67) dX12_tellGains_65 rfl (by decide) rfl ?_
  refine sm_iload (q := 69) dX12_tellGains_67 rfl 5 rfl ?_
  refine sm_iload_n (q := 70) dX12_tellGains_69 rfl rfl 2 rfl ?_
  rcases sm_if_e h with ⟨hb1, h⟩ | ⟨hb1, h⟩
  · refine sm_icmp_ne (tgt := 89) (q := 73) dX12_tellGains_70 (by decide) rfl (fun hn => absurd hb1 hn) (fun _ => ?_)
    refine sm_iload (q := 75) dX12_tellGains_73 rfl 6 rfl ?_
    refine sm_iconst (v := 2) (q := 76) dX12_tellGains_75 rfl (by decide) ?_
    refine sm_idiv (q := 77) dX12_tellGains_76 rfl (by decide) ?_
    refine sm_iconst (v := 1) (q := 78) dX12_tellGains_77 rfl (by decide) ?_
    rcases sm_if_e h with ⟨hb2, h⟩ | ⟨hb2, h⟩
    · refine sm_icmp_ne (tgt := 85) (q := 81) dX12_tellGains_78 (by decide) rfl (fun hn => absurd hb2 hn) (fun _ => ?_)
      refine sm_iconst (v := 1) (q := 82) dX12_tellGains_81 rfl (by decide) ?_
      refine sm_goto (q := 102) dX12_tellGains_82 (by decide) ?_
      refine sm_pick [1, 2, 3, 4, 5, 6, 0] rfl ?_
      exact w_X12_tellGains_102 N R k_25 hk_25 _ _ _ _ _ _ _ _ _ _ h
    · refine sm_icmp_ne (tgt := 85) (q := 81) dX12_tellGains_78 (by decide) rfl (fun _ => ?_) (fun he => absurd he hb2)
      refine sm_iconst (v := 0) (q := 86) dX12_tellGains_85 rfl (by decide) ?_
      refine sm_goto (q := 102) dX12_tellGains_86 (by decide) ?_
      refine sm_pick [1, 2, 3, 4, 5, 6, 0] rfl ?_
      exact w_X12_tellGains_102 N R k_25 hk_25 _ _ _ _ _ _ _ _ _ _ h
  · refine sm_icmp_ne (tgt := 89) (q := 73) dX12_tellGains_70 (by decide) rfl (fun _ => ?_) (fun he => absurd he hb1)
    refine sm_iload (q := 91) dX12_tellGains_89 rfl 6 rfl ?_
    refine sm_iconst (v := 2) (q := 92) dX12_tellGains_91 rfl (by decide) ?_
    refine sm_irem (q := 93) dX12_tellGains_92 rfl (by decide) ?_
    refine sm_iconst (v := 1) (q := 94) dX12_tellGains_93 rfl (by decide) ?_
    rcases sm_if_e h with ⟨hb3, h⟩ | ⟨hb3, h⟩
    · refine sm_icmp_ne (tgt := 101) (q := 97) dX12_tellGains_94 (by decide) rfl (fun hn => absurd hb3 hn) (fun _ => ?_)
      refine sm_iconst (v := 1) (q := 98) dX12_tellGains_97 rfl (by decide) ?_
      refine sm_goto (q := 102) dX12_tellGains_98 (by decide) ?_
      refine sm_pick [1, 2, 3, 4, 5, 6, 0] rfl ?_
      exact w_X12_tellGains_102 N R k_25 hk_25 _ _ _ _ _ _ _ _ _ _ h
    · refine sm_icmp_ne (tgt := 101) (q := 97) dX12_tellGains_94 (by decide) rfl (fun _ => ?_) (fun he => absurd he hb3)
      refine sm_iconst (v := 0) (q := 102) dX12_tellGains_101 rfl (by decide) ?_
      refine sm_pick [1, 2, 3, 4, 5, 6, 0] rfl ?_
      exact w_X12_tellGains_102 N R k_25 hk_25 _ _ _ _ _ _ _ _ _ _ h
set_option maxHeartbeats 4000000 in
set_option maxRecDepth 100000 in
theorem w_X12_tellGains_25 {l : Launch} (N : Nat) (R : Nat → Nat → Nat) : ∀ (n : Nat) (a0 : Nat) (a1 : Int32) (a2 : Int32) (a3 : Int32) (a4 : Int32) (a5 : Int32) (I : (Nat → Nat → Int32)) (y : (Unit × (Nat → Nat → Int32))), f_X12_tellGains_25 N R n a0 a1 a2 a3 a4 a5 I = some y → sm_W l 6 mX12_tellGains 25 [(0, .inr (.inl a0)), (1, .inl a1), (2, .inl a2), (3, .inl a3), (4, .inl a4), (5, .inl a5)] [] (I, R) (.inl none) (y.2, R) := by
  intro n
  induction n with
  | zero => intro a0 a1 a2 a3 a4 a5 I y h; cases h
  | succ n ih =>
    intro a0 a1 a2 a3 a4 a5 I y h
    rw [f_X12_tellGains_25] at h
    refine sm_iload (q := 27) dX12_tellGains_25 rfl 5 rfl ?_
    refine sm_iconst (v := 4) (q := 28) dX12_tellGains_27 rfl (by decide) ?_
    rcases sm_if_e h with ⟨hb1, h⟩ | ⟨hb1, h⟩
    · refine sm_icmp_ge (tgt := 247) (q := 31) dX12_tellGains_28 (by decide) rfl (fun _ => ?_) (fun hn => absurd hb1 hn)
      obtain rfl := Option.some.inj h
      exact sm_vret dX12_tellGains_247 rfl
    · refine sm_icmp_ge (tgt := 247) (q := 31) dX12_tellGains_28 (by decide) rfl (fun ht => absurd ht hb1) (fun _ => ?_)
      refine sm_iload_n (q := 32) dX12_tellGains_31 rfl rfl 3 rfl ?_
      refine sm_iload_n (q := 33) dX12_tellGains_32 rfl rfl 1 rfl ?_
      rcases sm_if_e h with ⟨hb2, h⟩ | ⟨hb2, h⟩
      · refine sm_icmp_ne (tgt := 52) (q := 36) dX12_tellGains_33 (by decide) rfl (fun hn => absurd hb2 hn) (fun _ => ?_)
        refine sm_iload (q := 38) dX12_tellGains_36 rfl 5 rfl ?_
        refine sm_iconst (v := 2) (q := 39) dX12_tellGains_38 rfl (by decide) ?_
        refine sm_idiv (q := 40) dX12_tellGains_39 rfl (by decide) ?_
        refine sm_iconst (v := 1) (q := 41) dX12_tellGains_40 rfl (by decide) ?_
        rcases sm_if_e h with ⟨hb3, h⟩ | ⟨hb3, h⟩
        · refine sm_icmp_ne (tgt := 48) (q := 44) dX12_tellGains_41 (by decide) rfl (fun hn => absurd hb3 hn) (fun _ => ?_)
          refine sm_iconst (v := 1) (q := 45) dX12_tellGains_44 rfl (by decide) ?_
          refine sm_goto (q := 65) dX12_tellGains_45 (by decide) ?_
          refine sm_pick [0, 1, 2, 3, 4, 5] rfl ?_
          exact w_X12_tellGains_65 N R (fun z0 z1 z2 z3 z4 z5 J => f_X12_tellGains_25 N R n z0 z1 z2 z3 z4 z5 J) (fun z0 z1 z2 z3 z4 z5 J y h => ih z0 z1 z2 z3 z4 z5 J y h) _ _ _ _ _ _ _ _ _ h
        · refine sm_icmp_ne (tgt := 48) (q := 44) dX12_tellGains_41 (by decide) rfl (fun _ => ?_) (fun he => absurd he hb3)
          refine sm_iconst (v := 0) (q := 49) dX12_tellGains_48 rfl (by decide) ?_
          refine sm_goto (q := 65) dX12_tellGains_49 (by decide) ?_
          refine sm_pick [0, 1, 2, 3, 4, 5] rfl ?_
          exact w_X12_tellGains_65 N R (fun z0 z1 z2 z3 z4 z5 J => f_X12_tellGains_25 N R n z0 z1 z2 z3 z4 z5 J) (fun z0 z1 z2 z3 z4 z5 J y h => ih z0 z1 z2 z3 z4 z5 J y h) _ _ _ _ _ _ _ _ _ h
      · refine sm_icmp_ne (tgt := 52) (q := 36) dX12_tellGains_33 (by decide) rfl (fun _ => ?_) (fun he => absurd he hb2)
        refine sm_iload (q := 54) dX12_tellGains_52 rfl 5 rfl ?_
        refine sm_iconst (v := 2) (q := 55) dX12_tellGains_54 rfl (by decide) ?_
        refine sm_irem (q := 56) dX12_tellGains_55 rfl (by decide) ?_
        refine sm_iconst (v := 1) (q := 57) dX12_tellGains_56 rfl (by decide) ?_
        rcases sm_if_e h with ⟨hb4, h⟩ | ⟨hb4, h⟩
        · refine sm_icmp_ne (tgt := 64) (q := 60) dX12_tellGains_57 (by decide) rfl (fun hn => absurd hb4 hn) (fun _ => ?_)
          refine sm_iconst (v := 1) (q := 61) dX12_tellGains_60 rfl (by decide) ?_
          refine sm_goto (q := 65) dX12_tellGains_61 (by decide) ?_
          refine sm_pick [0, 1, 2, 3, 4, 5] rfl ?_
          exact w_X12_tellGains_65 N R (fun z0 z1 z2 z3 z4 z5 J => f_X12_tellGains_25 N R n z0 z1 z2 z3 z4 z5 J) (fun z0 z1 z2 z3 z4 z5 J y h => ih z0 z1 z2 z3 z4 z5 J y h) _ _ _ _ _ _ _ _ _ h
        · refine sm_icmp_ne (tgt := 64) (q := 60) dX12_tellGains_57 (by decide) rfl (fun _ => ?_) (fun he => absurd he hb4)
          refine sm_iconst (v := 0) (q := 65) dX12_tellGains_64 rfl (by decide) ?_
          refine sm_pick [0, 1, 2, 3, 4, 5] rfl ?_
          exact w_X12_tellGains_65 N R (fun z0 z1 z2 z3 z4 z5 J => f_X12_tellGains_25 N R n z0 z1 z2 z3 z4 z5 J) (fun z0 z1 z2 z3 z4 z5 J y h => ih z0 z1 z2 z3 z4 z5 J y h) _ _ _ _ _ _ _ _ _ h
set_option maxHeartbeats 4000000 in
set_option maxRecDepth 100000 in
theorem w_X12_tellGains {l : Launch} (N : Nat) (R : Nat → Nat → Nat) : ∀ (a0 : Nat) (a1 : Int32) (a2 : Int32) (I : (Nat → Nat → Int32)) (y : (Unit × (Nat → Nat → Int32))), f_X12_tellGains N R a0 a1 a2 I = some y → sm_W l 6 mX12_tellGains 0 [(0, .inr (.inl a0)), (1, .inl a1), (2, .inl a2)] [] (I, R) (.inl none) (y.2, R) := by
  intro a0 a1 a2 I y h
  unfold f_X12_tellGains at h
  refine sm_iload_n (q := 1) dX12_tellGains_0 rfl rfl 1 rfl ?_
  refine sm_iload_n (q := 2) dX12_tellGains_1 rfl rfl 2 rfl ?_
  refine sm_mmn (q := 5) dX12_tellGains_2 rfl mm_X12_189 (Nat.le_of_ble_eq_true rfl) ?_
  refine sm_istore_n (L' := [(3, .inl (sm_mn a1 a2)), (0, .inr (.inl a0)), (1, .inl a1), (2, .inl a2)]) (q := 6) dX12_tellGains_5 rfl rfl (by decide) rfl ?_
  refine sm_iload_n (q := 7) dX12_tellGains_6 rfl rfl 2 rfl ?_
  refine sm_iload_n (q := 8) dX12_tellGains_7 rfl rfl 3 rfl ?_
  refine sm_mmx (q := 11) dX12_tellGains_8 rfl mm_X12_328 (Nat.le_of_ble_eq_true rfl) ?_
  refine sm_istore (L' := [(4, .inl (sm_mx a1 a2)), (3, .inl (sm_mn a1 a2)), (0, .inr (.inl a0)), (1, .inl a1), (2, .inl a2)]) (q := 13) dX12_tellGains_11 rfl (by decide) rfl ?_
  refine sm_aload_n (q := 14) dX12_tellGains_13 rfl rfl 2 rfl ?_
  refine sm_aload_n (q := 15) dX12_tellGains_14 rfl rfl 2 rfl ?_
  obtain ⟨hc1, h⟩ := sm_gd_e h
  refine sm_getR (r := R a0 37) (q := 18) dX12_tellGains_15 rfl fk_X12_98 hc1 (by decide) (by decide) rfl ?_
  refine sm_iconst (v := 0) (q := 19) dX12_tellGains_18 rfl (by decide) ?_
  obtain ⟨p2, hc_p2, h⟩ := sm_bd_e h
  refine sm_callVv (q := 22) (As := [.inr (.inl (R a0 37)), .inl (0 : Int32)]) (S := []) (e_X12_pack hc_p2) mv_X12_378 hc1 rfl (by decide) (Nat.le_of_ble_eq_true rfl) dX12_tellGains_19 rfl ?_
  refine sm_iconst (v := 0) (q := 23) dX12_tellGains_22 rfl (by decide) ?_
  refine sm_istore (L' := [(5, .inl (0 : Int32)), (4, .inl (sm_mx a1 a2)), (3, .inl (sm_mn a1 a2)), (0, .inr (.inl a0)), (1, .inl a1), (2, .inl a2)]) (q := 25) dX12_tellGains_23 rfl (by decide) rfl ?_
  refine sm_pick [3, 4, 5, 2, 1, 0] rfl ?_
  exact w_X12_tellGains_25 N R N _ _ _ _ _ _ _ _ h
theorem e_X12_tellGains {l : Launch} {N : Nat} {R : Nat → Nat → Nat} {a0 : Nat} {a1 : Int32} {a2 : Int32} {I : (Nat → Nat → Int32)} {y : (Unit × (Nat → Nat → Int32))} (h : f_X12_tellGains N R a0 a1 a2 I = some y) : sm_E l 6 mX12_tellGains [.inr (.inl a0), .inl a1, .inl a2] (I, R) (.inl none) (y.2, R) :=
  sm_meth (by decide) (Nat.le_of_ble_eq_true rfl) (w_X12_tellGains N R a0 a1 a2 I y h)
def f_X12_game_176 (N : Nat) (R : Nat → Nat → Nat) (k_78 : Nat → Int32 → Int32 → Int32 → Int32 → Int32 → Int32 → (Nat → Nat → Int32) → Option (Int32 × (Nat → Nat → Int32))) : Nat → Int32 → Int32 → Int32 → Int32 → Int32 → Int32 → (Nat → Nat → Int32) → Option (Int32 × (Nat → Nat → Int32)) := fun a0 a3 a4 a5 a6 a7 a8 I =>
  if a7 = (-1 : Int32) then (
    k_78 a0 a3 a4 a5 (a6 + 1) (((10 : Int32) * (a8 / (2 : Int32))) + (a8 - a8 / (2 : Int32) * (2 : Int32))) (a8 + 1) I)
  else (
    k_78 a0 a3 a4 a5 (a6 + 1) a7 (a8 + 1) I)
def f_X12_game_141 (N : Nat) (R : Nat → Nat → Nat) (k_78 : Nat → Int32 → Int32 → Int32 → Int32 → Int32 → Int32 → (Nat → Nat → Int32) → Option (Int32 × (Nat → Nat → Int32))) : Nat → Int32 → Int32 → Int32 → Int32 → Int32 → Int32 → (Nat → Nat → Int32) → Option (Int32 × (Nat → Nat → Int32)) := fun a0 a3 a4 a5 a6 a7 a8 I =>
  if a5 = 0 then (
    f_X12_game_176 N R k_78 a0 a3 a4 a5 a6 a7 a8 I)
  else (
    sm_gd (sm_kd a0 = (12, 59)) <|
    sm_gd ((sm_kd (R a0 48)).1 = 13 ∧ ¬ ((((2 : Int32) * (a8 ^^^ (1 : Int32))) + (1 : Int32)) < 0 ∨ (sm_kd (R a0 48)).2 ≤ ((((2 : Int32) * (a8 ^^^ (1 : Int32))) + (1 : Int32))).toNatClampNeg)) <|
    sm_gd ((sm_kd (R a0 48)).1 = 13 ∧ ¬ ((((2 : Int32) * a8) + (1 : Int32)) < 0 ∨ (sm_kd (R a0 48)).2 ≤ ((((2 : Int32) * a8) + (1 : Int32))).toNatClampNeg)) <|
    if (I (R a0 48) ((((2 : Int32) * (a8 ^^^ (1 : Int32))) + (1 : Int32))).toNatClampNeg) ≤ (I (R a0 48) ((((2 : Int32) * a8) + (1 : Int32))).toNatClampNeg) then (
      f_X12_game_176 N R k_78 a0 a3 a4 a5 a6 a7 a8 I)
    else (
      k_78 a0 a3 a4 a5 a6 a7 (a8 + 1) I))
def f_X12_game_113 (N : Nat) (R : Nat → Nat → Nat) (k_78 : Nat → Int32 → Int32 → Int32 → Int32 → Int32 → Int32 → (Nat → Nat → Int32) → Option (Int32 × (Nat → Nat → Int32))) : Nat → Int32 → Int32 → Int32 → Int32 → Int32 → Int32 → (Nat → Nat → Int32) → Option (Int32 × (Nat → Nat → Int32)) := fun a0 a3 a4 a5 a6 a7 a8 I =>
  if a4 = 0 then (
    f_X12_game_141 N R k_78 a0 a3 a4 a5 a6 a7 a8 I)
  else (
    sm_gd (sm_kd a0 = (12, 59)) <|
    sm_gd ((sm_kd (R a0 48)).1 = 13 ∧ ¬ (((2 : Int32) * (a8 ^^^ (2 : Int32))) < 0 ∨ (sm_kd (R a0 48)).2 ≤ (((2 : Int32) * (a8 ^^^ (2 : Int32)))).toNatClampNeg)) <|
    sm_gd ((sm_kd (R a0 48)).1 = 13 ∧ ¬ (((2 : Int32) * a8) < 0 ∨ (sm_kd (R a0 48)).2 ≤ (((2 : Int32) * a8)).toNatClampNeg)) <|
    if (I (R a0 48) (((2 : Int32) * a8)).toNatClampNeg) < (I (R a0 48) (((2 : Int32) * (a8 ^^^ (2 : Int32)))).toNatClampNeg) then (
      k_78 a0 a3 a4 a5 a6 a7 (a8 + 1) I)
    else (
      f_X12_game_141 N R k_78 a0 a3 a4 a5 a6 a7 a8 I))
def f_X12_game_97 (N : Nat) (R : Nat → Nat → Nat) (k_78 : Nat → Int32 → Int32 → Int32 → Int32 → Int32 → Int32 → (Nat → Nat → Int32) → Option (Int32 × (Nat → Nat → Int32))) : Nat → Int32 → Int32 → Int32 → Int32 → Int32 → Int32 → (Nat → Nat → Int32) → Option (Int32 × (Nat → Nat → Int32)) := fun a0 a3 a4 a5 a6 a7 a8 I =>
  if (a8 - a8 / (2 : Int32) * (2 : Int32)) = (1 : Int32) then (
    if a5 = 0 then (
      k_78 a0 a3 a4 a5 a6 a7 (a8 + 1) I)
    else (
      f_X12_game_113 N R k_78 a0 a3 a4 a5 a6 a7 a8 I))
  else (
    f_X12_game_113 N R k_78 a0 a3 a4 a5 a6 a7 a8 I)
def f_X12_game_78 (N : Nat) (R : Nat → Nat → Nat) : Nat → Nat → Int32 → Int32 → Int32 → Int32 → Int32 → Int32 → (Nat → Nat → Int32) → Option (Int32 × (Nat → Nat → Int32))
  | 0, _, _, _, _, _, _, _, _ => none
  | n + 1, a0, a3, a4, a5, a6, a7, a8, I =>
    if (4 : Int32) ≤ a8 then (
      if a3 = 0 then (
        some (a6, I))
      else (
        some (a7, I)))
    else (
      if (a8 / (2 : Int32)) = (1 : Int32) then (
        if a4 = 0 then (
          f_X12_game_78 N R n a0 a3 a4 a5 a6 a7 (a8 + 1) I)
        else (
          f_X12_game_97 N R (fun z0 z1 z2 z3 z4 z5 z6 J => f_X12_game_78 N R n z0 z1 z2 z3 z4 z5 z6 J) a0 a3 a4 a5 a6 a7 a8 I))
      else (
        f_X12_game_97 N R (fun z0 z1 z2 z3 z4 z5 z6 J => f_X12_game_78 N R n z0 z1 z2 z3 z4 z5 z6 J) a0 a3 a4 a5 a6 a7 a8 I))
def f_X12_game (N : Nat) (R : Nat → Nat → Nat) : Nat → Int32 → Int32 → Int32 → (Nat → Nat → Int32) → Option (Int32 × (Nat → Nat → Int32)) := fun a0 a1 a2 a3 I =>
  sm_gd (sm_kd a0 = (12, 59)) <|
  sm_lt (sm_up I a0 (sm_up (I a0) 3 (0 : Int32))) fun I2 =>
  (f_X12_isPupil N R a0 a1 I2).bind fun p3 =>
  if p3.1 = 0 then (
    (f_X12_fail N R a0 (1 : Int32) p3.2).bind fun p5 =>
    some (p5.1, p5.2))
  else (
    (f_X12_isPupil N R a0 a2 p3.2).bind fun p6 =>
    if p6.1 = 0 then (
      (f_X12_fail N R a0 (1 : Int32) p6.2).bind fun p8 =>
      some (p8.1, p8.2))
    else (
      if a3 < 0 then (
        (f_X12_fail N R a0 (1 : Int32) p6.2).bind fun p10 =>
        some (p10.1, p10.2))
      else (
        if a3 ≤ (1 : Int32) then (
          if a1 = a2 then (
            (f_X12_fail N R a0 (2 : Int32) p6.2).bind fun p13 =>
            some (p13.1, p13.2))
          else (
            (f_X12_mayGo N R a0 a1 (1 : Int32) p6.2).bind fun p14 =>
            (f_X12_mayGo N R a0 a2 (1 : Int32) p14.2).bind fun p15 =>
            (f_X12_tellGains N R a0 a1 a2 p15.2).bind fun p16 =>
            f_X12_game_78 N R N a0 a3 p14.1 p15.1 (0 : Int32) (-1 : Int32) (0 : Int32) p16.2))
        else (
          (f_X12_fail N R a0 (1 : Int32) p6.2).bind fun p17 =>
          some (p17.1, p17.2)))))
set_option maxHeartbeats 4000000 in
set_option maxRecDepth 100000 in
theorem w_X12_game_176 {l : Launch} (N : Nat) (R : Nat → Nat → Nat) (k_78 : Nat → Int32 → Int32 → Int32 → Int32 → Int32 → Int32 → (Nat → Nat → Int32) → Option (Int32 × (Nat → Nat → Int32))) (hk_78 : ∀ (a0 : Nat) (a3 : Int32) (a4 : Int32) (a5 : Int32) (a6 : Int32) (a7 : Int32) (a8 : Int32) (I : (Nat → Nat → Int32)) (y : (Int32 × (Nat → Nat → Int32))), k_78 a0 a3 a4 a5 a6 a7 a8 I = some y → sm_W l 7 mX12_game 78 [(0, .inr (.inl a0)), (3, .inl a3), (4, .inl a4), (5, .inl a5), (6, .inl a6), (7, .inl a7), (8, .inl a8)] [] (I, R) (.inl (some (.inl y.1))) (y.2, R)) : ∀ (a0 : Nat) (a3 : Int32) (a4 : Int32) (a5 : Int32) (a6 : Int32) (a7 : Int32) (a8 : Int32) (I : (Nat → Nat → Int32)) (y : (Int32 × (Nat → Nat → Int32))), f_X12_game_176 N R k_78 a0 a3 a4 a5 a6 a7 a8 I = some y → sm_W l 7 mX12_game 176 [(0, .inr (.inl a0)), (3, .inl a3), (4, .inl a4), (5, .inl a5), (6, .inl a6), (7, .inl a7), (8, .inl a8)] [] (I, R) (.inl (some (.inl y.1))) (y.2, R) := by
  intro a0 a3 a4 a5 a6 a7 a8 I y h
  unfold f_X12_game_176 at h
  refine sm_iinc (v := (a6 + 1)) (L' := [(6, .inl (a6 + 1)), (0, .inr (.inl a0)), (3, .inl a3), (4, .inl a4), (5, .inl a5), (7, .inl a7), (8, .inl a8)]) (q := 179) dX12_game_176 rfl 4 rfl rfl (by decide) rfl ?_
  refine sm_iload (q := 181) dX12_game_179 rfl 5 rfl ?_
  refine sm_iconst (v := -1) (q := 182) dX12_game_181 rfl (by decide) ?_
  rcases sm_if_e h with ⟨hb1, h⟩ | ⟨hb1, h⟩
  · refine sm_icmp_ne (tgt := 200) (q := 185) dX12_game_182 (by decide) rfl (fun hn => absurd hb1 hn) (fun _ => ?_)
    refine sm_bipush (v := 10) (q := 187) dX12_game_185 rfl (by decide) ?_
    refine sm_iload (q := 189) dX12_game_187 rfl 6 rfl ?_
    refine sm_iconst (v := 2) (q := 190) dX12_game_189 rfl (by decide) ?_
    refine sm_idiv (q := 191) dX12_game_190 rfl (by decide) ?_
    refine sm_imul (q := 192) dX12_game_191 rfl ?_
    refine sm_iload (q := 194) dX12_game_192 rfl 6 rfl ?_
    refine sm_iconst (v := 2) (q := 195) dX12_game_194 rfl (by decide) ?_
    refine sm_irem (q := 196) dX12_game_195 rfl (by decide) ?_
    refine sm_iadd (q := 197) dX12_game_196 rfl ?_
    refine sm_goto (q := 202) dX12_game_197 (by decide) ?_
    refine sm_istore (L' := [(7, .inl (((10 : Int32) * (a8 / (2 : Int32))) + (a8 - a8 / (2 : Int32) * (2 : Int32)))), (6, .inl (a6 + 1)), (0, .inr (.inl a0)), (3, .inl a3), (4, .inl a4), (5, .inl a5), (8, .inl a8)]) (q := 204) dX12_game_202 rfl (by decide) rfl ?_
    refine sm_iinc (v := (a8 + 1)) (L' := [(8, .inl (a8 + 1)), (7, .inl (((10 : Int32) * (a8 / (2 : Int32))) + (a8 - a8 / (2 : Int32) * (2 : Int32)))), (6, .inl (a6 + 1)), (0, .inr (.inl a0)), (3, .inl a3), (4, .inl a4), (5, .inl a5)]) (q := 207) dX12_game_204 rfl 6 rfl rfl (by decide) rfl ?_
    refine sm_goto (q := 78) dX12_game_207 (by decide) ?_
    refine sm_pick [3, 4, 5, 6, 2, 1, 0] rfl ?_
    exact hk_78 _ _ _ _ _ _ _ _ _ h
  · refine sm_icmp_ne (tgt := 200) (q := 185) dX12_game_182 (by decide) rfl (fun _ => ?_) (fun he => absurd he hb1)
    refine sm_iload (q := 202) dX12_game_200 rfl 5 rfl ?_
    refine sm_istore (L' := [(7, .inl a7), (6, .inl (a6 + 1)), (0, .inr (.inl a0)), (3, .inl a3), (4, .inl a4), (5, .inl a5), (8, .inl a8)]) (q := 204) dX12_game_202 rfl (by decide) rfl ?_
    refine sm_iinc (v := (a8 + 1)) (L' := [(8, .inl (a8 + 1)), (7, .inl a7), (6, .inl (a6 + 1)), (0, .inr (.inl a0)), (3, .inl a3), (4, .inl a4), (5, .inl a5)]) (q := 207) dX12_game_204 rfl 6 rfl rfl (by decide) rfl ?_
    refine sm_goto (q := 78) dX12_game_207 (by decide) ?_
    refine sm_pick [3, 4, 5, 6, 2, 1, 0] rfl ?_
    exact hk_78 _ _ _ _ _ _ _ _ _ h
set_option maxHeartbeats 4000000 in
set_option maxRecDepth 100000 in
theorem w_X12_game_141 {l : Launch} (N : Nat) (R : Nat → Nat → Nat) (k_78 : Nat → Int32 → Int32 → Int32 → Int32 → Int32 → Int32 → (Nat → Nat → Int32) → Option (Int32 × (Nat → Nat → Int32))) (hk_78 : ∀ (a0 : Nat) (a3 : Int32) (a4 : Int32) (a5 : Int32) (a6 : Int32) (a7 : Int32) (a8 : Int32) (I : (Nat → Nat → Int32)) (y : (Int32 × (Nat → Nat → Int32))), k_78 a0 a3 a4 a5 a6 a7 a8 I = some y → sm_W l 7 mX12_game 78 [(0, .inr (.inl a0)), (3, .inl a3), (4, .inl a4), (5, .inl a5), (6, .inl a6), (7, .inl a7), (8, .inl a8)] [] (I, R) (.inl (some (.inl y.1))) (y.2, R)) : ∀ (a0 : Nat) (a3 : Int32) (a4 : Int32) (a5 : Int32) (a6 : Int32) (a7 : Int32) (a8 : Int32) (I : (Nat → Nat → Int32)) (y : (Int32 × (Nat → Nat → Int32))), f_X12_game_141 N R k_78 a0 a3 a4 a5 a6 a7 a8 I = some y → sm_W l 7 mX12_game 141 [(0, .inr (.inl a0)), (3, .inl a3), (4, .inl a4), (5, .inl a5), (6, .inl a6), (7, .inl a7), (8, .inl a8)] [] (I, R) (.inl (some (.inl y.1))) (y.2, R) := by
  intro a0 a3 a4 a5 a6 a7 a8 I y h
  unfold f_X12_game_141 at h
  refine sm_iload (q := 143) dX12_game_141 rfl 3 rfl ?_
  rcases sm_if_e h with ⟨hb1, h⟩ | ⟨hb1, h⟩
  · refine sm_if_eq (tgt := 176) (q := 146) dX12_game_143 (by decide) rfl (fun _ => ?_) (fun hn => absurd hb1 hn)
    refine sm_pick [0, 1, 2, 3, 4, 5, 6] rfl ?_
    exact w_X12_game_176 N R k_78 hk_78 _ _ _ _ _ _ _ _ _ h
  · refine sm_if_eq (tgt := 176) (q := 146) dX12_game_143 (by decide) rfl (fun ht => absurd ht hb1) (fun _ => ?_)
    refine sm_aload_n (q := 147) dX12_game_146 rfl rfl 0 rfl ?_
    obtain ⟨hc2, h⟩ := sm_gd_e h
    refine sm_getR (r := R a0 48) (q := 150) dX12_game_147 rfl fk_X12_128 hc2 (by decide) (by decide) rfl ?_
    refine sm_iconst (v := 2) (q := 151) dX12_game_150 rfl (by decide) ?_
    refine sm_iload (q := 153) dX12_game_151 rfl 6 rfl ?_
    refine sm_iconst (v := 1) (q := 154) dX12_game_153 rfl (by decide) ?_
    refine sm_ixor (q := 155) dX12_game_154 rfl ?_
    refine sm_imul (q := 156) dX12_game_155 rfl ?_
    refine sm_iconst (v := 1) (q := 157) dX12_game_156 rfl (by decide) ?_
    refine sm_iadd (q := 158) dX12_game_157 rfl ?_
    obtain ⟨hc3, h⟩ := sm_gd_e h
    refine sm_iald (n := (sm_kd (R a0 48)).2) (q := 159) dX12_game_158 rfl (Prod.ext hc3.1 rfl) hc3.2 ?_
    refine sm_aload_n (q := 160) dX12_game_159 rfl rfl 0 rfl ?_
    refine sm_getR (r := R a0 48) (q := 163) dX12_game_160 rfl fk_X12_128 hc2 (by decide) (by decide) rfl ?_
    refine sm_iconst (v := 2) (q := 164) dX12_game_163 rfl (by decide) ?_
    refine sm_iload (q := 166) dX12_game_164 rfl 6 rfl ?_
    refine sm_imul (q := 167) dX12_game_166 rfl ?_
    refine sm_iconst (v := 1) (q := 168) dX12_game_167 rfl (by decide) ?_
    refine sm_iadd (q := 169) dX12_game_168 rfl ?_
    obtain ⟨hc4, h⟩ := sm_gd_e h
    refine sm_iald (n := (sm_kd (R a0 48)).2) (q := 170) dX12_game_169 rfl (Prod.ext hc4.1 rfl) hc4.2 ?_
    rcases sm_if_e h with ⟨hb5, h⟩ | ⟨hb5, h⟩
    · refine sm_icmp_le (tgt := 176) (q := 173) dX12_game_170 (by decide) rfl (fun _ => ?_) (fun hn => absurd hb5 hn)
      refine sm_pick [0, 1, 2, 3, 4, 5, 6] rfl ?_
      exact w_X12_game_176 N R k_78 hk_78 _ _ _ _ _ _ _ _ _ h
    · refine sm_icmp_le (tgt := 176) (q := 173) dX12_game_170 (by decide) rfl (fun ht => absurd ht hb5) (fun _ => ?_)
      refine sm_goto (q := 204) dX12_game_173 (by decide) ?_
      refine sm_iinc (v := (a8 + 1)) (L' := [(8, .inl (a8 + 1)), (0, .inr (.inl a0)), (3, .inl a3), (4, .inl a4), (5, .inl a5), (6, .inl a6), (7, .inl a7)]) (q := 207) dX12_game_204 rfl 6 rfl rfl (by decide) rfl ?_
      refine sm_goto (q := 78) dX12_game_207 (by decide) ?_
      refine sm_pick [1, 2, 3, 4, 5, 6, 0] rfl ?_
      exact hk_78 _ _ _ _ _ _ _ _ _ h
set_option maxHeartbeats 4000000 in
set_option maxRecDepth 100000 in
theorem w_X12_game_113 {l : Launch} (N : Nat) (R : Nat → Nat → Nat) (k_78 : Nat → Int32 → Int32 → Int32 → Int32 → Int32 → Int32 → (Nat → Nat → Int32) → Option (Int32 × (Nat → Nat → Int32))) (hk_78 : ∀ (a0 : Nat) (a3 : Int32) (a4 : Int32) (a5 : Int32) (a6 : Int32) (a7 : Int32) (a8 : Int32) (I : (Nat → Nat → Int32)) (y : (Int32 × (Nat → Nat → Int32))), k_78 a0 a3 a4 a5 a6 a7 a8 I = some y → sm_W l 7 mX12_game 78 [(0, .inr (.inl a0)), (3, .inl a3), (4, .inl a4), (5, .inl a5), (6, .inl a6), (7, .inl a7), (8, .inl a8)] [] (I, R) (.inl (some (.inl y.1))) (y.2, R)) : ∀ (a0 : Nat) (a3 : Int32) (a4 : Int32) (a5 : Int32) (a6 : Int32) (a7 : Int32) (a8 : Int32) (I : (Nat → Nat → Int32)) (y : (Int32 × (Nat → Nat → Int32))), f_X12_game_113 N R k_78 a0 a3 a4 a5 a6 a7 a8 I = some y → sm_W l 7 mX12_game 113 [(0, .inr (.inl a0)), (3, .inl a3), (4, .inl a4), (5, .inl a5), (6, .inl a6), (7, .inl a7), (8, .inl a8)] [] (I, R) (.inl (some (.inl y.1))) (y.2, R) := by
  intro a0 a3 a4 a5 a6 a7 a8 I y h
  unfold f_X12_game_113 at h
  refine sm_iload (q := 115) dX12_game_113 rfl 2 rfl ?_
  rcases sm_if_e h with ⟨hb1, h⟩ | ⟨hb1, h⟩
  · refine sm_if_eq (tgt := 141) (q := 118) dX12_game_115 (by decide) rfl (fun _ => ?_) (fun hn => absurd hb1 hn)
    refine sm_pick [0, 1, 2, 3, 4, 5, 6] rfl ?_
    exact w_X12_game_141 N R k_78 hk_78 _ _ _ _ _ _ _ _ _ h
  · refine sm_if_eq (tgt := 141) (q := 118) dX12_game_115 (by decide) rfl (fun ht => absurd ht hb1) (fun _ => ?_)
    refine sm_aload_n (q := 119) dX12_game_118 rfl rfl 0 rfl ?_
    obtain ⟨hc2, h⟩ := sm_gd_e h
    refine sm_getR (r := R a0 48) (q := 122) dX12_game_119 rfl fk_X12_128 hc2 (by decide) (by decide) rfl ?_
    refine sm_iconst (v := 2) (q := 123) dX12_game_122 rfl (by decide) ?_
    refine sm_iload (q := 125) dX12_game_123 rfl 6 rfl ?_
    refine sm_iconst (v := 2) (q := 126) dX12_game_125 rfl (by decide) ?_
    refine sm_ixor (q := 127) dX12_game_126 rfl ?_
    refine sm_imul (q := 128) dX12_game_127 rfl ?_
    obtain ⟨hc3, h⟩ := sm_gd_e h
    refine sm_iald (n := (sm_kd (R a0 48)).2) (q := 129) dX12_game_128 rfl (Prod.ext hc3.1 rfl) hc3.2 ?_
    refine sm_aload_n (q := 130) dX12_game_129 rfl rfl 0 rfl ?_
    refine sm_getR (r := R a0 48) (q := 133) dX12_game_130 rfl fk_X12_128 hc2 (by decide) (by decide) rfl ?_
    refine sm_iconst (v := 2) (q := 134) dX12_game_133 rfl (by decide) ?_
    refine sm_iload (q := 136) dX12_game_134 rfl 6 rfl ?_
    refine sm_imul (q := 137) dX12_game_136 rfl ?_
    obtain ⟨hc4, h⟩ := sm_gd_e h
    refine sm_iald (n := (sm_kd (R a0 48)).2) (q := 138) dX12_game_137 rfl (Prod.ext hc4.1 rfl) hc4.2 ?_
    rcases sm_if_e h with ⟨hb5, h⟩ | ⟨hb5, h⟩
    · refine sm_icmp_gt (tgt := 204) (q := 141) dX12_game_138 (by decide) rfl (fun _ => ?_) (fun hn => absurd hb5 hn)
      refine sm_iinc (v := (a8 + 1)) (L' := [(8, .inl (a8 + 1)), (0, .inr (.inl a0)), (3, .inl a3), (4, .inl a4), (5, .inl a5), (6, .inl a6), (7, .inl a7)]) (q := 207) dX12_game_204 rfl 6 rfl rfl (by decide) rfl ?_
      refine sm_goto (q := 78) dX12_game_207 (by decide) ?_
      refine sm_pick [1, 2, 3, 4, 5, 6, 0] rfl ?_
      exact hk_78 _ _ _ _ _ _ _ _ _ h
    · refine sm_icmp_gt (tgt := 204) (q := 141) dX12_game_138 (by decide) rfl (fun ht => absurd ht hb5) (fun _ => ?_)
      refine sm_pick [0, 1, 2, 3, 4, 5, 6] rfl ?_
      exact w_X12_game_141 N R k_78 hk_78 _ _ _ _ _ _ _ _ _ h
set_option maxHeartbeats 4000000 in
set_option maxRecDepth 100000 in
theorem w_X12_game_97 {l : Launch} (N : Nat) (R : Nat → Nat → Nat) (k_78 : Nat → Int32 → Int32 → Int32 → Int32 → Int32 → Int32 → (Nat → Nat → Int32) → Option (Int32 × (Nat → Nat → Int32))) (hk_78 : ∀ (a0 : Nat) (a3 : Int32) (a4 : Int32) (a5 : Int32) (a6 : Int32) (a7 : Int32) (a8 : Int32) (I : (Nat → Nat → Int32)) (y : (Int32 × (Nat → Nat → Int32))), k_78 a0 a3 a4 a5 a6 a7 a8 I = some y → sm_W l 7 mX12_game 78 [(0, .inr (.inl a0)), (3, .inl a3), (4, .inl a4), (5, .inl a5), (6, .inl a6), (7, .inl a7), (8, .inl a8)] [] (I, R) (.inl (some (.inl y.1))) (y.2, R)) : ∀ (a0 : Nat) (a3 : Int32) (a4 : Int32) (a5 : Int32) (a6 : Int32) (a7 : Int32) (a8 : Int32) (I : (Nat → Nat → Int32)) (y : (Int32 × (Nat → Nat → Int32))), f_X12_game_97 N R k_78 a0 a3 a4 a5 a6 a7 a8 I = some y → sm_W l 7 mX12_game 97 [(0, .inr (.inl a0)), (3, .inl a3), (4, .inl a4), (5, .inl a5), (6, .inl a6), (7, .inl a7), (8, .inl a8)] [] (I, R) (.inl (some (.inl y.1))) (y.2, R) := by
  intro a0 a3 a4 a5 a6 a7 a8 I y h
  unfold f_X12_game_97 at h
  refine sm_iload (q := 99) dX12_game_97 rfl 6 rfl ?_
  refine sm_iconst (v := 2) (q := 100) dX12_game_99 rfl (by decide) ?_
  refine sm_irem (q := 101) dX12_game_100 rfl (by decide) ?_
  refine sm_iconst (v := 1) (q := 102) dX12_game_101 rfl (by decide) ?_
  rcases sm_if_e h with ⟨hb1, h⟩ | ⟨hb1, h⟩
  · refine sm_icmp_ne (tgt := 113) (q := 105) dX12_game_102 (by decide) rfl (fun hn => absurd hb1 hn) (fun _ => ?_)
    refine sm_iload (q := 107) dX12_game_105 rfl 3 rfl ?_
    rcases sm_if_e h with ⟨hb2, h⟩ | ⟨hb2, h⟩
    · refine sm_if_ne (tgt := 113) (q := 110) dX12_game_107 (by decide) rfl (fun hn => absurd hb2 hn) (fun _ => ?_)
      refine sm_goto (q := 204) dX12_game_110 (by decide) ?_
      refine sm_iinc (v := (a8 + 1)) (L' := [(8, .inl (a8 + 1)), (0, .inr (.inl a0)), (3, .inl a3), (4, .inl a4), (5, .inl a5), (6, .inl a6), (7, .inl a7)]) (q := 207) dX12_game_204 rfl 6 rfl rfl (by decide) rfl ?_
      refine sm_goto (q := 78) dX12_game_207 (by decide) ?_
      refine sm_pick [1, 2, 3, 4, 5, 6, 0] rfl ?_
      exact hk_78 _ _ _ _ _ _ _ _ _ h
    · refine sm_if_ne (tgt := 113) (q := 110) dX12_game_107 (by decide) rfl (fun _ => ?_) (fun he => absurd he hb2)
      refine sm_pick [0, 1, 2, 3, 4, 5, 6] rfl ?_
      exact w_X12_game_113 N R k_78 hk_78 _ _ _ _ _ _ _ _ _ h
  · refine sm_icmp_ne (tgt := 113) (q := 105) dX12_game_102 (by decide) rfl (fun _ => ?_) (fun he => absurd he hb1)
    refine sm_pick [0, 1, 2, 3, 4, 5, 6] rfl ?_
    exact w_X12_game_113 N R k_78 hk_78 _ _ _ _ _ _ _ _ _ h
set_option maxHeartbeats 4000000 in
set_option maxRecDepth 100000 in
theorem w_X12_game_78 {l : Launch} (N : Nat) (R : Nat → Nat → Nat) : ∀ (n : Nat) (a0 : Nat) (a3 : Int32) (a4 : Int32) (a5 : Int32) (a6 : Int32) (a7 : Int32) (a8 : Int32) (I : (Nat → Nat → Int32)) (y : (Int32 × (Nat → Nat → Int32))), f_X12_game_78 N R n a0 a3 a4 a5 a6 a7 a8 I = some y → sm_W l 7 mX12_game 78 [(0, .inr (.inl a0)), (3, .inl a3), (4, .inl a4), (5, .inl a5), (6, .inl a6), (7, .inl a7), (8, .inl a8)] [] (I, R) (.inl (some (.inl y.1))) (y.2, R) := by
  intro n
  induction n with
  | zero => intro a0 a3 a4 a5 a6 a7 a8 I y h; cases h
  | succ n ih =>
    intro a0 a3 a4 a5 a6 a7 a8 I y h
    rw [f_X12_game_78] at h
    refine sm_iload (q := 80) dX12_game_78 rfl 6 rfl ?_
    refine sm_iconst (v := 4) (q := 81) dX12_game_80 rfl (by decide) ?_
    rcases sm_if_e h with ⟨hb1, h⟩ | ⟨hb1, h⟩
    · refine sm_icmp_ge (tgt := 210) (q := 84) dX12_game_81 (by decide) rfl (fun _ => ?_) (fun hn => absurd hb1 hn)
      refine sm_iload_n (q := 211) dX12_game_210 rfl rfl 1 rfl ?_
      rcases sm_if_e h with ⟨hb2, h⟩ | ⟨hb2, h⟩
      · refine sm_if_ne (tgt := 219) (q := 214) dX12_game_211 (by decide) rfl (fun hn => absurd hb2 hn) (fun _ => ?_)
        refine sm_iload (q := 216) dX12_game_214 rfl 4 rfl ?_
        refine sm_goto (q := 221) dX12_game_216 (by decide) ?_
        obtain rfl := Option.some.inj h
        exact sm_iret dX12_game_221 rfl
      · refine sm_if_ne (tgt := 219) (q := 214) dX12_game_211 (by decide) rfl (fun _ => ?_) (fun he => absurd he hb2)
        refine sm_iload (q := 221) dX12_game_219 rfl 5 rfl ?_
        obtain rfl := Option.some.inj h
        exact sm_iret dX12_game_221 rfl
    · refine sm_icmp_ge (tgt := 210) (q := 84) dX12_game_81 (by decide) rfl (fun ht => absurd ht hb1) (fun _ => ?_)
      refine sm_iload (q := 86) dX12_game_84 rfl 6 rfl ?_
      refine sm_iconst (v := 2) (q := 87) dX12_game_86 rfl (by decide) ?_
      refine sm_idiv (q := 88) dX12_game_87 rfl (by decide) ?_
      refine sm_iconst (v := 1) (q := 89) dX12_game_88 rfl (by decide) ?_
      rcases sm_if_e h with ⟨hb3, h⟩ | ⟨hb3, h⟩
      · refine sm_icmp_ne (tgt := 97) (q := 92) dX12_game_89 (by decide) rfl (fun hn => absurd hb3 hn) (fun _ => ?_)
        refine sm_iload (q := 94) dX12_game_92 rfl 2 rfl ?_
        rcases sm_if_e h with ⟨hb4, h⟩ | ⟨hb4, h⟩
        · refine sm_if_eq (tgt := 204) (q := 97) dX12_game_94 (by decide) rfl (fun _ => ?_) (fun hn => absurd hb4 hn)
          refine sm_iinc (v := (a8 + 1)) (L' := [(8, .inl (a8 + 1)), (0, .inr (.inl a0)), (3, .inl a3), (4, .inl a4), (5, .inl a5), (6, .inl a6), (7, .inl a7)]) (q := 207) dX12_game_204 rfl 6 rfl rfl (by decide) rfl ?_
          refine sm_goto (q := 78) dX12_game_207 (by decide) ?_
          refine sm_pick [1, 2, 3, 4, 5, 6, 0] rfl ?_
          exact ih _ _ _ _ _ _ _ _ _ h
        · refine sm_if_eq (tgt := 204) (q := 97) dX12_game_94 (by decide) rfl (fun ht => absurd ht hb4) (fun _ => ?_)
          refine sm_pick [0, 1, 2, 3, 4, 5, 6] rfl ?_
          exact w_X12_game_97 N R (fun z0 z1 z2 z3 z4 z5 z6 J => f_X12_game_78 N R n z0 z1 z2 z3 z4 z5 z6 J) (fun z0 z1 z2 z3 z4 z5 z6 J y h => ih z0 z1 z2 z3 z4 z5 z6 J y h) _ _ _ _ _ _ _ _ _ h
      · refine sm_icmp_ne (tgt := 97) (q := 92) dX12_game_89 (by decide) rfl (fun _ => ?_) (fun he => absurd he hb3)
        refine sm_pick [0, 1, 2, 3, 4, 5, 6] rfl ?_
        exact w_X12_game_97 N R (fun z0 z1 z2 z3 z4 z5 z6 J => f_X12_game_78 N R n z0 z1 z2 z3 z4 z5 z6 J) (fun z0 z1 z2 z3 z4 z5 z6 J y h => ih z0 z1 z2 z3 z4 z5 z6 J y h) _ _ _ _ _ _ _ _ _ h
set_option maxHeartbeats 4000000 in
set_option maxRecDepth 100000 in
theorem w_X12_game {l : Launch} (N : Nat) (R : Nat → Nat → Nat) : ∀ (a0 : Nat) (a1 : Int32) (a2 : Int32) (a3 : Int32) (I : (Nat → Nat → Int32)) (y : (Int32 × (Nat → Nat → Int32))), f_X12_game N R a0 a1 a2 a3 I = some y → sm_W l 7 mX12_game 0 [(0, .inr (.inl a0)), (1, .inl a1), (2, .inl a2), (3, .inl a3)] [] (I, R) (.inl (some (.inl y.1))) (y.2, R) := by
  intro a0 a1 a2 a3 I y h
  unfold f_X12_game at h
  refine sm_aload_n (q := 1) dX12_game_0 rfl rfl 0 rfl ?_
  refine sm_iconst (v := 0) (q := 2) dX12_game_1 rfl (by decide) ?_
  obtain ⟨hc1, h⟩ := sm_gd_e h
  obtain ⟨I2, hI2, h⟩ := sm_lt_e h
  refine sm_putI (q := 5) dX12_game_2 rfl fk_X12_152 hc1 (by decide) (by decide) ?_
  refine sm_memI hI2 ?_
  refine sm_aload_n (q := 6) dX12_game_5 rfl rfl 0 rfl ?_
  refine sm_iload_n (q := 7) dX12_game_6 rfl rfl 1 rfl ?_
  obtain ⟨p3, hc_p3, h⟩ := sm_bd_e h
  refine sm_callVi (q := 10) (As := [.inl a1]) (S := []) (e_X12_isPupil hc_p3) mv_X12_375 hc1 rfl (by decide) (Nat.le_of_ble_eq_true rfl) dX12_game_7 rfl ?_
  rcases sm_if_e h with ⟨hb4, h⟩ | ⟨hb4, h⟩
  · refine sm_if_eq (tgt := 30) (q := 13) dX12_game_10 (by decide) rfl (fun _ => ?_) (fun hn => absurd hb4 hn)
    refine sm_aload_n (q := 31) dX12_game_30 rfl rfl 0 rfl ?_
    refine sm_iconst (v := 1) (q := 32) dX12_game_31 rfl (by decide) ?_
    obtain ⟨p5, hc_p5, h⟩ := sm_bd_e h
    refine sm_callVi (q := 35) (As := [.inl (1 : Int32)]) (S := []) (e_X12_fail hc_p5) mv_X12_283 hc1 rfl (by decide) (Nat.le_of_ble_eq_true rfl) dX12_game_32 rfl ?_
    obtain rfl := Option.some.inj h
    exact sm_iret dX12_game_35 rfl
  · refine sm_if_eq (tgt := 30) (q := 13) dX12_game_10 (by decide) rfl (fun ht => absurd ht hb4) (fun _ => ?_)
    refine sm_aload_n (q := 14) dX12_game_13 rfl rfl 0 rfl ?_
    refine sm_iload_n (q := 15) dX12_game_14 rfl rfl 2 rfl ?_
    obtain ⟨p6, hc_p6, h⟩ := sm_bd_e h
    refine sm_callVi (q := 18) (As := [.inl a2]) (S := []) (e_X12_isPupil hc_p6) mv_X12_375 hc1 rfl (by decide) (Nat.le_of_ble_eq_true rfl) dX12_game_15 rfl ?_
    rcases sm_if_e h with ⟨hb7, h⟩ | ⟨hb7, h⟩
    · refine sm_if_eq (tgt := 30) (q := 21) dX12_game_18 (by decide) rfl (fun _ => ?_) (fun hn => absurd hb7 hn)
      refine sm_aload_n (q := 31) dX12_game_30 rfl rfl 0 rfl ?_
      refine sm_iconst (v := 1) (q := 32) dX12_game_31 rfl (by decide) ?_
      obtain ⟨p8, hc_p8, h⟩ := sm_bd_e h
      refine sm_callVi (q := 35) (As := [.inl (1 : Int32)]) (S := []) (e_X12_fail hc_p8) mv_X12_283 hc1 rfl (by decide) (Nat.le_of_ble_eq_true rfl) dX12_game_32 rfl ?_
      obtain rfl := Option.some.inj h
      exact sm_iret dX12_game_35 rfl
    · refine sm_if_eq (tgt := 30) (q := 21) dX12_game_18 (by decide) rfl (fun ht => absurd ht hb7) (fun _ => ?_)
      refine sm_iload_n (q := 22) dX12_game_21 rfl rfl 3 rfl ?_
      rcases sm_if_e h with ⟨hb9, h⟩ | ⟨hb9, h⟩
      · refine sm_if_lt (tgt := 30) (q := 25) dX12_game_22 (by decide) rfl (fun _ => ?_) (fun hn => absurd hb9 hn)
        refine sm_aload_n (q := 31) dX12_game_30 rfl rfl 0 rfl ?_
        refine sm_iconst (v := 1) (q := 32) dX12_game_31 rfl (by decide) ?_
        obtain ⟨p10, hc_p10, h⟩ := sm_bd_e h
        refine sm_callVi (q := 35) (As := [.inl (1 : Int32)]) (S := []) (e_X12_fail hc_p10) mv_X12_283 hc1 rfl (by decide) (Nat.le_of_ble_eq_true rfl) dX12_game_32 rfl ?_
        obtain rfl := Option.some.inj h
        exact sm_iret dX12_game_35 rfl
      · refine sm_if_lt (tgt := 30) (q := 25) dX12_game_22 (by decide) rfl (fun ht => absurd ht hb9) (fun _ => ?_)
        refine sm_iload_n (q := 26) dX12_game_25 rfl rfl 3 rfl ?_
        refine sm_iconst (v := 1) (q := 27) dX12_game_26 rfl (by decide) ?_
        rcases sm_if_e h with ⟨hb11, h⟩ | ⟨hb11, h⟩
        · refine sm_icmp_le (tgt := 36) (q := 30) dX12_game_27 (by decide) rfl (fun _ => ?_) (fun hn => absurd hb11 hn)
          refine sm_iload_n (q := 37) dX12_game_36 rfl rfl 1 rfl ?_
          refine sm_iload_n (q := 38) dX12_game_37 rfl rfl 2 rfl ?_
          rcases sm_if_e h with ⟨hb12, h⟩ | ⟨hb12, h⟩
          · refine sm_icmp_ne (tgt := 47) (q := 41) dX12_game_38 (by decide) rfl (fun hn => absurd hb12 hn) (fun _ => ?_)
            refine sm_aload_n (q := 42) dX12_game_41 rfl rfl 0 rfl ?_
            refine sm_iconst (v := 2) (q := 43) dX12_game_42 rfl (by decide) ?_
            obtain ⟨p13, hc_p13, h⟩ := sm_bd_e h
            refine sm_callVi (q := 46) (As := [.inl (2 : Int32)]) (S := []) (e_X12_fail hc_p13) mv_X12_283 hc1 rfl (by decide) (Nat.le_of_ble_eq_true rfl) dX12_game_43 rfl ?_
            obtain rfl := Option.some.inj h
            exact sm_iret dX12_game_46 rfl
          · refine sm_icmp_ne (tgt := 47) (q := 41) dX12_game_38 (by decide) rfl (fun _ => ?_) (fun he => absurd he hb12)
            refine sm_aload_n (q := 48) dX12_game_47 rfl rfl 0 rfl ?_
            refine sm_iload_n (q := 49) dX12_game_48 rfl rfl 1 rfl ?_
            refine sm_iconst (v := 1) (q := 50) dX12_game_49 rfl (by decide) ?_
            obtain ⟨p14, hc_p14, h⟩ := sm_bd_e h
            refine sm_callVi (q := 53) (As := [.inl a1, .inl (1 : Int32)]) (S := []) (e_X12_mayGo hc_p14) mv_X12_358 hc1 rfl (by decide) (Nat.le_of_ble_eq_true rfl) dX12_game_50 rfl ?_
            refine sm_istore (L' := [(4, .inl p14.1), (0, .inr (.inl a0)), (1, .inl a1), (2, .inl a2), (3, .inl a3)]) (q := 55) dX12_game_53 rfl (by decide) rfl ?_
            refine sm_aload_n (q := 56) dX12_game_55 rfl rfl 1 rfl ?_
            refine sm_iload_n (q := 57) dX12_game_56 rfl rfl 3 rfl ?_
            refine sm_iconst (v := 1) (q := 58) dX12_game_57 rfl (by decide) ?_
            obtain ⟨p15, hc_p15, h⟩ := sm_bd_e h
            refine sm_callVi (q := 61) (As := [.inl a2, .inl (1 : Int32)]) (S := []) (e_X12_mayGo hc_p15) mv_X12_358 hc1 rfl (by decide) (Nat.le_of_ble_eq_true rfl) dX12_game_58 rfl ?_
            refine sm_istore (L' := [(5, .inl p15.1), (4, .inl p14.1), (0, .inr (.inl a0)), (1, .inl a1), (2, .inl a2), (3, .inl a3)]) (q := 63) dX12_game_61 rfl (by decide) rfl ?_
            refine sm_aload_n (q := 64) dX12_game_63 rfl rfl 2 rfl ?_
            refine sm_iload_n (q := 65) dX12_game_64 rfl rfl 3 rfl ?_
            refine sm_iload_n (q := 66) dX12_game_65 rfl rfl 4 rfl ?_
            obtain ⟨p16, hc_p16, h⟩ := sm_bd_e h
            refine sm_callVv (q := 69) (As := [.inl a1, .inl a2]) (S := []) (e_X12_tellGains hc_p16) mv_X12_446 hc1 rfl (by decide) (Nat.le_of_ble_eq_true rfl) dX12_game_66 rfl ?_
            refine sm_iconst (v := 0) (q := 70) dX12_game_69 rfl (by decide) ?_
            refine sm_istore (L' := [(6, .inl (0 : Int32)), (5, .inl p15.1), (4, .inl p14.1), (0, .inr (.inl a0)), (1, .inl a1), (2, .inl a2), (3, .inl a3)]) (q := 72) dX12_game_70 rfl (by decide) rfl ?_
            refine sm_iconst (v := -1) (q := 73) dX12_game_72 rfl (by decide) ?_
            refine sm_istore (L' := [(7, .inl (-1 : Int32)), (6, .inl (0 : Int32)), (5, .inl p15.1), (4, .inl p14.1), (0, .inr (.inl a0)), (1, .inl a1), (2, .inl a2), (3, .inl a3)]) (q := 75) dX12_game_73 rfl (by decide) rfl ?_
            refine sm_iconst (v := 0) (q := 76) dX12_game_75 rfl (by decide) ?_
            refine sm_istore (L' := [(8, .inl (0 : Int32)), (7, .inl (-1 : Int32)), (6, .inl (0 : Int32)), (5, .inl p15.1), (4, .inl p14.1), (0, .inr (.inl a0)), (1, .inl a1), (2, .inl a2), (3, .inl a3)]) (q := 78) dX12_game_76 rfl (by decide) rfl ?_
            refine sm_pick [5, 8, 4, 3, 2, 1, 0] rfl ?_
            exact w_X12_game_78 N R N _ _ _ _ _ _ _ _ _ h
        · refine sm_icmp_le (tgt := 36) (q := 30) dX12_game_27 (by decide) rfl (fun ht => absurd ht hb11) (fun _ => ?_)
          refine sm_aload_n (q := 31) dX12_game_30 rfl rfl 0 rfl ?_
          refine sm_iconst (v := 1) (q := 32) dX12_game_31 rfl (by decide) ?_
          obtain ⟨p17, hc_p17, h⟩ := sm_bd_e h
          refine sm_callVi (q := 35) (As := [.inl (1 : Int32)]) (S := []) (e_X12_fail hc_p17) mv_X12_283 hc1 rfl (by decide) (Nat.le_of_ble_eq_true rfl) dX12_game_32 rfl ?_
          obtain rfl := Option.some.inj h
          exact sm_iret dX12_game_35 rfl
theorem e_X12_game {l : Launch} {N : Nat} {R : Nat → Nat → Nat} {a0 : Nat} {a1 : Int32} {a2 : Int32} {a3 : Int32} {I : (Nat → Nat → Int32)} {y : (Int32 × (Nat → Nat → Int32))} (h : f_X12_game N R a0 a1 a2 a3 I = some y) : sm_E l 7 mX12_game [.inr (.inl a0), .inl a1, .inl a2, .inl a3] (I, R) (.inl (some (.inl y.1))) (y.2, R) :=
  sm_meth (by decide) (Nat.le_of_ble_eq_true rfl) (w_X12_game N R a0 a1 a2 a3 I y h)
def f_X12_drawOf (N : Nat) (R : Nat → Nat → Nat) : Nat → Int32 → (Nat → Nat → Int32) → Option (Int32 × (Nat → Nat → Int32)) := fun a0 a1 I =>
  sm_gd (sm_kd a0 = (12, 59)) <|
  sm_lt (sm_up I a0 (sm_up (I a0) 49 (((I a0 49) * (1103515245 : Int32)) + (12345 : Int32)))) fun I2 =>
  sm_gd (¬ a1 = 0) <|
  some (((((I2 a0 49) >>> ((16 : Int32) &&& 31)) &&& (32767 : Int32)) - (((I2 a0 49) >>> ((16 : Int32) &&& 31)) &&& (32767 : Int32)) / a1 * a1), I2)
set_option maxHeartbeats 4000000 in
set_option maxRecDepth 100000 in
theorem w_X12_drawOf {l : Launch} (N : Nat) (R : Nat → Nat → Nat) : ∀ (a0 : Nat) (a1 : Int32) (I : (Nat → Nat → Int32)) (y : (Int32 × (Nat → Nat → Int32))), f_X12_drawOf N R a0 a1 I = some y → sm_W l 0 mX12_drawOf 0 [(0, .inr (.inl a0)), (1, .inl a1)] [] (I, R) (.inl (some (.inl y.1))) (y.2, R) := by
  intro a0 a1 I y h
  unfold f_X12_drawOf at h
  refine sm_aload_n (q := 1) dX12_drawOf_0 rfl rfl 0 rfl ?_
  refine sm_aload_n (q := 2) dX12_drawOf_1 rfl rfl 0 rfl ?_
  obtain ⟨hc1, h⟩ := sm_gd_e h
  refine sm_getI (q := 5) dX12_drawOf_2 rfl fk_X12_449 hc1 (by decide) (by decide) ?_
  refine sm_ldcw (q := 8) dX12_drawOf_5 rfl co_X12_452 ?_
  refine sm_imul (q := 9) dX12_drawOf_8 rfl ?_
  refine sm_sipush (v := 12345) (q := 12) dX12_drawOf_9 rfl (by decide) ?_
  refine sm_iadd (q := 13) dX12_drawOf_12 rfl ?_
  obtain ⟨I2, hI2, h⟩ := sm_lt_e h
  refine sm_putI (q := 16) dX12_drawOf_13 rfl fk_X12_449 hc1 (by decide) (by decide) ?_
  refine sm_memI hI2 ?_
  refine sm_aload_n (q := 17) dX12_drawOf_16 rfl rfl 0 rfl ?_
  refine sm_getI (q := 20) dX12_drawOf_17 rfl fk_X12_449 hc1 (by decide) (by decide) ?_
  refine sm_bipush (v := 16) (q := 22) dX12_drawOf_20 rfl (by decide) ?_
  refine sm_ishr (q := 23) dX12_drawOf_22 rfl ?_
  refine sm_sipush (v := 32767) (q := 26) dX12_drawOf_23 rfl (by decide) ?_
  refine sm_iand (q := 27) dX12_drawOf_26 rfl ?_
  refine sm_iload_n (q := 28) dX12_drawOf_27 rfl rfl 1 rfl ?_
  obtain ⟨hc3, h⟩ := sm_gd_e h
  refine sm_irem (q := 29) dX12_drawOf_28 rfl hc3 ?_
  obtain rfl := Option.some.inj h
  exact sm_iret dX12_drawOf_29 rfl
theorem e_X12_drawOf {l : Launch} {N : Nat} {R : Nat → Nat → Nat} {a0 : Nat} {a1 : Int32} {I : (Nat → Nat → Int32)} {y : (Int32 × (Nat → Nat → Int32))} (h : f_X12_drawOf N R a0 a1 I = some y) : sm_E l 0 mX12_drawOf [.inr (.inl a0), .inl a1] (I, R) (.inl (some (.inl y.1))) (y.2, R) :=
  sm_meth (by decide) (Nat.le_of_ble_eq_true rfl) (w_X12_drawOf N R a0 a1 I y h)
def f_X12_something_71 (N : Nat) (R : Nat → Nat → Nat) : Nat → Int32 → Int32 → (Nat → Nat → Int32) → Option (Unit × (Nat → Nat → Int32)) := fun a0 a1 a2 I =>
  if a1 = (2 : Int32) then (
    sm_gd (sm_kd a0 = (12, 59)) <|
    sm_gd ((sm_kd (R a0 26)).1 = 13 ∧ ¬ (a2 < 0 ∨ (sm_kd (R a0 26)).2 ≤ (a2).toNatClampNeg)) <|
    sm_lt (sm_up I (R a0 26) (sm_up (I (R a0 26)) (a2).toNatClampNeg (sm_mx (0 : Int32) ((I (R a0 26) (a2).toNatClampNeg) - (3 : Int32))))) fun I4 =>
    some ((), I4))
  else (
    some ((), I))
def f_X12_something_60 (N : Nat) (R : Nat → Nat → Nat) : Nat → Int32 → Int32 → (Nat → Nat → Int32) → Option (Unit × (Nat → Nat → Int32)) := fun a0 a1 a2 I =>
  if a1 = (1 : Int32) then (
    sm_gd (sm_kd a0 = (12, 59)) <|
    (f_X12_tire N R a0 a2 (3 : Int32) I).bind fun p3 =>
    f_X12_something_71 N R a0 a1 a2 p3.2)
  else (
    f_X12_something_71 N R a0 a1 a2 I)
def f_X12_something (N : Nat) (R : Nat → Nat → Nat) : Nat → (Nat → Nat → Int32) → Option (Unit × (Nat → Nat → Int32)) := fun a0 I =>
  sm_gd (sm_kd a0 = (12, 59)) <|
  (f_X12_drawOf N R a0 (5 : Int32) I).bind fun p2 =>
  if (2 : Int32) < p2.1 then (
    some ((), p2.2))
  else (
    sm_gd ((sm_kd (R a0 4)).1 = 13 ∧ ¬ ((1 : Int32) < 0 ∨ (sm_kd (R a0 4)).2 ≤ ((1 : Int32)).toNatClampNeg)) <|
    if (p2.2 (R a0 4) ((1 : Int32)).toNatClampNeg) = 0 then (
      some ((), p2.2))
    else (
      (f_X12_drawOf N R a0 (p2.2 (R a0 4) ((1 : Int32)).toNatClampNeg) p2.2).bind fun p6 =>
      if p2.1 = 0 then (
        (f_X12_drawOf N R a0 (30 : Int32) p6.2).bind fun p8 =>
        (f_X12_mayGo N R a0 p6.1 (p8.1 + (1 : Int32)) p8.2).bind fun p9 =>
        if p9.1 = 0 then (
          f_X12_something_60 N R a0 p2.1 p6.1 p9.2)
        else (
          (f_X12_go N R a0 p6.1 (p8.1 + (1 : Int32)) p9.2).bind fun p11 =>
          f_X12_something_60 N R a0 p2.1 p6.1 p11.2))
      else (
        f_X12_something_60 N R a0 p2.1 p6.1 p6.2)))
set_option maxHeartbeats 4000000 in
set_option maxRecDepth 100000 in
theorem w_X12_something_71 {l : Launch} (N : Nat) (R : Nat → Nat → Nat) : ∀ (a0 : Nat) (a1 : Int32) (a2 : Int32) (I : (Nat → Nat → Int32)) (y : (Unit × (Nat → Nat → Int32))), f_X12_something_71 N R a0 a1 a2 I = some y → sm_W l 5 mX12_something 71 [(0, .inr (.inl a0)), (1, .inl a1), (2, .inl a2)] [] (I, R) (.inl none) (y.2, R) := by
  intro a0 a1 a2 I y h
  unfold f_X12_something_71 at h
  refine sm_iload_n (q := 72) dX12_something_71 rfl rfl 1 rfl ?_
  refine sm_iconst (v := 2) (q := 73) dX12_something_72 rfl (by decide) ?_
  rcases sm_if_e h with ⟨hb1, h⟩ | ⟨hb1, h⟩
  · refine sm_icmp_ne (tgt := 94) (q := 76) dX12_something_73 (by decide) rfl (fun hn => absurd hb1 hn) (fun _ => ?_)
    refine sm_aload_n (q := 77) dX12_something_76 rfl rfl 0 rfl ?_
    obtain ⟨hc2, h⟩ := sm_gd_e h
    refine sm_getR (r := R a0 26) (q := 80) dX12_something_77 rfl fk_X12_79 hc2 (by decide) (by decide) rfl ?_
    refine sm_iload_n (q := 81) dX12_something_80 rfl rfl 2 rfl ?_
    refine sm_iconst (v := 0) (q := 82) dX12_something_81 rfl (by decide) ?_
    refine sm_aload_n (q := 83) dX12_something_82 rfl rfl 0 rfl ?_
    refine sm_getR (r := R a0 26) (q := 86) dX12_something_83 rfl fk_X12_79 hc2 (by decide) (by decide) rfl ?_
    refine sm_iload_n (q := 87) dX12_something_86 rfl rfl 2 rfl ?_
    obtain ⟨hc3, h⟩ := sm_gd_e h
    refine sm_iald (n := (sm_kd (R a0 26)).2) (q := 88) dX12_something_87 rfl (Prod.ext hc3.1 rfl) hc3.2 ?_
    refine sm_iconst (v := 3) (q := 89) dX12_something_88 rfl (by decide) ?_
    refine sm_isub (q := 90) dX12_something_89 rfl ?_
    refine sm_mmx (q := 93) dX12_something_90 rfl mm_X12_328 (Nat.le_of_ble_eq_true rfl) ?_
    obtain ⟨I4, hI4, h⟩ := sm_lt_e h
    refine sm_iast (n := (sm_kd (R a0 26)).2) (q := 94) dX12_something_93 rfl (Prod.ext hc3.1 rfl) hc3.2 ?_
    refine sm_memI hI4 ?_
    obtain rfl := Option.some.inj h
    exact sm_vret dX12_something_94 rfl
  · refine sm_icmp_ne (tgt := 94) (q := 76) dX12_something_73 (by decide) rfl (fun _ => ?_) (fun he => absurd he hb1)
    obtain rfl := Option.some.inj h
    exact sm_vret dX12_something_94 rfl
set_option maxHeartbeats 4000000 in
set_option maxRecDepth 100000 in
theorem w_X12_something_60 {l : Launch} (N : Nat) (R : Nat → Nat → Nat) : ∀ (a0 : Nat) (a1 : Int32) (a2 : Int32) (I : (Nat → Nat → Int32)) (y : (Unit × (Nat → Nat → Int32))), f_X12_something_60 N R a0 a1 a2 I = some y → sm_W l 5 mX12_something 60 [(0, .inr (.inl a0)), (1, .inl a1), (2, .inl a2)] [] (I, R) (.inl none) (y.2, R) := by
  intro a0 a1 a2 I y h
  unfold f_X12_something_60 at h
  refine sm_iload_n (q := 61) dX12_something_60 rfl rfl 1 rfl ?_
  refine sm_iconst (v := 1) (q := 62) dX12_something_61 rfl (by decide) ?_
  rcases sm_if_e h with ⟨hb1, h⟩ | ⟨hb1, h⟩
  · refine sm_icmp_ne (tgt := 71) (q := 65) dX12_something_62 (by decide) rfl (fun hn => absurd hb1 hn) (fun _ => ?_)
    refine sm_aload_n (q := 66) dX12_something_65 rfl rfl 0 rfl ?_
    refine sm_iload_n (q := 67) dX12_something_66 rfl rfl 2 rfl ?_
    refine sm_iconst (v := 3) (q := 68) dX12_something_67 rfl (by decide) ?_
    obtain ⟨hc2, h⟩ := sm_gd_e h
    obtain ⟨p3, hc_p3, h⟩ := sm_bd_e h
    refine sm_callVv (q := 71) (As := [.inl a2, .inl (3 : Int32)]) (S := []) (e_X12_tire hc_p3) mv_X12_354 hc2 rfl (by decide) (Nat.le_of_ble_eq_true rfl) dX12_something_68 rfl ?_
    refine sm_pick [0, 1, 2] rfl ?_
    exact w_X12_something_71 N R _ _ _ _ _ h
  · refine sm_icmp_ne (tgt := 71) (q := 65) dX12_something_62 (by decide) rfl (fun _ => ?_) (fun he => absurd he hb1)
    refine sm_pick [0, 1, 2] rfl ?_
    exact w_X12_something_71 N R _ _ _ _ _ h
set_option maxHeartbeats 4000000 in
set_option maxRecDepth 100000 in
theorem w_X12_something {l : Launch} (N : Nat) (R : Nat → Nat → Nat) : ∀ (a0 : Nat) (I : (Nat → Nat → Int32)) (y : (Unit × (Nat → Nat → Int32))), f_X12_something N R a0 I = some y → sm_W l 5 mX12_something 0 [(0, .inr (.inl a0))] [] (I, R) (.inl none) (y.2, R) := by
  intro a0 I y h
  unfold f_X12_something at h
  refine sm_aload_n (q := 1) dX12_something_0 rfl rfl 0 rfl ?_
  refine sm_iconst (v := 5) (q := 2) dX12_something_1 rfl (by decide) ?_
  obtain ⟨hc1, h⟩ := sm_gd_e h
  obtain ⟨p2, hc_p2, h⟩ := sm_bd_e h
  refine sm_callVi (q := 5) (As := [.inl (5 : Int32)]) (S := []) (e_X12_drawOf hc_p2) mv_X12_453 hc1 rfl (by decide) (Nat.le_of_ble_eq_true rfl) dX12_something_2 rfl ?_
  refine sm_istore_n (L' := [(1, .inl p2.1), (0, .inr (.inl a0))]) (q := 6) dX12_something_5 rfl rfl (by decide) rfl ?_
  refine sm_iload_n (q := 7) dX12_something_6 rfl rfl 0 rfl ?_
  refine sm_iconst (v := 2) (q := 8) dX12_something_7 rfl (by decide) ?_
  rcases sm_if_e h with ⟨hb3, h⟩ | ⟨hb3, h⟩
  · refine sm_icmp_gt (tgt := 20) (q := 11) dX12_something_8 (by decide) rfl (fun _ => ?_) (fun hn => absurd hb3 hn)
    obtain rfl := Option.some.inj h
    exact sm_vret dX12_something_20 rfl
  · refine sm_icmp_gt (tgt := 20) (q := 11) dX12_something_8 (by decide) rfl (fun ht => absurd ht hb3) (fun _ => ?_)
    refine sm_aload_n (q := 12) dX12_something_11 rfl rfl 1 rfl ?_
    refine sm_getR (r := R a0 4) (q := 15) dX12_something_12 rfl fk_X12_41 hc1 (by decide) (by decide) rfl ?_
    refine sm_iconst (v := 1) (q := 16) dX12_something_15 rfl (by decide) ?_
    obtain ⟨hc4, h⟩ := sm_gd_e h
    refine sm_iald (n := (sm_kd (R a0 4)).2) (q := 17) dX12_something_16 rfl (Prod.ext hc4.1 rfl) hc4.2 ?_
    rcases sm_if_e h with ⟨hb5, h⟩ | ⟨hb5, h⟩
    · refine sm_if_ne (tgt := 21) (q := 20) dX12_something_17 (by decide) rfl (fun hn => absurd hb5 hn) (fun _ => ?_)
      obtain rfl := Option.some.inj h
      exact sm_vret dX12_something_20 rfl
    · refine sm_if_ne (tgt := 21) (q := 20) dX12_something_17 (by decide) rfl (fun _ => ?_) (fun he => absurd he hb5)
      refine sm_aload_n (q := 22) dX12_something_21 rfl rfl 1 rfl ?_
      refine sm_aload_n (q := 23) dX12_something_22 rfl rfl 1 rfl ?_
      refine sm_getR (r := R a0 4) (q := 26) dX12_something_23 rfl fk_X12_41 hc1 (by decide) (by decide) rfl ?_
      refine sm_iconst (v := 1) (q := 27) dX12_something_26 rfl (by decide) ?_
      refine sm_iald (n := (sm_kd (R a0 4)).2) (q := 28) dX12_something_27 rfl (Prod.ext hc4.1 rfl) hc4.2 ?_
      obtain ⟨p6, hc_p6, h⟩ := sm_bd_e h
      refine sm_callVi (q := 31) (As := [.inl (p2.2 (R a0 4) ((1 : Int32)).toNatClampNeg)]) (S := []) (e_X12_drawOf hc_p6) mv_X12_453 hc1 rfl (by decide) (Nat.le_of_ble_eq_true rfl) dX12_something_28 rfl ?_
      refine sm_istore_n (L' := [(2, .inl p6.1), (1, .inl p2.1), (0, .inr (.inl a0))]) (q := 32) dX12_something_31 rfl rfl (by decide) rfl ?_
      refine sm_iload_n (q := 33) dX12_something_32 rfl rfl 1 rfl ?_
      rcases sm_if_e h with ⟨hb7, h⟩ | ⟨hb7, h⟩
      · refine sm_if_ne (tgt := 60) (q := 36) dX12_something_33 (by decide) rfl (fun hn => absurd hb7 hn) (fun _ => ?_)
        refine sm_aload_n (q := 37) dX12_something_36 rfl rfl 2 rfl ?_
        refine sm_bipush (v := 30) (q := 39) dX12_something_37 rfl (by decide) ?_
        obtain ⟨p8, hc_p8, h⟩ := sm_bd_e h
        refine sm_callVi (q := 42) (As := [.inl (30 : Int32)]) (S := []) (e_X12_drawOf hc_p8) mv_X12_453 hc1 rfl (by decide) (Nat.le_of_ble_eq_true rfl) dX12_something_39 rfl ?_
        refine sm_iconst (v := 1) (q := 43) dX12_something_42 rfl (by decide) ?_
        refine sm_iadd (q := 44) dX12_something_43 rfl ?_
        refine sm_istore_n (L' := [(3, .inl (p8.1 + (1 : Int32))), (2, .inl p6.1), (1, .inl p2.1), (0, .inr (.inl a0))]) (q := 45) dX12_something_44 rfl rfl (by decide) rfl ?_
        refine sm_aload_n (q := 46) dX12_something_45 rfl rfl 3 rfl ?_
        refine sm_iload_n (q := 47) dX12_something_46 rfl rfl 1 rfl ?_
        refine sm_iload_n (q := 48) dX12_something_47 rfl rfl 0 rfl ?_
        obtain ⟨p9, hc_p9, h⟩ := sm_bd_e h
        refine sm_callVi (q := 51) (As := [.inl p6.1, .inl (p8.1 + (1 : Int32))]) (S := []) (e_X12_mayGo hc_p9) mv_X12_358 hc1 rfl (by decide) (Nat.le_of_ble_eq_true rfl) dX12_something_48 rfl ?_
        rcases sm_if_e h with ⟨hb10, h⟩ | ⟨hb10, h⟩
        · refine sm_if_eq (tgt := 60) (q := 54) dX12_something_51 (by decide) rfl (fun _ => ?_) (fun hn => absurd hb10 hn)
          refine sm_pick [3, 2, 1] rfl ?_
          exact w_X12_something_60 N R _ _ _ _ _ h
        · refine sm_if_eq (tgt := 60) (q := 54) dX12_something_51 (by decide) rfl (fun ht => absurd ht hb10) (fun _ => ?_)
          refine sm_aload_n (q := 55) dX12_something_54 rfl rfl 3 rfl ?_
          refine sm_iload_n (q := 56) dX12_something_55 rfl rfl 1 rfl ?_
          refine sm_iload_n (q := 57) dX12_something_56 rfl rfl 0 rfl ?_
          obtain ⟨p11, hc_p11, h⟩ := sm_bd_e h
          refine sm_callVv (q := 60) (As := [.inl p6.1, .inl (p8.1 + (1 : Int32))]) (S := []) (e_X12_go hc_p11) mv_X12_393 hc1 rfl (by decide) (Nat.le_of_ble_eq_true rfl) dX12_something_57 rfl ?_
          refine sm_pick [3, 2, 1] rfl ?_
          exact w_X12_something_60 N R _ _ _ _ _ h
      · refine sm_if_ne (tgt := 60) (q := 36) dX12_something_33 (by decide) rfl (fun _ => ?_) (fun he => absurd he hb7)
        refine sm_pick [2, 1, 0] rfl ?_
        exact w_X12_something_60 N R _ _ _ _ _ h
theorem e_X12_something {l : Launch} {N : Nat} {R : Nat → Nat → Nat} {a0 : Nat} {I : (Nat → Nat → Int32)} {y : (Unit × (Nat → Nat → Int32))} (h : f_X12_something N R a0 I = some y) : sm_E l 5 mX12_something [.inr (.inl a0)] (I, R) (.inl none) (y.2, R) :=
  sm_meth (by decide) (Nat.le_of_ble_eq_true rfl) (w_X12_something N R a0 I y h)
