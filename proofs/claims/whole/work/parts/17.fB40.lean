def f_X11_duet_26 (N : Nat) (R : Nat → Nat → Nat) (k_7 : Nat → Int32 → Int32 → Int32 → (Nat → Nat → Int32) → Option (Int32 × (Nat → Nat → Int32))) : Nat → Nat → Int32 → Int32 → Int32 → Int32 → (Nat → Nat → Int32) → Option (Int32 × (Nat → Nat → Int32))
  | 0, _, _, _, _, _, _ => none
  | n + 1, a0, a1, a2, a3, a4, I =>
    sm_gd (sm_kd a0 = (11, 18)) <|
    sm_gd (sm_kd (R a0 3) = (7, 9)) <|
    sm_gd (sm_kd (R (R a0 3) 5) = (10, 4)) <|
    if (I (R (R a0 3) 5) 1) ≤ a4 then (
      k_7 a0 a1 a2 (a3 + 1) I)
    else (
      sm_gd ((sm_kd (R (R (R a0 3) 5) 0)).1 = 16 ∧ ¬ (a3 < 0 ∨ (sm_kd (R (R (R a0 3) 5) 0)).2 ≤ (a3).toNatClampNeg)) <|
      sm_gd (sm_kd (R (R (R (R a0 3) 5) 0) (a3).toNatClampNeg) = (4, 6)) <|
      sm_gd ((sm_kd (R (R (R a0 3) 5) 0)).1 = 16 ∧ ¬ (a4 < 0 ∨ (sm_kd (R (R (R a0 3) 5) 0)).2 ≤ (a4).toNatClampNeg)) <|
      sm_gd (sm_kd (R (R (R (R a0 3) 5) 0) (a4).toNatClampNeg) = (4, 6)) <|
      if a2 ≤ (sm_ab ((I (R (R (R (R a0 3) 5) 0) (a3).toNatClampNeg) 0) - (I (R (R (R (R a0 3) 5) 0) (a4).toNatClampNeg) 0))) then (
        f_X11_duet_26 N R k_7 n a0 a1 a2 a3 (a4 + 1) I)
      else (
        f_X11_duet_26 N R k_7 n a0 (((10 : Int32) * a3) + a4) (sm_ab ((I (R (R (R (R a0 3) 5) 0) (a3).toNatClampNeg) 0) - (I (R (R (R (R a0 3) 5) 0) (a4).toNatClampNeg) 0))) a3 (a4 + 1) I))
def f_X11_duet_7 (N : Nat) (R : Nat → Nat → Nat) : Nat → Nat → Int32 → Int32 → Int32 → (Nat → Nat → Int32) → Option (Int32 × (Nat → Nat → Int32))
  | 0, _, _, _, _, _ => none
  | n + 1, a0, a1, a2, a3, I =>
    sm_gd (sm_kd a0 = (11, 18)) <|
    sm_gd (sm_kd (R a0 3) = (7, 9)) <|
    sm_gd (sm_kd (R (R a0 3) 5) = (10, 4)) <|
    if (I (R (R a0 3) 5) 1) ≤ a3 then (
      some (a1, I))
    else (
      f_X11_duet_26 N R (fun z0 z1 z2 z3 J => f_X11_duet_7 N R n z0 z1 z2 z3 J) N a0 a1 a2 a3 (a3 + (1 : Int32)) I)
def f_X11_duet (N : Nat) (R : Nat → Nat → Nat) : Nat → (Nat → Nat → Int32) → Option (Int32 × (Nat → Nat → Int32)) := fun a0 I =>
  f_X11_duet_7 N R N a0 (-1 : Int32) (100 : Int32) (0 : Int32) I
set_option maxHeartbeats 4000000 in
set_option maxRecDepth 100000 in
theorem w_X11_duet_26 {l : Launch} (N : Nat) (R : Nat → Nat → Nat) (k_7 : Nat → Int32 → Int32 → Int32 → (Nat → Nat → Int32) → Option (Int32 × (Nat → Nat → Int32))) (hk_7 : ∀ (a0 : Nat) (a1 : Int32) (a2 : Int32) (a3 : Int32) (I : (Nat → Nat → Int32)) (y : (Int32 × (Nat → Nat → Int32))), k_7 a0 a1 a2 a3 I = some y → sm_W l 0 mX11_duet 7 [(0, .inr (.inl a0)), (1, .inl a1), (2, .inl a2), (3, .inl a3)] [] (I, R) (.inl (some (.inl y.1))) (y.2, R)) : ∀ (n : Nat) (a0 : Nat) (a1 : Int32) (a2 : Int32) (a3 : Int32) (a4 : Int32) (I : (Nat → Nat → Int32)) (y : (Int32 × (Nat → Nat → Int32))), f_X11_duet_26 N R k_7 n a0 a1 a2 a3 a4 I = some y → sm_W l 0 mX11_duet 26 [(0, .inr (.inl a0)), (1, .inl a1), (2, .inl a2), (3, .inl a3), (4, .inl a4)] [] (I, R) (.inl (some (.inl y.1))) (y.2, R) := by
  intro n
  induction n with
  | zero => intro a0 a1 a2 a3 a4 I y h; cases h
  | succ n ih =>
    intro a0 a1 a2 a3 a4 I y h
    rw [f_X11_duet_26] at h
    refine sm_iload (q := 28) dX11_duet_26 rfl 4 rfl ?_
    refine sm_aload_n (q := 29) dX11_duet_28 rfl rfl 0 rfl ?_
    obtain ⟨hc1, h⟩ := sm_gd_e h
    refine sm_getR (r := R a0 3) (q := 32) dX11_duet_29 rfl fk_X11_20 hc1 (by decide) (by decide) rfl ?_
    obtain ⟨hc2, h⟩ := sm_gd_e h
    refine sm_getR (r := R (R a0 3) 5) (q := 35) dX11_duet_32 rfl fk_X11_137 hc2 (by decide) (by decide) rfl ?_
    obtain ⟨hc3, h⟩ := sm_gd_e h
    refine sm_getI (q := 38) dX11_duet_35 rfl fk_X11_140 hc3 (by decide) (by decide) ?_
    rcases sm_if_e h with ⟨hb4, h⟩ | ⟨hb4, h⟩
    · refine sm_icmp_ge (tgt := 101) (q := 41) dX11_duet_38 (by decide) rfl (fun _ => ?_) (fun hn => absurd hb4 hn)
      refine sm_iinc (v := (a3 + 1)) (L' := [(3, .inl (a3 + 1)), (0, .inr (.inl a0)), (1, .inl a1), (2, .inl a2), (4, .inl a4)]) (q := 104) dX11_duet_101 rfl 3 rfl rfl (by decide) rfl ?_
      refine sm_goto (q := 7) dX11_duet_104 (by decide) ?_
      refine sm_pick [1, 2, 3, 0] rfl ?_
      exact hk_7 _ _ _ _ _ _ h
    · refine sm_icmp_ge (tgt := 101) (q := 41) dX11_duet_38 (by decide) rfl (fun ht => absurd ht hb4) (fun _ => ?_)
      refine sm_aload_n (q := 42) dX11_duet_41 rfl rfl 0 rfl ?_
      refine sm_getR (r := R a0 3) (q := 45) dX11_duet_42 rfl fk_X11_20 hc1 (by decide) (by decide) rfl ?_
      refine sm_getR (r := R (R a0 3) 5) (q := 48) dX11_duet_45 rfl fk_X11_137 hc2 (by decide) (by decide) rfl ?_
      refine sm_getR (r := R (R (R a0 3) 5) 0) (q := 51) dX11_duet_48 rfl fk_X11_170 hc3 (by decide) (by decide) rfl ?_
      refine sm_iload_n (q := 52) dX11_duet_51 rfl rfl 3 rfl ?_
      obtain ⟨hc5, h⟩ := sm_gd_e h
      refine sm_aald (t := 3) (n := (sm_kd (R (R (R a0 3) 5) 0)).2) (q := 53) dX11_duet_52 rfl (Prod.ext hc5.1 rfl) (Or.inl ⟨rfl, rfl⟩) hc5.2 rfl ?_
      obtain ⟨hc6, h⟩ := sm_gd_e h
      refine sm_getI (q := 56) dX11_duet_53 rfl fk_X11_202 hc6 (by decide) (by decide) ?_
      refine sm_aload_n (q := 57) dX11_duet_56 rfl rfl 0 rfl ?_
      refine sm_getR (r := R a0 3) (q := 60) dX11_duet_57 rfl fk_X11_20 hc1 (by decide) (by decide) rfl ?_
      refine sm_getR (r := R (R a0 3) 5) (q := 63) dX11_duet_60 rfl fk_X11_137 hc2 (by decide) (by decide) rfl ?_
      refine sm_getR (r := R (R (R a0 3) 5) 0) (q := 66) dX11_duet_63 rfl fk_X11_170 hc3 (by decide) (by decide) rfl ?_
      refine sm_iload (q := 68) dX11_duet_66 rfl 4 rfl ?_
      obtain ⟨hc7, h⟩ := sm_gd_e h
      refine sm_aald (t := 3) (n := (sm_kd (R (R (R a0 3) 5) 0)).2) (q := 69) dX11_duet_68 rfl (Prod.ext hc7.1 rfl) (Or.inl ⟨rfl, rfl⟩) hc7.2 rfl ?_
      obtain ⟨hc8, h⟩ := sm_gd_e h
      refine sm_getI (q := 72) dX11_duet_69 rfl fk_X11_202 hc8 (by decide) (by decide) ?_
      refine sm_isub (q := 73) dX11_duet_72 rfl ?_
      refine sm_mma (q := 76) dX11_duet_73 rfl mm_X11_310 (Nat.le_of_ble_eq_true rfl) ?_
      refine sm_istore (L' := [(5, .inl (sm_ab ((I (R (R (R (R a0 3) 5) 0) (a3).toNatClampNeg) 0) - (I (R (R (R (R a0 3) 5) 0) (a4).toNatClampNeg) 0)))), (0, .inr (.inl a0)), (1, .inl a1), (2, .inl a2), (3, .inl a3), (4, .inl a4)]) (q := 78) dX11_duet_76 rfl (by decide) rfl ?_
      refine sm_iload (q := 80) dX11_duet_78 rfl 0 rfl ?_
      refine sm_iload_n (q := 81) dX11_duet_80 rfl rfl 3 rfl ?_
      rcases sm_if_e h with ⟨hb9, h⟩ | ⟨hb9, h⟩
      · refine sm_icmp_ge (tgt := 95) (q := 84) dX11_duet_81 (by decide) rfl (fun _ => ?_) (fun hn => absurd hb9 hn)
        refine sm_iinc (v := (a4 + 1)) (L' := [(4, .inl (a4 + 1)), (5, .inl (sm_ab ((I (R (R (R (R a0 3) 5) 0) (a3).toNatClampNeg) 0) - (I (R (R (R (R a0 3) 5) 0) (a4).toNatClampNeg) 0)))), (0, .inr (.inl a0)), (1, .inl a1), (2, .inl a2), (3, .inl a3)]) (q := 98) dX11_duet_95 rfl 5 rfl rfl (by decide) rfl ?_
        refine sm_goto (q := 26) dX11_duet_98 (by decide) ?_
        refine sm_pick [2, 3, 4, 5, 0] rfl ?_
        exact ih _ _ _ _ _ _ _ h
      · refine sm_icmp_ge (tgt := 95) (q := 84) dX11_duet_81 (by decide) rfl (fun ht => absurd ht hb9) (fun _ => ?_)
        refine sm_iload (q := 86) dX11_duet_84 rfl 0 rfl ?_
        refine sm_istore_n (L' := [(2, .inl (sm_ab ((I (R (R (R (R a0 3) 5) 0) (a3).toNatClampNeg) 0) - (I (R (R (R (R a0 3) 5) 0) (a4).toNatClampNeg) 0)))), (5, .inl (sm_ab ((I (R (R (R (R a0 3) 5) 0) (a3).toNatClampNeg) 0) - (I (R (R (R (R a0 3) 5) 0) (a4).toNatClampNeg) 0)))), (0, .inr (.inl a0)), (1, .inl a1), (3, .inl a3), (4, .inl a4)]) (q := 87) dX11_duet_86 rfl rfl (by decide) rfl ?_
        refine sm_bipush (v := 10) (q := 89) dX11_duet_87 rfl (by decide) ?_
        refine sm_iload_n (q := 90) dX11_duet_89 rfl rfl 4 rfl ?_
        refine sm_imul (q := 91) dX11_duet_90 rfl ?_
        refine sm_iload (q := 93) dX11_duet_91 rfl 5 rfl ?_
        refine sm_iadd (q := 94) dX11_duet_93 rfl ?_
        refine sm_istore_n (L' := [(1, .inl (((10 : Int32) * a3) + a4)), (2, .inl (sm_ab ((I (R (R (R (R a0 3) 5) 0) (a3).toNatClampNeg) 0) - (I (R (R (R (R a0 3) 5) 0) (a4).toNatClampNeg) 0)))), (5, .inl (sm_ab ((I (R (R (R (R a0 3) 5) 0) (a3).toNatClampNeg) 0) - (I (R (R (R (R a0 3) 5) 0) (a4).toNatClampNeg) 0)))), (0, .inr (.inl a0)), (3, .inl a3), (4, .inl a4)]) (q := 95) dX11_duet_94 rfl rfl (by decide) rfl ?_
        refine sm_iinc (v := (a4 + 1)) (L' := [(4, .inl (a4 + 1)), (1, .inl (((10 : Int32) * a3) + a4)), (2, .inl (sm_ab ((I (R (R (R (R a0 3) 5) 0) (a3).toNatClampNeg) 0) - (I (R (R (R (R a0 3) 5) 0) (a4).toNatClampNeg) 0)))), (5, .inl (sm_ab ((I (R (R (R (R a0 3) 5) 0) (a3).toNatClampNeg) 0) - (I (R (R (R (R a0 3) 5) 0) (a4).toNatClampNeg) 0)))), (0, .inr (.inl a0)), (3, .inl a3)]) (q := 98) dX11_duet_95 rfl 5 rfl rfl (by decide) rfl ?_
        refine sm_goto (q := 26) dX11_duet_98 (by decide) ?_
        refine sm_pick [4, 1, 2, 5, 0] rfl ?_
        exact ih _ _ _ _ _ _ _ h
set_option maxHeartbeats 4000000 in
set_option maxRecDepth 100000 in
theorem w_X11_duet_7 {l : Launch} (N : Nat) (R : Nat → Nat → Nat) : ∀ (n : Nat) (a0 : Nat) (a1 : Int32) (a2 : Int32) (a3 : Int32) (I : (Nat → Nat → Int32)) (y : (Int32 × (Nat → Nat → Int32))), f_X11_duet_7 N R n a0 a1 a2 a3 I = some y → sm_W l 0 mX11_duet 7 [(0, .inr (.inl a0)), (1, .inl a1), (2, .inl a2), (3, .inl a3)] [] (I, R) (.inl (some (.inl y.1))) (y.2, R) := by
  intro n
  induction n with
  | zero => intro a0 a1 a2 a3 I y h; cases h
  | succ n ih =>
    intro a0 a1 a2 a3 I y h
    rw [f_X11_duet_7] at h
    refine sm_iload_n (q := 8) dX11_duet_7 rfl rfl 3 rfl ?_
    refine sm_aload_n (q := 9) dX11_duet_8 rfl rfl 0 rfl ?_
    obtain ⟨hc1, h⟩ := sm_gd_e h
    refine sm_getR (r := R a0 3) (q := 12) dX11_duet_9 rfl fk_X11_20 hc1 (by decide) (by decide) rfl ?_
    obtain ⟨hc2, h⟩ := sm_gd_e h
    refine sm_getR (r := R (R a0 3) 5) (q := 15) dX11_duet_12 rfl fk_X11_137 hc2 (by decide) (by decide) rfl ?_
    obtain ⟨hc3, h⟩ := sm_gd_e h
    refine sm_getI (q := 18) dX11_duet_15 rfl fk_X11_140 hc3 (by decide) (by decide) ?_
    rcases sm_if_e h with ⟨hb4, h⟩ | ⟨hb4, h⟩
    · refine sm_icmp_ge (tgt := 107) (q := 21) dX11_duet_18 (by decide) rfl (fun _ => ?_) (fun hn => absurd hb4 hn)
      refine sm_iload_n (q := 108) dX11_duet_107 rfl rfl 1 rfl ?_
      obtain rfl := Option.some.inj h
      exact sm_iret dX11_duet_108 rfl
    · refine sm_icmp_ge (tgt := 107) (q := 21) dX11_duet_18 (by decide) rfl (fun ht => absurd ht hb4) (fun _ => ?_)
      refine sm_iload_n (q := 22) dX11_duet_21 rfl rfl 3 rfl ?_
      refine sm_iconst (v := 1) (q := 23) dX11_duet_22 rfl (by decide) ?_
      refine sm_iadd (q := 24) dX11_duet_23 rfl ?_
      refine sm_istore (L' := [(4, .inl (a3 + (1 : Int32))), (0, .inr (.inl a0)), (1, .inl a1), (2, .inl a2), (3, .inl a3)]) (q := 26) dX11_duet_24 rfl (by decide) rfl ?_
      refine sm_pick [1, 2, 3, 4, 0] rfl ?_
      exact w_X11_duet_26 N R (fun z0 z1 z2 z3 J => f_X11_duet_7 N R n z0 z1 z2 z3 J) (fun z0 z1 z2 z3 J y h => ih z0 z1 z2 z3 J y h) N _ _ _ _ _ _ _ h
set_option maxHeartbeats 4000000 in
set_option maxRecDepth 100000 in
theorem w_X11_duet {l : Launch} (N : Nat) (R : Nat → Nat → Nat) : ∀ (a0 : Nat) (I : (Nat → Nat → Int32)) (y : (Int32 × (Nat → Nat → Int32))), f_X11_duet N R a0 I = some y → sm_W l 0 mX11_duet 0 [(0, .inr (.inl a0))] [] (I, R) (.inl (some (.inl y.1))) (y.2, R) := by
  intro a0 I y h
  unfold f_X11_duet at h
  refine sm_iconst (v := -1) (q := 1) dX11_duet_0 rfl (by decide) ?_
  refine sm_istore_n (L' := [(1, .inl (-1 : Int32)), (0, .inr (.inl a0))]) (q := 2) dX11_duet_1 rfl rfl (by decide) rfl ?_
  refine sm_bipush (v := 100) (q := 4) dX11_duet_2 rfl (by decide) ?_
  refine sm_istore_n (L' := [(2, .inl (100 : Int32)), (1, .inl (-1 : Int32)), (0, .inr (.inl a0))]) (q := 5) dX11_duet_4 rfl rfl (by decide) rfl ?_
  refine sm_iconst (v := 0) (q := 6) dX11_duet_5 rfl (by decide) ?_
  refine sm_istore_n (L' := [(3, .inl (0 : Int32)), (2, .inl (100 : Int32)), (1, .inl (-1 : Int32)), (0, .inr (.inl a0))]) (q := 7) dX11_duet_6 rfl rfl (by decide) rfl ?_
  refine sm_pick [3, 2, 1, 0] rfl ?_
  exact w_X11_duet_7 N R N _ _ _ _ _ _ h
theorem e_X11_duet {l : Launch} {N : Nat} {R : Nat → Nat → Nat} {a0 : Nat} {I : (Nat → Nat → Int32)} {y : (Int32 × (Nat → Nat → Int32))} (h : f_X11_duet N R a0 I = some y) : sm_E l 0 mX11_duet [.inr (.inl a0)] (I, R) (.inl (some (.inl y.1))) (y.2, R) :=
  sm_meth (by decide) (Nat.le_of_ble_eq_true rfl) (w_X11_duet N R a0 I y h)
