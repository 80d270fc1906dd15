def f_X11_tallyBars_57 (N : Nat) (R : Nat → Nat → Nat) (k_22 : Nat → Int32 → Int32 → (Nat → Nat → Int32) → Option (Unit × (Nat → Nat → Int32))) : Nat → Nat → Int32 → Int32 → Int32 → (Nat → Nat → Int32) → Option (Unit × (Nat → Nat → Int32))
  | 0, _, _, _, _, _ => none
  | n + 1, a0, a1, a2, a3, I =>
    if a1 < a3 then (
      k_22 a0 a1 (a2 + 1) I)
    else (
      sm_gd (sm_kd a0 = (11, 18)) <|
      sm_gd (sm_kd (R a0 10) = (4, 6)) <|
      sm_gd (sm_kd (R a0 3) = (7, 9)) <|
      (f_X7_passWeeks N R (R a0 3) (R a0 10) (1 : Int32) I).bind fun p5 =>
      sm_gd ((sm_kd (R a0 13)).1 = 13 ∧ ¬ (a3 < 0 ∨ (sm_kd (R a0 13)).2 ≤ (a3).toNatClampNeg)) <|
      sm_lt (sm_up p5.2 (R a0 13) (sm_up (p5.2 (R a0 13)) (a3).toNatClampNeg ((p5.2 (R a0 13) (a3).toNatClampNeg) + ((p5.2 (R a0 10) 3) - (I (R a0 10) 3))))) fun I7 =>
      f_X11_tallyBars_57 N R k_22 n a0 a1 a2 (a3 + 1) I7)
def f_X11_tallyBars_22 (N : Nat) (R : Nat → Nat → Nat) : Nat → Nat → Int32 → Int32 → (Nat → Nat → Int32) → Option (Unit × (Nat → Nat → Int32))
  | 0, _, _, _, _ => none
  | n + 1, a0, a1, a2, I =>
    sm_gd (sm_kd a0 = (11, 18)) <|
    sm_gd (sm_kd (R a0 3) = (7, 9)) <|
    sm_gd (sm_kd (R (R a0 3) 5) = (10, 4)) <|
    if (I (R (R a0 3) 5) 1) ≤ a2 then (
      some ((), I))
    else (
      sm_gd ((sm_kd (R (R (R a0 3) 5) 0)).1 = 16 ∧ ¬ (a2 < 0 ∨ (sm_kd (R (R (R a0 3) 5) 0)).2 ≤ (a2).toNatClampNeg)) <|
      sm_gd (sm_kd (R a0 10) = (4, 6)) <|
      (f_X4_become N R (R a0 10) (R (R (R (R a0 3) 5) 0) (a2).toNatClampNeg) I).bind fun p7 =>
      f_X11_tallyBars_57 N R (fun z0 z1 z2 J => f_X11_tallyBars_22 N R n z0 z1 z2 J) N a0 a1 a2 (1 : Int32) p7.2)
def f_X11_tallyBars_2 (N : Nat) (R : Nat → Nat → Nat) : Nat → Nat → Int32 → Int32 → (Nat → Nat → Int32) → Option (Unit × (Nat → Nat → Int32))
  | 0, _, _, _, _ => none
  | n + 1, a0, a1, a2, I =>
    if a1 < a2 then (
      f_X11_tallyBars_22 N R N a0 a1 (0 : Int32) I)
    else (
      sm_gd (sm_kd a0 = (11, 18)) <|
      sm_gd ((sm_kd (R a0 13)).1 = 13 ∧ ¬ (a2 < 0 ∨ (sm_kd (R a0 13)).2 ≤ (a2).toNatClampNeg)) <|
      sm_lt (sm_up I (R a0 13) (sm_up (I (R a0 13)) (a2).toNatClampNeg (0 : Int32))) fun I4 =>
      f_X11_tallyBars_2 N R n a0 a1 (a2 + 1) I4)
def f_X11_tallyBars (N : Nat) (R : Nat → Nat → Nat) : Nat → Int32 → (Nat → Nat → Int32) → Option (Unit × (Nat → Nat → Int32)) := fun a0 a1 I =>
  f_X11_tallyBars_2 N R N a0 a1 (1 : Int32) I
set_option maxHeartbeats 4000000 in
set_option maxRecDepth 100000 in
theorem w_X11_tallyBars_57 {l : Launch} (N : Nat) (R : Nat → Nat → Nat) (k_22 : Nat → Int32 → Int32 → (Nat → Nat → Int32) → Option (Unit × (Nat → Nat → Int32))) (hk_22 : ∀ (a0 : Nat) (a1 : Int32) (a2 : Int32) (I : (Nat → Nat → Int32)) (y : (Unit × (Nat → Nat → Int32))), k_22 a0 a1 a2 I = some y → sm_W l 4 mX11_tallyBars 22 [(0, .inr (.inl a0)), (1, .inl a1), (2, .inl a2)] [] (I, R) (.inl none) (y.2, R)) : ∀ (n : Nat) (a0 : Nat) (a1 : Int32) (a2 : Int32) (a3 : Int32) (I : (Nat → Nat → Int32)) (y : (Unit × (Nat → Nat → Int32))), f_X11_tallyBars_57 N R k_22 n a0 a1 a2 a3 I = some y → sm_W l 4 mX11_tallyBars 57 [(0, .inr (.inl a0)), (1, .inl a1), (2, .inl a2), (3, .inl a3)] [] (I, R) (.inl none) (y.2, R) := by
  intro n
  induction n with
  | zero => intro a0 a1 a2 a3 I y h; cases h
  | succ n ih =>
    intro a0 a1 a2 a3 I y h
    rw [f_X11_tallyBars_57] at h
    refine sm_iload_n (q := 58) dX11_tallyBars_57 rfl rfl 3 rfl ?_
    refine sm_iload_n (q := 59) dX11_tallyBars_58 rfl rfl 1 rfl ?_
    rcases sm_if_e h with ⟨hb1, h⟩ | ⟨hb1, h⟩
    · refine sm_icmp_gt (tgt := 108) (q := 62) dX11_tallyBars_59 (by decide) rfl (fun _ => ?_) (fun hn => absurd hb1 hn)
      refine sm_iinc (v := (a2 + 1)) (L' := [(2, .inl (a2 + 1)), (0, .inr (.inl a0)), (1, .inl a1), (3, .inl a3)]) (q := 111) dX11_tallyBars_108 rfl 2 rfl rfl (by decide) rfl ?_
      refine sm_goto (q := 22) dX11_tallyBars_111 (by decide) ?_
      refine sm_pick [1, 2, 0] rfl ?_
      exact hk_22 _ _ _ _ _ h
    · refine sm_icmp_gt (tgt := 108) (q := 62) dX11_tallyBars_59 (by decide) rfl (fun ht => absurd ht hb1) (fun _ => ?_)
      refine sm_aload_n (q := 63) dX11_tallyBars_62 rfl rfl 0 rfl ?_
      obtain ⟨hc2, h⟩ := sm_gd_e h
      refine sm_getR (r := R a0 10) (q := 66) dX11_tallyBars_63 rfl fk_X11_64 hc2 (by decide) (by decide) rfl ?_
      obtain ⟨hc3, h⟩ := sm_gd_e h
      refine sm_getI (q := 69) dX11_tallyBars_66 rfl fk_X11_211 hc3 (by decide) (by decide) ?_
      refine sm_istore (L' := [(4, .inl (I (R a0 10) 3)), (0, .inr (.inl a0)), (1, .inl a1), (2, .inl a2), (3, .inl a3)]) (q := 71) dX11_tallyBars_69 rfl (by decide) rfl ?_
      refine sm_aload_n (q := 72) dX11_tallyBars_71 rfl rfl 1 rfl ?_
      refine sm_getR (r := R a0 3) (q := 75) dX11_tallyBars_72 rfl fk_X11_20 hc2 (by decide) (by decide) rfl ?_
      refine sm_aload_n (q := 76) dX11_tallyBars_75 rfl rfl 1 rfl ?_
      refine sm_getR (r := R a0 10) (q := 79) dX11_tallyBars_76 rfl fk_X11_64 hc2 (by decide) (by decide) rfl ?_
      refine sm_iconst (v := 1) (q := 80) dX11_tallyBars_79 rfl (by decide) ?_
      obtain ⟨hc4, h⟩ := sm_gd_e h
      obtain ⟨p5, hc_p5, h⟩ := sm_bd_e h
      refine sm_callVv (q := 83) (As := [.inr (.inl (R a0 10)), .inl (1 : Int32)]) (S := []) (e_X7_passWeeks hc_p5) mv_X11_239 hc4 rfl (by decide) (Nat.le_of_ble_eq_true rfl) dX11_tallyBars_80 rfl ?_
      refine sm_aload_n (q := 84) dX11_tallyBars_83 rfl rfl 1 rfl ?_
      refine sm_getR (r := R a0 13) (q := 87) dX11_tallyBars_84 rfl fk_X11_78 hc2 (by decide) (by decide) rfl ?_
      refine sm_iload_n (q := 88) dX11_tallyBars_87 rfl rfl 4 rfl ?_
      refine sm_dup2 (q := 89) dX11_tallyBars_88 rfl rfl rfl ?_
      obtain ⟨hc6, h⟩ := sm_gd_e h
      refine sm_iald (n := (sm_kd (R a0 13)).2) (q := 90) dX11_tallyBars_89 rfl (Prod.ext hc6.1 rfl) hc6.2 ?_
      refine sm_aload_n (q := 91) dX11_tallyBars_90 rfl rfl 1 rfl ?_
      refine sm_getR (r := R a0 10) (q := 94) dX11_tallyBars_91 rfl fk_X11_64 hc2 (by decide) (by decide) rfl ?_
      refine sm_getI (q := 97) dX11_tallyBars_94 rfl fk_X11_211 hc3 (by decide) (by decide) ?_
      refine sm_iload (q := 99) dX11_tallyBars_97 rfl 0 rfl ?_
      refine sm_isub (q := 100) dX11_tallyBars_99 rfl ?_
      refine sm_iadd (q := 101) dX11_tallyBars_100 rfl ?_
      obtain ⟨I7, hI7, h⟩ := sm_lt_e h
      refine sm_iast (n := (sm_kd (R a0 13)).2) (q := 102) dX11_tallyBars_101 rfl (Prod.ext hc6.1 rfl) hc6.2 ?_
      refine sm_memI hI7 ?_
      refine sm_iinc (v := (a3 + 1)) (L' := [(3, .inl (a3 + 1)), (4, .inl (I (R a0 10) 3)), (0, .inr (.inl a0)), (1, .inl a1), (2, .inl a2)]) (q := 105) dX11_tallyBars_102 rfl 4 rfl rfl (by decide) rfl ?_
      refine sm_goto (q := 57) dX11_tallyBars_105 (by decide) ?_
      refine sm_pick [2, 3, 4, 0] rfl ?_
      exact ih _ _ _ _ _ _ h
set_option maxHeartbeats 4000000 in
set_option maxRecDepth 100000 in
theorem w_X11_tallyBars_22 {l : Launch} (N : Nat) (R : Nat → Nat → Nat) : ∀ (n : Nat) (a0 : Nat) (a1 : Int32) (a2 : Int32) (I : (Nat → Nat → Int32)) (y : (Unit × (Nat → Nat → Int32))), f_X11_tallyBars_22 N R n a0 a1 a2 I = some y → sm_W l 4 mX11_tallyBars 22 [(0, .inr (.inl a0)), (1, .inl a1), (2, .inl a2)] [] (I, R) (.inl none) (y.2, R) := by
  intro n
  induction n with
  | zero => intro a0 a1 a2 I y h; cases h
  | succ n ih =>
    intro a0 a1 a2 I y h
    rw [f_X11_tallyBars_22] at h
    refine sm_iload_n (q := 23) dX11_tallyBars_22 rfl rfl 2 rfl ?_
    refine sm_aload_n (q := 24) dX11_tallyBars_23 rfl rfl 0 rfl ?_
    obtain ⟨hc1, h⟩ := sm_gd_e h
    refine sm_getR (r := R a0 3) (q := 27) dX11_tallyBars_24 rfl fk_X11_20 hc1 (by decide) (by decide) rfl ?_
    obtain ⟨hc2, h⟩ := sm_gd_e h
    refine sm_getR (r := R (R a0 3) 5) (q := 30) dX11_tallyBars_27 rfl fk_X11_137 hc2 (by decide) (by decide) rfl ?_
    obtain ⟨hc3, h⟩ := sm_gd_e h
    refine sm_getI (q := 33) dX11_tallyBars_30 rfl fk_X11_140 hc3 (by decide) (by decide) ?_
    rcases sm_if_e h with ⟨hb4, h⟩ | ⟨hb4, h⟩
    · refine sm_icmp_ge (tgt := 114) (q := 36) dX11_tallyBars_33 (by decide) rfl (fun _ => ?_) (fun hn => absurd hb4 hn)
      obtain rfl := Option.some.inj h
      exact sm_vret dX11_tallyBars_114 rfl
    · refine sm_icmp_ge (tgt := 114) (q := 36) dX11_tallyBars_33 (by decide) rfl (fun ht => absurd ht hb4) (fun _ => ?_)
      refine sm_aload_n (q := 37) dX11_tallyBars_36 rfl rfl 0 rfl ?_
      refine sm_getR (r := R a0 10) (q := 40) dX11_tallyBars_37 rfl fk_X11_64 hc1 (by decide) (by decide) rfl ?_
      refine sm_aload_n (q := 41) dX11_tallyBars_40 rfl rfl 0 rfl ?_
      refine sm_getR (r := R a0 3) (q := 44) dX11_tallyBars_41 rfl fk_X11_20 hc1 (by decide) (by decide) rfl ?_
      refine sm_getR (r := R (R a0 3) 5) (q := 47) dX11_tallyBars_44 rfl fk_X11_137 hc2 (by decide) (by decide) rfl ?_
      refine sm_getR (r := R (R (R a0 3) 5) 0) (q := 50) dX11_tallyBars_47 rfl fk_X11_170 hc3 (by decide) (by decide) rfl ?_
      refine sm_iload_n (q := 51) dX11_tallyBars_50 rfl rfl 2 rfl ?_
      obtain ⟨hc5, h⟩ := sm_gd_e h
      refine sm_aald (t := 3) (n := (sm_kd (R (R (R a0 3) 5) 0)).2) (q := 52) dX11_tallyBars_51 rfl (Prod.ext hc5.1 rfl) (Or.inl ⟨rfl, rfl⟩) hc5.2 rfl ?_
      obtain ⟨hc6, h⟩ := sm_gd_e h
      obtain ⟨p7, hc_p7, h⟩ := sm_bd_e h
      refine sm_callVv (q := 55) (As := [.inr (.inl (R (R (R (R a0 3) 5) 0) (a2).toNatClampNeg))]) (S := []) (e_X4_become hc_p7) mv_X11_225 hc6 rfl (by decide) (Nat.le_of_ble_eq_true rfl) dX11_tallyBars_52 rfl ?_
      refine sm_iconst (v := 1) (q := 56) dX11_tallyBars_55 rfl (by decide) ?_
      refine sm_istore_n (L' := [(3, .inl (1 : Int32)), (0, .inr (.inl a0)), (1, .inl a1), (2, .inl a2)]) (q := 57) dX11_tallyBars_56 rfl rfl (by decide) rfl ?_
      refine sm_pick [1, 2, 3, 0] rfl ?_
      exact w_X11_tallyBars_57 N R (fun z0 z1 z2 J => f_X11_tallyBars_22 N R n z0 z1 z2 J) (fun z0 z1 z2 J y h => ih z0 z1 z2 J y h) N _ _ _ _ _ _ h
set_option maxHeartbeats 4000000 in
set_option maxRecDepth 100000 in
theorem w_X11_tallyBars_2 {l : Launch} (N : Nat) (R : Nat → Nat → Nat) : ∀ (n : Nat) (a0 : Nat) (a1 : Int32) (a2 : Int32) (I : (Nat → Nat → Int32)) (y : (Unit × (Nat → Nat → Int32))), f_X11_tallyBars_2 N R n a0 a1 a2 I = some y → sm_W l 4 mX11_tallyBars 2 [(0, .inr (.inl a0)), (1, .inl a1), (2, .inl a2)] [] (I, R) (.inl none) (y.2, R) := by
  intro n
  induction n with
  | zero => intro a0 a1 a2 I y h; cases h
  | succ n ih =>
    intro a0 a1 a2 I y h
    rw [f_X11_tallyBars_2] at h
    refine sm_iload_n (q := 3) dX11_tallyBars_2 rfl rfl 2 rfl ?_
    refine sm_iload_n (q := 4) dX11_tallyBars_3 rfl rfl 1 rfl ?_
    rcases sm_if_e h with ⟨hb1, h⟩ | ⟨hb1, h⟩
    · refine sm_icmp_gt (tgt := 20) (q := 7) dX11_tallyBars_4 (by decide) rfl (fun _ => ?_) (fun hn => absurd hb1 hn)
      refine sm_iconst (v := 0) (q := 21) dX11_tallyBars_20 rfl (by decide) ?_
      refine sm_istore_n (L' := [(2, .inl (0 : Int32)), (0, .inr (.inl a0)), (1, .inl a1)]) (q := 22) dX11_tallyBars_21 rfl rfl (by decide) rfl ?_
      refine sm_pick [1, 2, 0] rfl ?_
      exact w_X11_tallyBars_22 N R N _ _ _ _ _ h
    · refine sm_icmp_gt (tgt := 20) (q := 7) dX11_tallyBars_4 (by decide) rfl (fun ht => absurd ht hb1) (fun _ => ?_)
      refine sm_aload_n (q := 8) dX11_tallyBars_7 rfl rfl 0 rfl ?_
      obtain ⟨hc2, h⟩ := sm_gd_e h
      refine sm_getR (r := R a0 13) (q := 11) dX11_tallyBars_8 rfl fk_X11_78 hc2 (by decide) (by decide) rfl ?_
      refine sm_iload_n (q := 12) dX11_tallyBars_11 rfl rfl 2 rfl ?_
      refine sm_iconst (v := 0) (q := 13) dX11_tallyBars_12 rfl (by decide) ?_
      obtain ⟨hc3, h⟩ := sm_gd_e h
      obtain ⟨I4, hI4, h⟩ := sm_lt_e h
      refine sm_iast (n := (sm_kd (R a0 13)).2) (q := 14) dX11_tallyBars_13 rfl (Prod.ext hc3.1 rfl) hc3.2 ?_
      refine sm_memI hI4 ?_
      refine sm_iinc (v := (a2 + 1)) (L' := [(2, .inl (a2 + 1)), (0, .inr (.inl a0)), (1, .inl a1)]) (q := 17) dX11_tallyBars_14 rfl 2 rfl rfl (by decide) rfl ?_
      refine sm_goto (q := 2) dX11_tallyBars_17 (by decide) ?_
      refine sm_pick [1, 2, 0] rfl ?_
      exact ih _ _ _ _ _ h
set_option maxHeartbeats 4000000 in
set_option maxRecDepth 100000 in
theorem w_X11_tallyBars {l : Launch} (N : Nat) (R : Nat → Nat → Nat) : ∀ (a0 : Nat) (a1 : Int32) (I : (Nat → Nat → Int32)) (y : (Unit × (Nat → Nat → Int32))), f_X11_tallyBars N R a0 a1 I = some y → sm_W l 4 mX11_tallyBars 0 [(0, .inr (.inl a0)), (1, .inl a1)] [] (I, R) (.inl none) (y.2, R) := by
  intro a0 a1 I y h
  unfold f_X11_tallyBars at h
  refine sm_iconst (v := 1) (q := 1) dX11_tallyBars_0 rfl (by decide) ?_
  refine sm_istore_n (L' := [(2, .inl (1 : Int32)), (0, .inr (.inl a0)), (1, .inl a1)]) (q := 2) dX11_tallyBars_1 rfl rfl (by decide) rfl ?_
  refine sm_pick [1, 2, 0] rfl ?_
  exact w_X11_tallyBars_2 N R N _ _ _ _ _ h
theorem e_X11_tallyBars {l : Launch} {N : Nat} {R : Nat → Nat → Nat} {a0 : Nat} {a1 : Int32} {I : (Nat → Nat → Int32)} {y : (Unit × (Nat → Nat → Int32))} (h : f_X11_tallyBars N R a0 a1 I = some y) : sm_E l 4 mX11_tallyBars [.inr (.inl a0), .inl a1] (I, R) (.inl none) (y.2, R) :=
  sm_meth (by decide) (Nat.le_of_ble_eq_true rfl) (w_X11_tallyBars N R a0 a1 I y h)
