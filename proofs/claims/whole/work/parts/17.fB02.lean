def f_X11_tallyBars_57 (N : Nat) (R : Nat → Nat → Nat) (k_22 : Nat → Int32 → Int32 → (Nat → Nat → Int32) → Option (Unit × (Nat → Nat → Int32))) : Nat → Nat → Int32 → Int32 → Int32 → (Nat → Nat → Int32) → Option (Unit × (Nat → Nat → Int32))
  | 0, _, _, _, _, _ => none
  | n + 1, a0, a1, a2, a3, I =>
    if a1 < a3 then (
      k_22 a0 a1 (a2 + 1) I)
    else (
      sm_gd (sm_kd a0 = (11, 16)) <|
      sm_gd (sm_kd (R a0 8) = (4, 6)) <|
      sm_gd (sm_kd (R a0 3) = (7, 9)) <|
      (f_X7_passWeeks N R (R a0 3) (R a0 8) (1 : Int32) I).bind fun p5 =>
      sm_gd ((sm_kd (R a0 11)).1 = 13 ∧ ¬ (a3 < 0 ∨ (sm_kd (R a0 11)).2 ≤ (a3).toNatClampNeg)) <|
      sm_lt (sm_up p5.2 (R a0 11) (sm_up (p5.2 (R a0 11)) (a3).toNatClampNeg ((p5.2 (R a0 11) (a3).toNatClampNeg) + ((p5.2 (R a0 8) 3) - (I (R a0 8) 3))))) fun I7 =>
      f_X11_tallyBars_57 N R k_22 n a0 a1 a2 (a3 + 1) I7)
def f_X11_tallyBars_22 (N : Nat) (R : Nat → Nat → Nat) : Nat → Nat → Int32 → Int32 → (Nat → Nat → Int32) → Option (Unit × (Nat → Nat → Int32))
  | 0, _, _, _, _ => none
  | n + 1, a0, a1, a2, I =>
    sm_gd (sm_kd a0 = (11, 16)) <|
    sm_gd (sm_kd (R a0 3) = (7, 9)) <|
    sm_gd (sm_kd (R (R a0 3) 5) = (10, 4)) <|
    if (I (R (R a0 3) 5) 1) ≤ a2 then (
      some ((), I))
    else (
      sm_gd ((sm_kd (R (R (R a0 3) 5) 0)).1 = 16 ∧ ¬ (a2 < 0 ∨ (sm_kd (R (R (R a0 3) 5) 0)).2 ≤ (a2).toNatClampNeg)) <|
      sm_gd (sm_kd (R a0 8) = (4, 6)) <|
      (f_X4_become N R (R a0 8) (R (R (R (R a0 3) 5) 0) (a2).toNatClampNeg) I).bind fun p7 =>
      f_X11_tallyBars_57 N R (fun z0 z1 z2 J => f_X11_tallyBars_22 N R n z0 z1 z2 J) N a0 a1 a2 (1 : Int32) p7.2)
def f_X11_tallyBars_2 (N : Nat) (R : Nat → Nat → Nat) : Nat → Nat → Int32 → Int32 → (Nat → Nat → Int32) → Option (Unit × (Nat → Nat → Int32))
  | 0, _, _, _, _ => none
  | n + 1, a0, a1, a2, I =>
    if a1 < a2 then (
      f_X11_tallyBars_22 N R N a0 a1 (0 : Int32) I)
    else (
      sm_gd (sm_kd a0 = (11, 16)) <|
      sm_gd ((sm_kd (R a0 11)).1 = 13 ∧ ¬ (a2 < 0 ∨ (sm_kd (R a0 11)).2 ≤ (a2).toNatClampNeg)) <|
      sm_lt (sm_up I (R a0 11) (sm_up (I (R a0 11)) (a2).toNatClampNeg (0 : Int32))) fun I4 =>
      f_X11_tallyBars_2 N R n a0 a1 (a2 + 1) I4)
def f_X11_tallyBars (N : Nat) (R : Nat → Nat → Nat) : Nat → Int32 → (Nat → Nat → Int32) → Option (Unit × (Nat → Nat → Int32)) := fun a0 a1 I =>
  f_X11_tallyBars_2 N R N a0 a1 (1 : Int32) I
set_option maxHeartbeats 4000000 in
set_option maxRecDepth 100000 in
theorem w_X11_tallyBars_57 {l : Launch} (N : Nat) (R : Nat → Nat → Nat) (k_22 : Nat → Int32 → Int32 → (Nat → Nat → Int32) → Option (Unit × (Nat → Nat → Int32))) (hk_22 : ∀ (a0 : Nat) (a1 : Int32) (a2 : Int32) (I : (Nat → Nat → Int32)) (y : (Unit × (Nat → Nat → Int32))), k_22 a0 a1 a2 I = some y → sm_W l 4 mX11_tallyBars 22 [(0, .inr (.inl a0)), (1, .inl a1), (2, .inl a2)] [] (I, R) (.inl none) (y.2, R)) : ∀ (n : Nat) (a0 : Nat) (a1 : Int32) (a2 : Int32) (a3 : Int32) (I : (Nat → Nat → Int32)) (y : (Unit × (Nat → Nat → Int32))), f_X11_tallyBars_57 N R k_22 n a0 a1 a2 a3 I = some y → sm_W l 4 mX11_tallyBars 57 [(0, .inr (.inl a0)), (1, .inl a1), (2, .inl a2), (3, .inl a3)] [] (I, R) (.inl none) (y.2, R) := by
  intro n
  induction n with
  | zero => intro a0 a1 a2 a3 I y h; cases h
  | succ n ih =>
    intro a0 a1 a2 a3 I y h
    rw [f_X11_tallyBars_57] at h
    refine sm_iload_n (q := 58) dX11_tallyBars_57 rfl rfl 3 rfl ?_
    refine sm_iload_n (q := 59) dX11_tallyBars_58 rfl rfl 1 rfl ?_
    rcases sm_if_e h with ⟨hb1, h⟩ | ⟨hb1, h⟩
    · refine sm_icmp_gt (tgt := 108) (q := 62) dX11_tallyBars_59 (by decide) rfl (fun _ => ?_) (fun hn => absurd hb1 hn)
      refine sm_iinc (v := (a2 + 1)) (L' := [(2, .inl (a2 + 1)), (0, .inr (.inl a0)), (1, .inl a1), (3, .inl a3)]) (q := 111) dX11_tallyBars_108 rfl 2 rfl rfl (by decide) rfl ?_
      refine sm_goto (q := 22) dX11_tallyBars_111 (by decide) ?_
      refine sm_pick [1, 2, 0] rfl ?_
      exact hk_22 _ _ _ _ _ h
    · refine sm_icmp_gt (tgt := 108) (q := 62) dX11_tallyBars_59 (by decide) rfl (fun ht => absurd ht hb1) (fun _ => ?_)
      refine sm_aload_n (q := 63) dX11_tallyBars_62 rfl rfl 0 rfl ?_
      obtain ⟨hc2, h⟩ := sm_gd_e h
      refine sm_getR (r := R a0 8) (q := 66) dX11_tallyBars_63 rfl fk_X11_55 hc2 (by decide) (by decide) rfl ?_
      obtain ⟨hc3, h⟩ := sm_gd_e h
      refine sm_getI (q := 69) dX11_tallyBars_66 rfl fk_X11_206 hc3 (by decide) (by decide) ?_
      refine sm_istore (L' := [(4, .inl (I (R a0 8) 3)), (0, .inr (.inl a0)), (1, .inl a1), (2, .inl a2), (3, .inl a3)]) (q := 71) dX11_tallyBars_69 rfl (by decide) rfl ?_
      refine sm_aload_n (q := 72) dX11_tallyBars_71 rfl rfl 1 rfl ?_
      refine sm_getR (r := R a0 3) (q := 75) dX11_tallyBars_72 rfl fk_X11_23 hc2 (by decide) (by decide) rfl ?_
      refine sm_aload_n (q := 76) dX11_tallyBars_75 rfl rfl 1 rfl ?_
      refine sm_getR (r := R a0 8) (q := 79) dX11_tallyBars_76 rfl fk_X11_55 hc2 (by decide) (by decide) rfl ?_
      refine sm_iconst (v := 1) (q := 80) dX11_tallyBars_79 rfl (by decide) ?_
      obtain ⟨hc4, h⟩ := sm_gd_e h
      obtain ⟨p5, hc_p5, h⟩ := sm_bd_e h
      refine sm_callVv (q := 83) (As := [.inr (.inl (R a0 8)), .inl (1 : Int32)]) (S := []) (e_X7_passWeeks hc_p5) mv_X11_234 hc4 rfl (by decide) (Nat.le_of_ble_eq_true rfl) dX11_tallyBars_80 rfl ?_
      refine sm_aload_n (q := 84) dX11_tallyBars_83 rfl rfl 1 rfl ?_
      refine sm_getR (r := R a0 11) (q := 87) dX11_tallyBars_84 rfl fk_X11_69 hc2 (by decide) (by decide) rfl ?_
      refine sm_iload_n (q := 88) dX11_tallyBars_87 rfl rfl 4 rfl ?_
      refine sm_dup2 (q := 89) dX11_tallyBars_88 rfl rfl rfl ?_
      obtain ⟨hc6, h⟩ := sm_gd_e h
      refine sm_iald (n := (sm_kd (R a0 11)).2) (q := 90) dX11_tallyBars_89 rfl (Prod.ext hc6.1 rfl) hc6.2 ?_
      refine sm_aload_n (q := 91) dX11_tallyBars_90 rfl rfl 1 rfl ?_
      refine sm_getR (r := R a0 8) (q := 94) dX11_tallyBars_91 rfl fk_X11_55 hc2 (by decide) (by decide) rfl ?_
      refine sm_getI (q := 97) dX11_tallyBars_94 rfl fk_X11_206 hc3 (by decide) (by decide) ?_
      refine sm_iload (q := 99) dX11_tallyBars_97 rfl 0 rfl ?_
      refine sm_isub (q := 100) dX11_tallyBars_99 rfl ?_
      refine sm_iadd (q := 101) dX11_tallyBars_100 rfl ?_
      obtain ⟨I7, hI7, h⟩ := sm_lt_e h
      refine sm_iast (n := (sm_kd (R a0 11)).2) (q := 102) dX11_tallyBars_101 rfl (Prod.ext hc6.1 rfl) hc6.2 ?_
      refine sm_memI hI7 ?_
      refine sm_iinc (v := (a3 + 1)) (L' := [(3, .inl (a3 + 1)), (4, .inl (I (R a0 8) 3)), (0, .inr (.inl a0)), (1, .inl a1), (2, .inl a2)]) (q := 105) dX11_tallyBars_102 rfl 4 rfl rfl (by decide) rfl ?_
      refine sm_goto (q := 57) dX11_tallyBars_105 (by decide) ?_
      refine sm_pick [2, 3, 4, 0] rfl ?_
      exact ih _ _ _ _ _ _ h
set_option maxHeartbeats 4000000 in
set_option maxRecDepth 100000 in
theorem w_X11_tallyBars_22 {l : Launch} (N : Nat) (R : Nat → Nat → Nat) : ∀ (n : Nat) (a0 : Nat) (a1 : Int32) (a2 : Int32) (I : (Nat → Nat → Int32)) (y : (Unit × (Nat → Nat → Int32))), f_X11_tallyBars_22 N R n a0 a1 a2 I = some y → sm_W l 4 mX11_tallyBars 22 [(0, .inr (.inl a0)), (1, .inl a1), (2, .inl a2)] [] (I, R) (.inl none) (y.2, R) := by
  intro n
  induction n with
  | zero => intro a0 a1 a2 I y h; cases h
  | succ n ih =>
    intro a0 a1 a2 I y h
    rw [f_X11_tallyBars_22] at h
    refine sm_iload_n (q := 23) dX11_tallyBars_22 rfl rfl 2 rfl ?_
    refine sm_aload_n (q := 24) dX11_tallyBars_23 rfl rfl 0 rfl ?_
    obtain ⟨hc1, h⟩ := sm_gd_e h
    refine sm_getR (r := R a0 3) (q := 27) dX11_tallyBars_24 rfl fk_X11_23 hc1 (by decide) (by decide) rfl ?_
    obtain ⟨hc2, h⟩ := sm_gd_e h
    refine sm_getR (r := R (R a0 3) 5) (q := 30) dX11_tallyBars_27 rfl fk_X11_132 hc2 (by decide) (by decide) rfl ?_
    obtain ⟨hc3, h⟩ := sm_gd_e h
    refine sm_getI (q := 33) dX11_tallyBars_30 rfl fk_X11_135 hc3 (by decide) (by decide) ?_
    rcases sm_if_e h with ⟨hb4, h⟩ | ⟨hb4, h⟩
    · refine sm_icmp_ge (tgt := 114) (q := 36) dX11_tallyBars_33 (by decide) rfl (fun _ => ?_) (fun hn => absurd hb4 hn)
      obtain rfl := Option.some.inj h
      exact sm_vret dX11_tallyBars_114 rfl
    · refine sm_icmp_ge (tgt := 114) (q := 36) dX11_tallyBars_33 (by decide) rfl (fun ht => absurd ht hb4) (fun _ => ?_)
      refine sm_aload_n (q := 37) dX11_tallyBars_36 rfl rfl 0 rfl ?_
      refine sm_getR (r := R a0 8) (q := 40) dX11_tallyBars_37 rfl fk_X11_55 hc1 (by decide) (by decide) rfl ?_
      refine sm_aload_n (q := 41) dX11_tallyBars_40 rfl rfl 0 rfl ?_
      refine sm_getR (r := R a0 3) (q := 44) dX11_tallyBars_41 rfl fk_X11_23 hc1 (by decide) (by decide) rfl ?_
      refine sm_getR (r := R (R a0 3) 5) (q := 47) dX11_tallyBars_44 rfl fk_X11_132 hc2 (by decide) (by decide) rfl ?_
      refine sm_getR (r := R (R (R a0 3) 5) 0) (q := 50) dX11_tallyBars_47 rfl fk_X11_165 hc3 (by decide) (by decide) rfl ?_
      refine sm_iload_n (q := 51) dX11_tallyBars_50 rfl rfl 2 rfl ?_
      obtain ⟨hc5, h⟩ := sm_gd_e h
      refine sm_aald (t := 3) (n := (sm_kd (R (R (R a0 3) 5) 0)).2) (q := 52) dX11_tallyBars_51 rfl (Prod.ext hc5.1 rfl) (Or.inl ⟨rfl, rfl⟩) hc5.2 rfl ?_
      obtain ⟨hc6, h⟩ := sm_gd_e h
      obtain ⟨p7, hc_p7, h⟩ := sm_bd_e h
      refine sm_callVv (q := 55) (As := [.inr (.inl (R (R (R (R a0 3) 5) 0) (a2).toNatClampNeg))]) (S := []) (e_X4_become hc_p7) mv_X11_220 hc6 rfl (by decide) (Nat.le_of_ble_eq_true rfl) dX11_tallyBars_52 rfl ?_
      refine sm_iconst (v := 1) (q := 56) dX11_tallyBars_55 rfl (by decide) ?_
      refine sm_istore_n (L' := [(3, .inl (1 : Int32)), (0, .inr (.inl a0)), (1, .inl a1), (2, .inl a2)]) (q := 57) dX11_tallyBars_56 rfl rfl (by decide) rfl ?_
      refine sm_pick [1, 2, 3, 0] rfl ?_
      exact w_X11_tallyBars_57 N R (fun z0 z1 z2 J => f_X11_tallyBars_22 N R n z0 z1 z2 J) (fun z0 z1 z2 J y h => ih z0 z1 z2 J y h) N _ _ _ _ _ _ h
set_option maxHeartbeats 4000000 in
set_option maxRecDepth 100000 in
theorem w_X11_tallyBars_2 {l : Launch} (N : Nat) (R : Nat → Nat → Nat) : ∀ (n : Nat) (a0 : Nat) (a1 : Int32) (a2 : Int32) (I : (Nat → Nat → Int32)) (y : (Unit × (Nat → Nat → Int32))), f_X11_tallyBars_2 N R n a0 a1 a2 I = some y → sm_W l 4 mX11_tallyBars 2 [(0, .inr (.inl a0)), (1, .inl a1), (2, .inl a2)] [] (I, R) (.inl none) (y.2, R) := by
  intro n
  induction n with
  | zero => intro a0 a1 a2 I y h; cases h
  | succ n ih =>
    intro a0 a1 a2 I y h
    rw [f_X11_tallyBars_2] at h
    refine sm_iload_n (q := 3) dX11_tallyBars_2 rfl rfl 2 rfl ?_
    refine sm_iload_n (q := 4) dX11_tallyBars_3 rfl rfl 1 rfl ?_
    rcases sm_if_e h with ⟨hb1, h⟩ | ⟨hb1, h⟩
    · refine sm_icmp_gt (tgt := 20) (q := 7) dX11_tallyBars_4 (by decide) rfl (fun _ => ?_) (fun hn => absurd hb1 hn)
      refine sm_iconst (v := 0) (q := 21) dX11_tallyBars_20 rfl (by decide) ?_
      refine sm_istore_n (L' := [(2, .inl (0 : Int32)), (0, .inr (.inl a0)), (1, .inl a1)]) (q := 22) dX11_tallyBars_21 rfl rfl (by decide) rfl ?_
      refine sm_pick [1, 2, 0] rfl ?_
      exact w_X11_tallyBars_22 N R N _ _ _ _ _ h
    · refine sm_icmp_gt (tgt := 20) (q := 7) dX11_tallyBars_4 (by decide) rfl (fun ht => absurd ht hb1) (fun _ => ?_)
      refine sm_aload_n (q := 8) dX11_tallyBars_7 rfl rfl 0 rfl ?_
      obtain ⟨hc2, h⟩ := sm_gd_e h
      refine sm_getR (r := R a0 11) (q := 11) dX11_tallyBars_8 rfl fk_X11_69 hc2 (by decide) (by decide) rfl ?_
      refine sm_iload_n (q := 12) dX11_tallyBars_11 rfl rfl 2 rfl ?_
      refine sm_iconst (v := 0) (q := 13) dX11_tallyBars_12 rfl (by decide) ?_
      obtain ⟨hc3, h⟩ := sm_gd_e h
      obtain ⟨I4, hI4, h⟩ := sm_lt_e h
      refine sm_iast (n := (sm_kd (R a0 11)).2) (q := 14) dX11_tallyBars_13 rfl (Prod.ext hc3.1 rfl) hc3.2 ?_
      refine sm_memI hI4 ?_
      refine sm_iinc (v := (a2 + 1)) (L' := [(2, .inl (a2 + 1)), (0, .inr (.inl a0)), (1, .inl a1)]) (q := 17) dX11_tallyBars_14 rfl 2 rfl rfl (by decide) rfl ?_
      refine sm_goto (q := 2) dX11_tallyBars_17 (by decide) ?_
      refine sm_pick [1, 2, 0] rfl ?_
      exact ih _ _ _ _ _ h
set_option maxHeartbeats 4000000 in
set_option maxRecDepth 100000 in
theorem w_X11_tallyBars {l : Launch} (N : Nat) (R : Nat → Nat → Nat) : ∀ (a0 : Nat) (a1 : Int32) (I : (Nat → Nat → Int32)) (y : (Unit × (Nat → Nat → Int32))), f_X11_tallyBars N R a0 a1 I = some y → sm_W l 4 mX11_tallyBars 0 [(0, .inr (.inl a0)), (1, .inl a1)] [] (I, R) (.inl none) (y.2, R) := by
  intro a0 a1 I y h
  unfold f_X11_tallyBars at h
  refine sm_iconst (v := 1) (q := 1) dX11_tallyBars_0 rfl (by decide) ?_
  refine sm_istore_n (L' := [(2, .inl (1 : Int32)), (0, .inr (.inl a0)), (1, .inl a1)]) (q := 2) dX11_tallyBars_1 rfl rfl (by decide) rfl ?_
  refine sm_pick [1, 2, 0] rfl ?_
  exact w_X11_tallyBars_2 N R N _ _ _ _ _ h
theorem e_X11_tallyBars {l : Launch} {N : Nat} {R : Nat → Nat → Nat} {a0 : Nat} {a1 : Int32} {I : (Nat → Nat → Int32)} {y : (Unit × (Nat → Nat → Int32))} (h : f_X11_tallyBars N R a0 a1 I = some y) : sm_E l 4 mX11_tallyBars [.inr (.inl a0), .inl a1] (I, R) (.inl none) (y.2, R) :=
  sm_meth (by decide) (Nat.le_of_ble_eq_true rfl) (w_X11_tallyBars N R a0 a1 I y h)
def f_X11_rush_22 (N : Nat) (R : Nat → Nat → Nat) : Nat → Nat → Int32 → Int32 → Int32 → Int32 → (Nat → Nat → Int32) → Option ((Int32 ⊕ String) × (Nat → Nat → Int32))
  | 0, _, _, _, _, _, _ => none
  | n + 1, a0, a1, a2, a3, a4, I =>
    if a1 < a4 then (
      if a2 = 0 then (
        some (.inl a3, I))
      else (
        sm_gd (sm_kd a0 = (11, 16)) <|
        sm_gd ((sm_kd (R a0 11)).1 = 13 ∧ ¬ (a3 < 0 ∨ (sm_kd (R a0 11)).2 ≤ (a3).toNatClampNeg)) <|
        some (.inl (I (R a0 11) (a3).toNatClampNeg), I)))
    else (
      sm_gd (sm_kd a0 = (11, 16)) <|
      sm_gd ((sm_kd (R a0 11)).1 = 13 ∧ ¬ (a4 < 0 ∨ (sm_kd (R a0 11)).2 ≤ (a4).toNatClampNeg)) <|
      sm_gd ((sm_kd (R a0 11)).1 = 13 ∧ ¬ (a3 < 0 ∨ (sm_kd (R a0 11)).2 ≤ (a3).toNatClampNeg)) <|
      if (I (R a0 11) (a4).toNatClampNeg) ≤ (I (R a0 11) (a3).toNatClampNeg) then (
        f_X11_rush_22 N R n a0 a1 a2 a3 (a4 + 1) I)
      else (
        f_X11_rush_22 N R n a0 a1 a2 a4 (a4 + 1) I))
def f_X11_rush (N : Nat) (R : Nat → Nat → Nat) : Nat → Int32 → Int32 → (Nat → Nat → Int32) → Option ((Int32 ⊕ String) × (Nat → Nat → Int32)) := fun a0 a1 a2 I =>
  sm_tb (f_X11_needWhat N R a2 (1 : Int32) I) fun r2 J3 =>
  sm_tb (f_X11_needBetween N R a1 (1 : Int32) (60 : Int32) J3) fun r5 J6 =>
  sm_gd (sm_kd a0 = (11, 16)) <|
  (f_X11_tallyBars N R a0 a1 J6).bind fun p8 =>
  f_X11_rush_22 N R N a0 a1 a2 (1 : Int32) (2 : Int32) p8.2
set_option maxHeartbeats 4000000 in
set_option maxRecDepth 100000 in
theorem w_X11_rush_22 {l : Launch} (hl : l.stackTraces = false) (N : Nat) (R : Nat → Nat → Nat) : ∀ (n : Nat) (a0 : Nat) (a1 : Int32) (a2 : Int32) (a3 : Int32) (a4 : Int32) (I : (Nat → Nat → Int32)) (y : ((Int32 ⊕ String) × (Nat → Nat → Int32))), f_X11_rush_22 N R n a0 a1 a2 a3 a4 I = some y → sm_W l 5 mX11_rush 22 [(0, .inr (.inl a0)), (1, .inl a1), (2, .inl a2), (3, .inl a3), (4, .inl a4)] [] (I, R) (sm_oI y.1) (y.2, R) := by
  intro n
  induction n with
  | zero => intro a0 a1 a2 a3 a4 I y h; cases h
  | succ n ih =>
    intro a0 a1 a2 a3 a4 I y h
    rw [f_X11_rush_22] at h
    refine sm_iload (q := 24) dX11_rush_22 rfl 4 rfl ?_
    refine sm_iload_n (q := 25) dX11_rush_24 rfl rfl 1 rfl ?_
    rcases sm_if_e h with ⟨hb1, h⟩ | ⟨hb1, h⟩
    · refine sm_icmp_gt (tgt := 53) (q := 28) dX11_rush_25 (by decide) rfl (fun _ => ?_) (fun hn => absurd hb1 hn)
      refine sm_iload_n (q := 54) dX11_rush_53 rfl rfl 2 rfl ?_
      rcases sm_if_e h with ⟨hb2, h⟩ | ⟨hb2, h⟩
      · refine sm_if_ne (tgt := 61) (q := 57) dX11_rush_54 (by decide) rfl (fun hn => absurd hb2 hn) (fun _ => ?_)
        refine sm_iload_n (q := 58) dX11_rush_57 rfl rfl 3 rfl ?_
        refine sm_goto (q := 67) dX11_rush_58 (by decide) ?_
        obtain rfl := Option.some.inj h
        exact sm_iret dX11_rush_67 rfl
      · refine sm_if_ne (tgt := 61) (q := 57) dX11_rush_54 (by decide) rfl (fun _ => ?_) (fun he => absurd he hb2)
        refine sm_aload_n (q := 62) dX11_rush_61 rfl rfl 0 rfl ?_
        obtain ⟨hc3, h⟩ := sm_gd_e h
        refine sm_getR (r := R a0 11) (q := 65) dX11_rush_62 rfl fk_X11_69 hc3 (by decide) (by decide) rfl ?_
        refine sm_iload_n (q := 66) dX11_rush_65 rfl rfl 3 rfl ?_
        obtain ⟨hc4, h⟩ := sm_gd_e h
        refine sm_iald (n := (sm_kd (R a0 11)).2) (q := 67) dX11_rush_66 rfl (Prod.ext hc4.1 rfl) hc4.2 ?_
        obtain rfl := Option.some.inj h
        exact sm_iret dX11_rush_67 rfl
    · refine sm_icmp_gt (tgt := 53) (q := 28) dX11_rush_25 (by decide) rfl (fun ht => absurd ht hb1) (fun _ => ?_)
      refine sm_aload_n (q := 29) dX11_rush_28 rfl rfl 0 rfl ?_
      obtain ⟨hc5, h⟩ := sm_gd_e h
      refine sm_getR (r := R a0 11) (q := 32) dX11_rush_29 rfl fk_X11_69 hc5 (by decide) (by decide) rfl ?_
      refine sm_iload (q := 34) dX11_rush_32 rfl 4 rfl ?_
      obtain ⟨hc6, h⟩ := sm_gd_e h
      refine sm_iald (n := (sm_kd (R a0 11)).2) (q := 35) dX11_rush_34 rfl (Prod.ext hc6.1 rfl) hc6.2 ?_
      refine sm_aload_n (q := 36) dX11_rush_35 rfl rfl 0 rfl ?_
      refine sm_getR (r := R a0 11) (q := 39) dX11_rush_36 rfl fk_X11_69 hc5 (by decide) (by decide) rfl ?_
      refine sm_iload_n (q := 40) dX11_rush_39 rfl rfl 3 rfl ?_
      obtain ⟨hc7, h⟩ := sm_gd_e h
      refine sm_iald (n := (sm_kd (R a0 11)).2) (q := 41) dX11_rush_40 rfl (Prod.ext hc7.1 rfl) hc7.2 ?_
      rcases sm_if_e h with ⟨hb8, h⟩ | ⟨hb8, h⟩
      · refine sm_icmp_le (tgt := 47) (q := 44) dX11_rush_41 (by decide) rfl (fun _ => ?_) (fun hn => absurd hb8 hn)
        refine sm_iinc (v := (a4 + 1)) (L' := [(4, .inl (a4 + 1)), (0, .inr (.inl a0)), (1, .inl a1), (2, .inl a2), (3, .inl a3)]) (q := 50) dX11_rush_47 rfl 4 rfl rfl (by decide) rfl ?_
        refine sm_goto (q := 22) dX11_rush_50 (by decide) ?_
        refine sm_pick [1, 2, 3, 4, 0] rfl ?_
        exact ih _ _ _ _ _ _ _ h
      · refine sm_icmp_le (tgt := 47) (q := 44) dX11_rush_41 (by decide) rfl (fun ht => absurd ht hb8) (fun _ => ?_)
        refine sm_iload (q := 46) dX11_rush_44 rfl 4 rfl ?_
        refine sm_istore_n (L' := [(3, .inl a4), (0, .inr (.inl a0)), (1, .inl a1), (2, .inl a2), (4, .inl a4)]) (q := 47) dX11_rush_46 rfl rfl (by decide) rfl ?_
        refine sm_iinc (v := (a4 + 1)) (L' := [(4, .inl (a4 + 1)), (3, .inl a4), (0, .inr (.inl a0)), (1, .inl a1), (2, .inl a2)]) (q := 50) dX11_rush_47 rfl 4 rfl rfl (by decide) rfl ?_
        refine sm_goto (q := 22) dX11_rush_50 (by decide) ?_
        refine sm_pick [2, 3, 4, 1, 0] rfl ?_
        exact ih _ _ _ _ _ _ _ h
set_option maxHeartbeats 4000000 in
set_option maxRecDepth 100000 in
theorem w_X11_rush {l : Launch} (hl : l.stackTraces = false) (N : Nat) (R : Nat → Nat → Nat) : ∀ (a0 : Nat) (a1 : Int32) (a2 : Int32) (I : (Nat → Nat → Int32)) (y : ((Int32 ⊕ String) × (Nat → Nat → Int32))), f_X11_rush N R a0 a1 a2 I = some y → sm_W l 5 mX11_rush 0 [(0, .inr (.inl a0)), (1, .inl a1), (2, .inl a2)] [] (I, R) (sm_oI y.1) (y.2, R) := by
  intro a0 a1 a2 I y h
  unfold f_X11_rush at h
  refine sm_iload_n (q := 1) dX11_rush_0 rfl rfl 2 rfl ?_
  refine sm_iconst (v := 1) (q := 2) dX11_rush_1 rfl (by decide) ?_
  rcases sm_tb_e h with ⟨r2, J3, hc_p1, h⟩ | ⟨E9, J9, hc_p1, h⟩
  · refine sm_callSv (q := 5) (As := [.inl a2, .inl (1 : Int32)]) (S := []) (ek_X11_needWhat hl hc_p1) ms_X11_251 rfl (by decide) (Nat.le_of_ble_eq_true rfl) dX11_rush_2 rfl ?_
    refine sm_iload_n (q := 6) dX11_rush_5 rfl rfl 1 rfl ?_
    refine sm_iconst (v := 1) (q := 7) dX11_rush_6 rfl (by decide) ?_
    refine sm_bipush (v := 60) (q := 9) dX11_rush_7 rfl (by decide) ?_
    rcases sm_tb_e h with ⟨r5, J6, hc_p4, h⟩ | ⟨E9, J9, hc_p4, h⟩
    · refine sm_callSv (q := 12) (As := [.inl a1, .inl (1 : Int32), .inl (60 : Int32)]) (S := []) (ek_X11_needBetween hl hc_p4) ms_X11_255 rfl (by decide) (Nat.le_of_ble_eq_true rfl) dX11_rush_9 rfl ?_
      refine sm_aload_n (q := 13) dX11_rush_12 rfl rfl 0 rfl ?_
      refine sm_iload_n (q := 14) dX11_rush_13 rfl rfl 1 rfl ?_
      obtain ⟨hc7, h⟩ := sm_gd_e h
      obtain ⟨p8, hc_p8, h⟩ := sm_bd_e h
      refine sm_callVv (q := 17) (As := [.inl a1]) (S := []) (e_X11_tallyBars hc_p8) mv_X11_310 hc7 rfl (by decide) (Nat.le_of_ble_eq_true rfl) dX11_rush_14 rfl ?_
      refine sm_iconst (v := 1) (q := 18) dX11_rush_17 rfl (by decide) ?_
      refine sm_istore_n (L' := [(3, .inl (1 : Int32)), (0, .inr (.inl a0)), (1, .inl a1), (2, .inl a2)]) (q := 19) dX11_rush_18 rfl rfl (by decide) rfl ?_
      refine sm_iconst (v := 2) (q := 20) dX11_rush_19 rfl (by decide) ?_
      refine sm_istore (L' := [(4, .inl (2 : Int32)), (3, .inl (1 : Int32)), (0, .inr (.inl a0)), (1, .inl a1), (2, .inl a2)]) (q := 22) dX11_rush_20 rfl (by decide) rfl ?_
      refine sm_pick [2, 3, 4, 1, 0] rfl ?_
      exact w_X11_rush_22 hl N R N _ _ _ _ _ _ _ h
    · obtain rfl := Option.some.inj h
      exact sm_callSX (E := E9) (As := [.inl a1, .inl (1 : Int32), .inl (60 : Int32)]) (S := []) (ex_X11_needBetween hl hc_p4) ms_X11_255 rfl (by decide) (Nat.le_of_ble_eq_true rfl) dX11_rush_9
  · obtain rfl := Option.some.inj h
    exact sm_callSX (E := E9) (As := [.inl a2, .inl (1 : Int32)]) (S := []) (ex_X11_needWhat hl hc_p1) ms_X11_251 rfl (by decide) (Nat.le_of_ble_eq_true rfl) dX11_rush_2
theorem e_X11_rush {l : Launch} (hl : l.stackTraces = false) {N : Nat} {R : Nat → Nat → Nat} {a0 : Nat} {a1 : Int32} {a2 : Int32} {I : (Nat → Nat → Int32)} {y : ((Int32 ⊕ String) × (Nat → Nat → Int32))} (h : f_X11_rush N R a0 a1 a2 I = some y) : sm_E l 5 mX11_rush [.inr (.inl a0), .inl a1, .inl a2] (I, R) (sm_oI y.1) (y.2, R) :=
  sm_meth (by decide) (Nat.le_of_ble_eq_true rfl) (w_X11_rush hl N R a0 a1 a2 I y h)
theorem ek_X11_rush {l : Launch} (hl : l.stackTraces = false) {N : Nat} {R : Nat → Nat → Nat} {a0 : Nat} {a1 : Int32} {a2 : Int32} {I : (Nat → Nat → Int32)} {r : Int32} {J : (Nat → Nat → Int32)} (h : f_X11_rush N R a0 a1 a2 I = some (.inl r, J)) : sm_E l 5 mX11_rush [.inr (.inl a0), .inl a1, .inl a2] (I, R) (.inl (some (.inl r))) (J, R) := by
  have h1 := e_X11_rush (l := l) hl h
  exact h1
theorem ex_X11_rush {l : Launch} (hl : l.stackTraces = false) {N : Nat} {R : Nat → Nat → Nat} {a0 : Nat} {a1 : Int32} {a2 : Int32} {I : (Nat → Nat → Int32)} {E : String} {J : (Nat → Nat → Int32)} (h : f_X11_rush N R a0 a1 a2 I = some (.inr E, J)) : sm_E l 5 mX11_rush [.inr (.inl a0), .inl a1, .inl a2] (I, R) (.inr E) (J, R) := by
  have h1 := e_X11_rush (l := l) hl h
  exact h1
def f_X11_sorest (N : Nat) (R : Nat → Nat → Nat) : Nat → Int32 → (Nat → Nat → Int32) → Option ((Int32 ⊕ String) × (Nat → Nat → Int32)) := fun a0 a1 I =>
  sm_tb (f_X11_needBetween N R a1 (0 : Int32) (60 : Int32) I) fun r2 J3 =>
  sm_gd (sm_kd a0 = (11, 16)) <|
  (f_X11_whoHasMost N R a0 a1 (1 : Int32) J3).bind fun p5 =>
  some (.inl p5.1, p5.2)
set_option maxHeartbeats 4000000 in
set_option maxRecDepth 100000 in
theorem w_X11_sorest {l : Launch} (hl : l.stackTraces = false) (N : Nat) (R : Nat → Nat → Nat) : ∀ (a0 : Nat) (a1 : Int32) (I : (Nat → Nat → Int32)) (y : ((Int32 ⊕ String) × (Nat → Nat → Int32))), f_X11_sorest N R a0 a1 I = some y → sm_W l 5 mX11_sorest 0 [(0, .inr (.inl a0)), (1, .inl a1)] [] (I, R) (sm_oI y.1) (y.2, R) := by
  intro a0 a1 I y h
  unfold f_X11_sorest at h
  refine sm_iload_n (q := 1) dX11_sorest_0 rfl rfl 1 rfl ?_
  refine sm_iconst (v := 0) (q := 2) dX11_sorest_1 rfl (by decide) ?_
  refine sm_bipush (v := 60) (q := 4) dX11_sorest_2 rfl (by decide) ?_
  rcases sm_tb_e h with ⟨r2, J3, hc_p1, h⟩ | ⟨E9, J9, hc_p1, h⟩
  · refine sm_callSv (q := 7) (As := [.inl a1, .inl (0 : Int32), .inl (60 : Int32)]) (S := []) (ek_X11_needBetween hl hc_p1) ms_X11_255 rfl (by decide) (Nat.le_of_ble_eq_true rfl) dX11_sorest_4 rfl ?_
    refine sm_aload_n (q := 8) dX11_sorest_7 rfl rfl 0 rfl ?_
    refine sm_iload_n (q := 9) dX11_sorest_8 rfl rfl 1 rfl ?_
    refine sm_iconst (v := 1) (q := 10) dX11_sorest_9 rfl (by decide) ?_
    obtain ⟨hc4, h⟩ := sm_gd_e h
    obtain ⟨p5, hc_p5, h⟩ := sm_bd_e h
    refine sm_callVi (q := 13) (As := [.inl a1, .inl (1 : Int32)]) (S := []) (e_X11_whoHasMost hc_p5) mv_X11_262 hc4 rfl (by decide) (Nat.le_of_ble_eq_true rfl) dX11_sorest_10 rfl ?_
    obtain rfl := Option.some.inj h
    exact sm_iret dX11_sorest_13 rfl
  · obtain rfl := Option.some.inj h
    exact sm_callSX (E := E9) (As := [.inl a1, .inl (0 : Int32), .inl (60 : Int32)]) (S := []) (ex_X11_needBetween hl hc_p1) ms_X11_255 rfl (by decide) (Nat.le_of_ble_eq_true rfl) dX11_sorest_4
theorem e_X11_sorest {l : Launch} (hl : l.stackTraces = false) {N : Nat} {R : Nat → Nat → Nat} {a0 : Nat} {a1 : Int32} {I : (Nat → Nat → Int32)} {y : ((Int32 ⊕ String) × (Nat → Nat → Int32))} (h : f_X11_sorest N R a0 a1 I = some y) : sm_E l 5 mX11_sorest [.inr (.inl a0), .inl a1] (I, R) (sm_oI y.1) (y.2, R) :=
  sm_meth (by decide) (Nat.le_of_ble_eq_true rfl) (w_X11_sorest hl N R a0 a1 I y h)
theorem ek_X11_sorest {l : Launch} (hl : l.stackTraces = false) {N : Nat} {R : Nat → Nat → Nat} {a0 : Nat} {a1 : Int32} {I : (Nat → Nat → Int32)} {r : Int32} {J : (Nat → Nat → Int32)} (h : f_X11_sorest N R a0 a1 I = some (.inl r, J)) : sm_E l 5 mX11_sorest [.inr (.inl a0), .inl a1] (I, R) (.inl (some (.inl r))) (J, R) := by
  have h1 := e_X11_sorest (l := l) hl h
  exact h1
theorem ex_X11_sorest {l : Launch} (hl : l.stackTraces = false) {N : Nat} {R : Nat → Nat → Nat} {a0 : Nat} {a1 : Int32} {I : (Nat → Nat → Int32)} {E : String} {J : (Nat → Nat → Int32)} (h : f_X11_sorest N R a0 a1 I = some (.inr E, J)) : sm_E l 5 mX11_sorest [.inr (.inl a0), .inl a1] (I, R) (.inr E) (J, R) := by
  have h1 := e_X11_sorest (l := l) hl h
  exact h1
def f_X11_toGlove_8 (N : Nat) (R : Nat → Nat → Nat) : Nat → Nat → Nat → Int32 → (Nat → Nat → Int32) → Option ((Int32 ⊕ String) × (Nat → Nat → Int32))
  | 0, _, _, _, _ => none
  | n + 1, a0, a2, a3, I =>
    if (9 : Int32) < a3 then (
      some (.inl (-1 : Int32), I))
    else (
      sm_gd (sm_kd a0 = (11, 16)) <|
      sm_gd (sm_kd (R a0 8) = (4, 6)) <|
      (f_X4_become N R (R a0 8) a2 I).bind fun p4 =>
      (f_X4_addSore N R (R a0 8) (-a3) p4.2).bind fun p5 =>
      sm_gd (sm_kd (R a0 3) = (7, 9)) <|
      (f_X7_passWeeks N R (R a0 3) (R a0 8) (1 : Int32) p5.2).bind fun p7 =>
      sm_gd (sm_kd a2 = (4, 6)) <|
      if (p7.2 (R a0 8) 3) ≤ (p7.2 a2 3) then (
        f_X11_toGlove_8 N R n a0 a2 (a3 + 1) p7.2)
      else (
        some (.inl a3, p7.2)))
def f_X11_toGlove (N : Nat) (R : Nat → Nat → Nat) : Nat → Int32 → (Nat → Nat → Int32) → Option ((Int32 ⊕ String) × (Nat → Nat → Int32)) := fun a0 a1 I =>
  sm_gd (sm_kd a0 = (11, 16)) <|
  sm_tb (f_X11_needPupil N R a0 a1 I) fun r3 J4 =>
  f_X11_toGlove_8 N R N a0 r3 (0 : Int32) J4
set_option maxHeartbeats 4000000 in
set_option maxRecDepth 100000 in
theorem w_X11_toGlove_8 {l : Launch} (hl : l.stackTraces = false) (N : Nat) (R : Nat → Nat → Nat) : ∀ (n : Nat) (a0 : Nat) (a2 : Nat) (a3 : Int32) (I : (Nat → Nat → Int32)) (y : ((Int32 ⊕ String) × (Nat → Nat → Int32))), f_X11_toGlove_8 N R n a0 a2 a3 I = some y → sm_W l 4 mX11_toGlove 8 [(0, .inr (.inl a0)), (2, .inr (.inl a2)), (3, .inl a3)] [] (I, R) (sm_oI y.1) (y.2, R) := by
  intro n
  induction n with
  | zero => intro a0 a2 a3 I y h; cases h
  | succ n ih =>
    intro a0 a2 a3 I y h
    rw [f_X11_toGlove_8] at h
    refine sm_iload_n (q := 9) dX11_toGlove_8 rfl rfl 2 rfl ?_
    refine sm_bipush (v := 9) (q := 11) dX11_toGlove_9 rfl (by decide) ?_
    rcases sm_if_e h with ⟨hb1, h⟩ | ⟨hb1, h⟩
    · refine sm_icmp_gt (tgt := 65) (q := 14) dX11_toGlove_11 (by decide) rfl (fun _ => ?_) (fun hn => absurd hb1 hn)
      refine sm_iconst (v := -1) (q := 66) dX11_toGlove_65 rfl (by decide) ?_
      obtain rfl := Option.some.inj h
      exact sm_iret dX11_toGlove_66 rfl
    · refine sm_icmp_gt (tgt := 65) (q := 14) dX11_toGlove_11 (by decide) rfl (fun ht => absurd ht hb1) (fun _ => ?_)
      refine sm_aload_n (q := 15) dX11_toGlove_14 rfl rfl 0 rfl ?_
      obtain ⟨hc2, h⟩ := sm_gd_e h
      refine sm_getR (r := R a0 8) (q := 18) dX11_toGlove_15 rfl fk_X11_55 hc2 (by decide) (by decide) rfl ?_
      refine sm_aload_n (q := 19) dX11_toGlove_18 rfl rfl 1 rfl ?_
      obtain ⟨hc3, h⟩ := sm_gd_e h
      obtain ⟨p4, hc_p4, h⟩ := sm_bd_e h
      refine sm_callVv (q := 22) (As := [.inr (.inl a2)]) (S := []) (e_X4_become hc_p4) mv_X11_220 hc3 rfl (by decide) (Nat.le_of_ble_eq_true rfl) dX11_toGlove_19 rfl ?_
      refine sm_aload_n (q := 23) dX11_toGlove_22 rfl rfl 0 rfl ?_
      refine sm_getR (r := R a0 8) (q := 26) dX11_toGlove_23 rfl fk_X11_55 hc2 (by decide) (by decide) rfl ?_
      refine sm_iload_n (q := 27) dX11_toGlove_26 rfl rfl 2 rfl ?_
      refine sm_ineg (q := 28) dX11_toGlove_27 rfl ?_
      obtain ⟨p5, hc_p5, h⟩ := sm_bd_e h
      refine sm_callVv (q := 31) (As := [.inl (-a3)]) (S := []) (e_X4_addSore hc_p5) mv_X11_245 hc3 rfl (by decide) (Nat.le_of_ble_eq_true rfl) dX11_toGlove_28 rfl ?_
      refine sm_aload_n (q := 32) dX11_toGlove_31 rfl rfl 0 rfl ?_
      refine sm_getR (r := R a0 3) (q := 35) dX11_toGlove_32 rfl fk_X11_23 hc2 (by decide) (by decide) rfl ?_
      refine sm_aload_n (q := 36) dX11_toGlove_35 rfl rfl 0 rfl ?_
      refine sm_getR (r := R a0 8) (q := 39) dX11_toGlove_36 rfl fk_X11_55 hc2 (by decide) (by decide) rfl ?_
      refine sm_iconst (v := 1) (q := 40) dX11_toGlove_39 rfl (by decide) ?_
      obtain ⟨hc6, h⟩ := sm_gd_e h
      obtain ⟨p7, hc_p7, h⟩ := sm_bd_e h
      refine sm_callVv (q := 43) (As := [.inr (.inl (R a0 8)), .inl (1 : Int32)]) (S := []) (e_X7_passWeeks hc_p7) mv_X11_234 hc6 rfl (by decide) (Nat.le_of_ble_eq_true rfl) dX11_toGlove_40 rfl ?_
      refine sm_aload_n (q := 44) dX11_toGlove_43 rfl rfl 0 rfl ?_
      refine sm_getR (r := R a0 8) (q := 47) dX11_toGlove_44 rfl fk_X11_55 hc2 (by decide) (by decide) rfl ?_
      refine sm_getI (q := 50) dX11_toGlove_47 rfl fk_X11_206 hc3 (by decide) (by decide) ?_
      refine sm_aload_n (q := 51) dX11_toGlove_50 rfl rfl 1 rfl ?_
      obtain ⟨hc8, h⟩ := sm_gd_e h
      refine sm_getI (q := 54) dX11_toGlove_51 rfl fk_X11_206 hc8 (by decide) (by decide) ?_
      rcases sm_if_e h with ⟨hb9, h⟩ | ⟨hb9, h⟩
      · refine sm_icmp_le (tgt := 59) (q := 57) dX11_toGlove_54 (by decide) rfl (fun _ => ?_) (fun hn => absurd hb9 hn)
        refine sm_iinc (v := (a3 + 1)) (L' := [(3, .inl (a3 + 1)), (0, .inr (.inl a0)), (2, .inr (.inl a2))]) (q := 62) dX11_toGlove_59 rfl 2 rfl rfl (by decide) rfl ?_
        refine sm_goto (q := 8) dX11_toGlove_62 (by decide) ?_
        refine sm_pick [1, 2, 0] rfl ?_
        exact ih _ _ _ _ _ h
      · refine sm_icmp_le (tgt := 59) (q := 57) dX11_toGlove_54 (by decide) rfl (fun ht => absurd ht hb9) (fun _ => ?_)
        refine sm_iload_n (q := 58) dX11_toGlove_57 rfl rfl 2 rfl ?_
        obtain rfl := Option.some.inj h
        exact sm_iret dX11_toGlove_58 rfl
set_option maxHeartbeats 4000000 in
set_option maxRecDepth 100000 in
theorem w_X11_toGlove {l : Launch} (hl : l.stackTraces = false) (N : Nat) (R : Nat → Nat → Nat) : ∀ (a0 : Nat) (a1 : Int32) (I : (Nat → Nat → Int32)) (y : ((Int32 ⊕ String) × (Nat → Nat → Int32))), f_X11_toGlove N R a0 a1 I = some y → sm_W l 4 mX11_toGlove 0 [(0, .inr (.inl a0)), (1, .inl a1)] [] (I, R) (sm_oI y.1) (y.2, R) := by
  intro a0 a1 I y h
  unfold f_X11_toGlove at h
  refine sm_aload_n (q := 1) dX11_toGlove_0 rfl rfl 0 rfl ?_
  refine sm_iload_n (q := 2) dX11_toGlove_1 rfl rfl 1 rfl ?_
  obtain ⟨hc1, h⟩ := sm_gd_e h
  rcases sm_tb_e h with ⟨r3, J4, hc_p2, h⟩ | ⟨E9, J9, hc_p2, h⟩
  · refine sm_callVr (q := 5) (As := [.inl a1]) (S := []) (ek_X11_needPupil hl hc_p2) mv_X11_193 hc1 rfl (by decide) (Nat.le_of_ble_eq_true rfl) dX11_toGlove_2 rfl ?_
    refine sm_astore_n (L' := [(2, .inr (.inl r3)), (0, .inr (.inl a0)), (1, .inl a1)]) (q := 6) dX11_toGlove_5 rfl rfl (by decide) rfl ?_
    refine sm_iconst (v := 0) (q := 7) dX11_toGlove_6 rfl (by decide) ?_
    refine sm_istore_n (L' := [(3, .inl (0 : Int32)), (2, .inr (.inl r3)), (0, .inr (.inl a0)), (1, .inl a1)]) (q := 8) dX11_toGlove_7 rfl rfl (by decide) rfl ?_
    refine sm_pick [2, 1, 0] rfl ?_
    exact w_X11_toGlove_8 hl N R N _ _ _ _ _ h
  · obtain rfl := Option.some.inj h
    exact sm_callVX (E := E9) (As := [.inl a1]) (S := []) (ex_X11_needPupil hl hc_p2) mv_X11_193 hc1 rfl (by decide) (Nat.le_of_ble_eq_true rfl) dX11_toGlove_2
theorem e_X11_toGlove {l : Launch} (hl : l.stackTraces = false) {N : Nat} {R : Nat → Nat → Nat} {a0 : Nat} {a1 : Int32} {I : (Nat → Nat → Int32)} {y : ((Int32 ⊕ String) × (Nat → Nat → Int32))} (h : f_X11_toGlove N R a0 a1 I = some y) : sm_E l 4 mX11_toGlove [.inr (.inl a0), .inl a1] (I, R) (sm_oI y.1) (y.2, R) :=
  sm_meth (by decide) (Nat.le_of_ble_eq_true rfl) (w_X11_toGlove hl N R a0 a1 I y h)
theorem ek_X11_toGlove {l : Launch} (hl : l.stackTraces = false) {N : Nat} {R : Nat → Nat → Nat} {a0 : Nat} {a1 : Int32} {I : (Nat → Nat → Int32)} {r : Int32} {J : (Nat → Nat → Int32)} (h : f_X11_toGlove N R a0 a1 I = some (.inl r, J)) : sm_E l 4 mX11_toGlove [.inr (.inl a0), .inl a1] (I, R) (.inl (some (.inl r))) (J, R) := by
  have h1 := e_X11_toGlove (l := l) hl h
  exact h1
theorem ex_X11_toGlove {l : Launch} (hl : l.stackTraces = false) {N : Nat} {R : Nat → Nat → Nat} {a0 : Nat} {a1 : Int32} {I : (Nat → Nat → Int32)} {E : String} {J : (Nat → Nat → Int32)} (h : f_X11_toGlove N R a0 a1 I = some (.inr E, J)) : sm_E l 4 mX11_toGlove [.inr (.inl a0), .inl a1] (I, R) (.inr E) (J, R) := by
  have h1 := e_X11_toGlove (l := l) hl h
  exact h1
def f_X11_full (N : Nat) (R : Nat → Nat → Nat) : Nat → Int32 → (Nat → Nat → Int32) → Option ((Int32 ⊕ String) × (Nat → Nat → Int32)) := fun a0 a1 I =>
  sm_tb (f_X11_needBetween N R a1 (1 : Int32) (30 : Int32) I) fun r2 J3 =>
  sm_gd (sm_kd a0 = (11, 16)) <|
  sm_gd (sm_kd (R a0 3) = (7, 9)) <|
  sm_gd (sm_kd (R (R a0 3) 5) = (10, 4)) <|
  (f_X10_awayIn N R (R (R a0 3) 5) a1 J3).bind fun p7 =>
  some (.inl p7.1, p7.2)
set_option maxHeartbeats 4000000 in
set_option maxRecDepth 100000 in
theorem w_X11_full {l : Launch} (hl : l.stackTraces = false) (N : Nat) (R : Nat → Nat → Nat) : ∀ (a0 : Nat) (a1 : Int32) (I : (Nat → Nat → Int32)) (y : ((Int32 ⊕ String) × (Nat → Nat → Int32))), f_X11_full N R a0 a1 I = some y → sm_W l 2 mX11_full 0 [(0, .inr (.inl a0)), (1, .inl a1)] [] (I, R) (sm_oI y.1) (y.2, R) := by
  intro a0 a1 I y h
  unfold f_X11_full at h
  refine sm_iload_n (q := 1) dX11_full_0 rfl rfl 1 rfl ?_
  refine sm_iconst (v := 1) (q := 2) dX11_full_1 rfl (by decide) ?_
  refine sm_bipush (v := 30) (q := 4) dX11_full_2 rfl (by decide) ?_
  rcases sm_tb_e h with ⟨r2, J3, hc_p1, h⟩ | ⟨E9, J9, hc_p1, h⟩
  · refine sm_callSv (q := 7) (As := [.inl a1, .inl (1 : Int32), .inl (30 : Int32)]) (S := []) (ek_X11_needBetween hl hc_p1) ms_X11_255 rfl (by decide) (Nat.le_of_ble_eq_true rfl) dX11_full_4 rfl ?_
    refine sm_aload_n (q := 8) dX11_full_7 rfl rfl 0 rfl ?_
    obtain ⟨hc4, h⟩ := sm_gd_e h
    refine sm_getR (r := R a0 3) (q := 11) dX11_full_8 rfl fk_X11_23 hc4 (by decide) (by decide) rfl ?_
    obtain ⟨hc5, h⟩ := sm_gd_e h
    refine sm_getR (r := R (R a0 3) 5) (q := 14) dX11_full_11 rfl fk_X11_132 hc5 (by decide) (by decide) rfl ?_
    refine sm_iload_n (q := 15) dX11_full_14 rfl rfl 1 rfl ?_
    obtain ⟨hc6, h⟩ := sm_gd_e h
    obtain ⟨p7, hc_p7, h⟩ := sm_bd_e h
    refine sm_callVi (q := 18) (As := [.inl a1]) (S := []) (e_X10_awayIn hc_p7) mv_X11_144 hc6 rfl (by decide) (Nat.le_of_ble_eq_true rfl) dX11_full_15 rfl ?_
    obtain rfl := Option.some.inj h
    exact sm_iret dX11_full_18 rfl
  · obtain rfl := Option.some.inj h
    exact sm_callSX (E := E9) (As := [.inl a1, .inl (1 : Int32), .inl (30 : Int32)]) (S := []) (ex_X11_needBetween hl hc_p1) ms_X11_255 rfl (by decide) (Nat.le_of_ble_eq_true rfl) dX11_full_4
theorem e_X11_full {l : Launch} (hl : l.stackTraces = false) {N : Nat} {R : Nat → Nat → Nat} {a0 : Nat} {a1 : Int32} {I : (Nat → Nat → Int32)} {y : ((Int32 ⊕ String) × (Nat → Nat → Int32))} (h : f_X11_full N R a0 a1 I = some y) : sm_E l 2 mX11_full [.inr (.inl a0), .inl a1] (I, R) (sm_oI y.1) (y.2, R) :=
  sm_meth (by decide) (Nat.le_of_ble_eq_true rfl) (w_X11_full hl N R a0 a1 I y h)
theorem ek_X11_full {l : Launch} (hl : l.stackTraces = false) {N : Nat} {R : Nat → Nat → Nat} {a0 : Nat} {a1 : Int32} {I : (Nat → Nat → Int32)} {r : Int32} {J : (Nat → Nat → Int32)} (h : f_X11_full N R a0 a1 I = some (.inl r, J)) : sm_E l 2 mX11_full [.inr (.inl a0), .inl a1] (I, R) (.inl (some (.inl r))) (J, R) := by
  have h1 := e_X11_full (l := l) hl h
  exact h1
theorem ex_X11_full {l : Launch} (hl : l.stackTraces = false) {N : Nat} {R : Nat → Nat → Nat} {a0 : Nat} {a1 : Int32} {I : (Nat → Nat → Int32)} {E : String} {J : (Nat → Nat → Int32)} (h : f_X11_full N R a0 a1 I = some (.inr E, J)) : sm_E l 2 mX11_full [.inr (.inl a0), .inl a1] (I, R) (.inr E) (J, R) := by
  have h1 := e_X11_full (l := l) hl h
  exact h1
def f_X11_empty (N : Nat) (R : Nat → Nat → Nat) : Nat → Int32 → (Nat → Nat → Int32) → Option ((Int32 ⊕ String) × (Nat → Nat → Int32)) := fun a0 a1 I =>
  sm_tb (f_X11_needBetween N R a1 (1 : Int32) (30 : Int32) I) fun r2 J3 =>
  sm_gd (sm_kd a0 = (11, 16)) <|
  (f_X11_weeksWithAway N R a0 a1 (0 : Int32) J3).bind fun p5 =>
  some (.inl p5.1, p5.2)
set_option maxHeartbeats 4000000 in
set_option maxRecDepth 100000 in
theorem w_X11_empty {l : Launch} (hl : l.stackTraces = false) (N : Nat) (R : Nat → Nat → Nat) : ∀ (a0 : Nat) (a1 : Int32) (I : (Nat → Nat → Int32)) (y : ((Int32 ⊕ String) × (Nat → Nat → Int32))), f_X11_empty N R a0 a1 I = some y → sm_W l 3 mX11_empty 0 [(0, .inr (.inl a0)), (1, .inl a1)] [] (I, R) (sm_oI y.1) (y.2, R) := by
  intro a0 a1 I y h
  unfold f_X11_empty at h
  refine sm_iload_n (q := 1) dX11_empty_0 rfl rfl 1 rfl ?_
  refine sm_iconst (v := 1) (q := 2) dX11_empty_1 rfl (by decide) ?_
  refine sm_bipush (v := 30) (q := 4) dX11_empty_2 rfl (by decide) ?_
  rcases sm_tb_e h with ⟨r2, J3, hc_p1, h⟩ | ⟨E9, J9, hc_p1, h⟩
  · refine sm_callSv (q := 7) (As := [.inl a1, .inl (1 : Int32), .inl (30 : Int32)]) (S := []) (ek_X11_needBetween hl hc_p1) ms_X11_255 rfl (by decide) (Nat.le_of_ble_eq_true rfl) dX11_empty_4 rfl ?_
    refine sm_aload_n (q := 8) dX11_empty_7 rfl rfl 0 rfl ?_
    refine sm_iload_n (q := 9) dX11_empty_8 rfl rfl 1 rfl ?_
    refine sm_iconst (v := 0) (q := 10) dX11_empty_9 rfl (by decide) ?_
    obtain ⟨hc4, h⟩ := sm_gd_e h
    obtain ⟨p5, hc_p5, h⟩ := sm_bd_e h
    refine sm_callVi (q := 13) (As := [.inl a1, .inl (0 : Int32)]) (S := []) (e_X11_weeksWithAway hc_p5) mv_X11_269 hc4 rfl (by decide) (Nat.le_of_ble_eq_true rfl) dX11_empty_10 rfl ?_
    obtain rfl := Option.some.inj h
    exact sm_iret dX11_empty_13 rfl
  · obtain rfl := Option.some.inj h
    exact sm_callSX (E := E9) (As := [.inl a1, .inl (1 : Int32), .inl (30 : Int32)]) (S := []) (ex_X11_needBetween hl hc_p1) ms_X11_255 rfl (by decide) (Nat.le_of_ble_eq_true rfl) dX11_empty_4
theorem e_X11_empty {l : Launch} (hl : l.stackTraces = false) {N : Nat} {R : Nat → Nat → Nat} {a0 : Nat} {a1 : Int32} {I : (Nat → Nat → Int32)} {y : ((Int32 ⊕ String) × (Nat → Nat → Int32))} (h : f_X11_empty N R a0 a1 I = some y) : sm_E l 3 mX11_empty [.inr (.inl a0), .inl a1] (I, R) (sm_oI y.1) (y.2, R) :=
  sm_meth (by decide) (Nat.le_of_ble_eq_true rfl) (w_X11_empty hl N R a0 a1 I y h)
theorem ek_X11_empty {l : Launch} (hl : l.stackTraces = false) {N : Nat} {R : Nat → Nat → Nat} {a0 : Nat} {a1 : Int32} {I : (Nat → Nat → Int32)} {r : Int32} {J : (Nat → Nat → Int32)} (h : f_X11_empty N R a0 a1 I = some (.inl r, J)) : sm_E l 3 mX11_empty [.inr (.inl a0), .inl a1] (I, R) (.inl (some (.inl r))) (J, R) := by
  have h1 := e_X11_empty (l := l) hl h
  exact h1
theorem ex_X11_empty {l : Launch} (hl : l.stackTraces = false) {N : Nat} {R : Nat → Nat → Nat} {a0 : Nat} {a1 : Int32} {I : (Nat → Nat → Int32)} {E : String} {J : (Nat → Nat → Int32)} (h : f_X11_empty N R a0 a1 I = some (.inr E, J)) : sm_E l 3 mX11_empty [.inr (.inl a0), .inl a1] (I, R) (.inr E) (J, R) := by
  have h1 := e_X11_empty (l := l) hl h
  exact h1
def f_X11_common (N : Nat) (R : Nat → Nat → Nat) : Nat → Int32 → Int32 → (Nat → Nat → Int32) → Option ((Int32 ⊕ String) × (Nat → Nat → Int32)) := fun a0 a1 a2 I =>
  sm_gd (sm_kd a0 = (11, 16)) <|
  sm_tb (f_X11_needPiece N R a0 a1 I) fun r3 J4 =>
  sm_tb (f_X11_needPiece N R a0 a2 J4) fun r6 J7 =>
  sm_gd (sm_kd (R a0 3) = (7, 9)) <|
  (f_X7_longestCommonRow N R (R a0 3) a1 a2 J7).bind fun p9 =>
  some (.inl p9.1, p9.2)
set_option maxHeartbeats 4000000 in
set_option maxRecDepth 100000 in
theorem w_X11_common {l : Launch} (hl : l.stackTraces = false) (N : Nat) (R : Nat → Nat → Nat) : ∀ (a0 : Nat) (a1 : Int32) (a2 : Int32) (I : (Nat → Nat → Int32)) (y : ((Int32 ⊕ String) × (Nat → Nat → Int32))), f_X11_common N R a0 a1 a2 I = some y → sm_W l 2 mX11_common 0 [(0, .inr (.inl a0)), (1, .inl a1), (2, .inl a2)] [] (I, R) (sm_oI y.1) (y.2, R) := by
  intro a0 a1 a2 I y h
  unfold f_X11_common at h
  refine sm_aload_n (q := 1) dX11_common_0 rfl rfl 0 rfl ?_
  refine sm_iload_n (q := 2) dX11_common_1 rfl rfl 1 rfl ?_
  obtain ⟨hc1, h⟩ := sm_gd_e h
  rcases sm_tb_e h with ⟨r3, J4, hc_p2, h⟩ | ⟨E9, J9, hc_p2, h⟩
  · refine sm_callVv (q := 5) (As := [.inl a1]) (S := []) (ek_X11_needPiece hl hc_p2) mv_X11_173 hc1 rfl (by decide) (Nat.le_of_ble_eq_true rfl) dX11_common_2 rfl ?_
    refine sm_aload_n (q := 6) dX11_common_5 rfl rfl 0 rfl ?_
    refine sm_iload_n (q := 7) dX11_common_6 rfl rfl 2 rfl ?_
    rcases sm_tb_e h with ⟨r6, J7, hc_p5, h⟩ | ⟨E9, J9, hc_p5, h⟩
    · refine sm_callVv (q := 10) (As := [.inl a2]) (S := []) (ek_X11_needPiece hl hc_p5) mv_X11_173 hc1 rfl (by decide) (Nat.le_of_ble_eq_true rfl) dX11_common_7 rfl ?_
      refine sm_aload_n (q := 11) dX11_common_10 rfl rfl 0 rfl ?_
      refine sm_getR (r := R a0 3) (q := 14) dX11_common_11 rfl fk_X11_23 hc1 (by decide) (by decide) rfl ?_
      refine sm_iload_n (q := 15) dX11_common_14 rfl rfl 1 rfl ?_
      refine sm_iload_n (q := 16) dX11_common_15 rfl rfl 2 rfl ?_
      obtain ⟨hc8, h⟩ := sm_gd_e h
      obtain ⟨p9, hc_p9, h⟩ := sm_bd_e h
      refine sm_callVi (q := 19) (As := [.inl a1, .inl a2]) (S := []) (e_X7_longestCommonRow hc_p9) mv_X11_313 hc8 rfl (by decide) (Nat.le_of_ble_eq_true rfl) dX11_common_16 rfl ?_
      obtain rfl := Option.some.inj h
      exact sm_iret dX11_common_19 rfl
    · obtain rfl := Option.some.inj h
      exact sm_callVX (E := E9) (As := [.inl a2]) (S := []) (ex_X11_needPiece hl hc_p5) mv_X11_173 hc1 rfl (by decide) (Nat.le_of_ble_eq_true rfl) dX11_common_7
  · obtain rfl := Option.some.inj h
    exact sm_callVX (E := E9) (As := [.inl a1]) (S := []) (ex_X11_needPiece hl hc_p2) mv_X11_173 hc1 rfl (by decide) (Nat.le_of_ble_eq_true rfl) dX11_common_2
theorem e_X11_common {l : Launch} (hl : l.stackTraces = false) {N : Nat} {R : Nat → Nat → Nat} {a0 : Nat} {a1 : Int32} {a2 : Int32} {I : (Nat → Nat → Int32)} {y : ((Int32 ⊕ String) × (Nat → Nat → Int32))} (h : f_X11_common N R a0 a1 a2 I = some y) : sm_E l 2 mX11_common [.inr (.inl a0), .inl a1, .inl a2] (I, R) (sm_oI y.1) (y.2, R) :=
  sm_meth (by decide) (Nat.le_of_ble_eq_true rfl) (w_X11_common hl N R a0 a1 a2 I y h)
theorem ek_X11_common {l : Launch} (hl : l.stackTraces = false) {N : Nat} {R : Nat → Nat → Nat} {a0 : Nat} {a1 : Int32} {a2 : Int32} {I : (Nat → Nat → Int32)} {r : Int32} {J : (Nat → Nat → Int32)} (h : f_X11_common N R a0 a1 a2 I = some (.inl r, J)) : sm_E l 2 mX11_common [.inr (.inl a0), .inl a1, .inl a2] (I, R) (.inl (some (.inl r))) (J, R) := by
  have h1 := e_X11_common (l := l) hl h
  exact h1
theorem ex_X11_common {l : Launch} (hl : l.stackTraces = false) {N : Nat} {R : Nat → Nat → Nat} {a0 : Nat} {a1 : Int32} {a2 : Int32} {I : (Nat → Nat → Int32)} {E : String} {J : (Nat → Nat → Int32)} (h : f_X11_common N R a0 a1 a2 I = some (.inr E, J)) : sm_E l 2 mX11_common [.inr (.inl a0), .inl a1, .inl a2] (I, R) (.inr E) (J, R) := by
  have h1 := e_X11_common (l := l) hl h
  exact h1
def f_X11_work_9 (N : Nat) (R : Nat → Nat → Nat) : Nat → Nat → Int32 → Int32 → Int32 → (Nat → Nat → Int32) → Option ((Int32 ⊕ String) × (Nat → Nat → Int32))
  | 0, _, _, _, _, _ => none
  | n + 1, a0, a1, a2, a3, I =>
    sm_gd (sm_kd a0 = (11, 16)) <|
    sm_gd (sm_kd (R a0 3) = (7, 9)) <|
    sm_gd ((sm_kd (R (R a0 3) 0)).1 = 13 ∧ ¬ (a1 < 0 ∨ (sm_kd (R (R a0 3) 0)).2 ≤ (a1).toNatClampNeg)) <|
    if (I (R (R a0 3) 0) (a1).toNatClampNeg) ≤ a3 then (
      some (.inl a2, I))
    else (
      (f_X7_hardOf N R (R a0 3) a1 a3 I).bind fun p5 =>
      f_X11_work_9 N R n a0 a1 (a2 + p5.1) (a3 + 1) p5.2)
def f_X11_work (N : Nat) (R : Nat → Nat → Nat) : Nat → Int32 → (Nat → Nat → Int32) → Option ((Int32 ⊕ String) × (Nat → Nat → Int32)) := fun a0 a1 I =>
  sm_gd (sm_kd a0 = (11, 16)) <|
  sm_tb (f_X11_needPiece N R a0 a1 I) fun r3 J4 =>
  f_X11_work_9 N R N a0 a1 (0 : Int32) (0 : Int32) J4
set_option maxHeartbeats 4000000 in
set_option maxRecDepth 100000 in
theorem w_X11_work_9 {l : Launch} (hl : l.stackTraces = false) (N : Nat) (R : Nat → Nat → Nat) : ∀ (n : Nat) (a0 : Nat) (a1 : Int32) (a2 : Int32) (a3 : Int32) (I : (Nat → Nat → Int32)) (y : ((Int32 ⊕ String) × (Nat → Nat → Int32))), f_X11_work_9 N R n a0 a1 a2 a3 I = some y → sm_W l 1 mX11_work 9 [(0, .inr (.inl a0)), (1, .inl a1), (2, .inl a2), (3, .inl a3)] [] (I, R) (sm_oI y.1) (y.2, R) := by
  intro n
  induction n with
  | zero => intro a0 a1 a2 a3 I y h; cases h
  | succ n ih =>
    intro a0 a1 a2 a3 I y h
    rw [f_X11_work_9] at h
    refine sm_iload_n (q := 10) dX11_work_9 rfl rfl 3 rfl ?_
    refine sm_aload_n (q := 11) dX11_work_10 rfl rfl 0 rfl ?_
    obtain ⟨hc1, h⟩ := sm_gd_e h
    refine sm_getR (r := R a0 3) (q := 14) dX11_work_11 rfl fk_X11_23 hc1 (by decide) (by decide) rfl ?_
    obtain ⟨hc2, h⟩ := sm_gd_e h
    refine sm_getR (r := R (R a0 3) 0) (q := 17) dX11_work_14 rfl fk_X11_176 hc2 (by decide) (by decide) rfl ?_
    refine sm_iload_n (q := 18) dX11_work_17 rfl rfl 1 rfl ?_
    obtain ⟨hc3, h⟩ := sm_gd_e h
    refine sm_iald (n := (sm_kd (R (R a0 3) 0)).2) (q := 19) dX11_work_18 rfl (Prod.ext hc3.1 rfl) hc3.2 ?_
    rcases sm_if_e h with ⟨hb4, h⟩ | ⟨hb4, h⟩
    · refine sm_icmp_ge (tgt := 40) (q := 22) dX11_work_19 (by decide) rfl (fun _ => ?_) (fun hn => absurd hb4 hn)
      refine sm_iload_n (q := 41) dX11_work_40 rfl rfl 2 rfl ?_
      obtain rfl := Option.some.inj h
      exact sm_iret dX11_work_41 rfl
    · refine sm_icmp_ge (tgt := 40) (q := 22) dX11_work_19 (by decide) rfl (fun ht => absurd ht hb4) (fun _ => ?_)
      refine sm_iload_n (q := 23) dX11_work_22 rfl rfl 2 rfl ?_
      refine sm_aload_n (q := 24) dX11_work_23 rfl rfl 0 rfl ?_
      refine sm_getR (r := R a0 3) (q := 27) dX11_work_24 rfl fk_X11_23 hc1 (by decide) (by decide) rfl ?_
      refine sm_iload_n (q := 28) dX11_work_27 rfl rfl 1 rfl ?_
      refine sm_iload_n (q := 29) dX11_work_28 rfl rfl 3 rfl ?_
      obtain ⟨p5, hc_p5, h⟩ := sm_bd_e h
      refine sm_callVi (q := 32) (As := [.inl a1, .inl a3]) (S := [.inl a2]) (e_X7_hardOf hc_p5) mv_X11_189 hc2 rfl (by decide) (Nat.le_of_ble_eq_true rfl) dX11_work_29 rfl ?_
      refine sm_iadd (q := 33) dX11_work_32 rfl ?_
      refine sm_istore_n (L' := [(2, .inl (a2 + p5.1)), (0, .inr (.inl a0)), (1, .inl a1), (3, .inl a3)]) (q := 34) dX11_work_33 rfl rfl (by decide) rfl ?_
      refine sm_iinc (v := (a3 + 1)) (L' := [(3, .inl (a3 + 1)), (2, .inl (a2 + p5.1)), (0, .inr (.inl a0)), (1, .inl a1)]) (q := 37) dX11_work_34 rfl 3 rfl rfl (by decide) rfl ?_
      refine sm_goto (q := 9) dX11_work_37 (by decide) ?_
      refine sm_pick [2, 3, 1, 0] rfl ?_
      exact ih _ _ _ _ _ _ h
set_option maxHeartbeats 4000000 in
set_option maxRecDepth 100000 in
theorem w_X11_work {l : Launch} (hl : l.stackTraces = false) (N : Nat) (R : Nat → Nat → Nat) : ∀ (a0 : Nat) (a1 : Int32) (I : (Nat → Nat → Int32)) (y : ((Int32 ⊕ String) × (Nat → Nat → Int32))), f_X11_work N R a0 a1 I = some y → sm_W l 1 mX11_work 0 [(0, .inr (.inl a0)), (1, .inl a1)] [] (I, R) (sm_oI y.1) (y.2, R) := by
  intro a0 a1 I y h
  unfold f_X11_work at h
  refine sm_aload_n (q := 1) dX11_work_0 rfl rfl 0 rfl ?_
  refine sm_iload_n (q := 2) dX11_work_1 rfl rfl 1 rfl ?_
  obtain ⟨hc1, h⟩ := sm_gd_e h
  rcases sm_tb_e h with ⟨r3, J4, hc_p2, h⟩ | ⟨E9, J9, hc_p2, h⟩
  · refine sm_callVv (q := 5) (As := [.inl a1]) (S := []) (ek_X11_needPiece hl hc_p2) mv_X11_173 hc1 rfl (by decide) (Nat.le_of_ble_eq_true rfl) dX11_work_2 rfl ?_
    refine sm_iconst (v := 0) (q := 6) dX11_work_5 rfl (by decide) ?_
    refine sm_istore_n (L' := [(2, .inl (0 : Int32)), (0, .inr (.inl a0)), (1, .inl a1)]) (q := 7) dX11_work_6 rfl rfl (by decide) rfl ?_
    refine sm_iconst (v := 0) (q := 8) dX11_work_7 rfl (by decide) ?_
    refine sm_istore_n (L' := [(3, .inl (0 : Int32)), (2, .inl (0 : Int32)), (0, .inr (.inl a0)), (1, .inl a1)]) (q := 9) dX11_work_8 rfl rfl (by decide) rfl ?_
    refine sm_pick [2, 3, 1, 0] rfl ?_
    exact w_X11_work_9 hl N R N _ _ _ _ _ _ h
  · obtain rfl := Option.some.inj h
    exact sm_callVX (E := E9) (As := [.inl a1]) (S := []) (ex_X11_needPiece hl hc_p2) mv_X11_173 hc1 rfl (by decide) (Nat.le_of_ble_eq_true rfl) dX11_work_2
theorem e_X11_work {l : Launch} (hl : l.stackTraces = false) {N : Nat} {R : Nat → Nat → Nat} {a0 : Nat} {a1 : Int32} {I : (Nat → Nat → Int32)} {y : ((Int32 ⊕ String) × (Nat → Nat → Int32))} (h : f_X11_work N R a0 a1 I = some y) : sm_E l 1 mX11_work [.inr (.inl a0), .inl a1] (I, R) (sm_oI y.1) (y.2, R) :=
  sm_meth (by decide) (Nat.le_of_ble_eq_true rfl) (w_X11_work hl N R a0 a1 I y h)
theorem ek_X11_work {l : Launch} (hl : l.stackTraces = false) {N : Nat} {R : Nat → Nat → Nat} {a0 : Nat} {a1 : Int32} {I : (Nat → Nat → Int32)} {r : Int32} {J : (Nat → Nat → Int32)} (h : f_X11_work N R a0 a1 I = some (.inl r, J)) : sm_E l 1 mX11_work [.inr (.inl a0), .inl a1] (I, R) (.inl (some (.inl r))) (J, R) := by
  have h1 := e_X11_work (l := l) hl h
  exact h1
theorem ex_X11_work {l : Launch} (hl : l.stackTraces = false) {N : Nat} {R : Nat → Nat → Nat} {a0 : Nat} {a1 : Int32} {I : (Nat → Nat → Int32)} {E : String} {J : (Nat → Nat → Int32)} (h : f_X11_work N R a0 a1 I = some (.inr E, J)) : sm_E l 1 mX11_work [.inr (.inl a0), .inl a1] (I, R) (.inr E) (J, R) := by
  have h1 := e_X11_work (l := l) hl h
  exact h1
def f_X11_mates_11 (N : Nat) (R : Nat → Nat → Nat) : Nat → Nat → Int32 → Nat → Int32 → Int32 → (Nat → Nat → Int32) → Option ((Int32 ⊕ String) × (Nat → Nat → Int32))
  | 0, _, _, _, _, _, _ => none
  | n + 1, a0, a1, a2, a3, a4, I =>
    sm_gd (sm_kd a0 = (11, 16)) <|
    sm_gd (sm_kd (R a0 3) = (7, 9)) <|
    sm_gd (sm_kd (R (R a0 3) 5) = (10, 4)) <|
    if (I (R (R a0 3) 5) 1) ≤ a4 then (
      some (.inl a3, I))
    else (
      if a4 = a1 then (
        f_X11_mates_11 N R n a0 a1 a2 a3 (a4 + 1) I)
      else (
        sm_gd ((sm_kd (R (R (R a0 3) 5) 0)).1 = 16 ∧ ¬ (a4 < 0 ∨ (sm_kd (R (R (R a0 3) 5) 0)).2 ≤ (a4).toNatClampNeg)) <|
        sm_gd (sm_kd (R (R (R (R a0 3) 5) 0) (a4).toNatClampNeg) = (4, 6)) <|
        sm_gd (sm_kd a2 = (4, 6)) <|
        if (I (R (R (R (R a0 3) 5) 0) (a4).toNatClampNeg) 2) = (I a2 2) then (
          f_X11_mates_11 N R n a0 a1 a2 (a3 ||| ((1 : Int32) <<< (a4 &&& 31))) (a4 + 1) I)
        else (
          f_X11_mates_11 N R n a0 a1 a2 a3 (a4 + 1) I)))
def f_X11_mates (N : Nat) (R : Nat → Nat → Nat) : Nat → Int32 → (Nat → Nat → Int32) → Option ((Int32 ⊕ String) × (Nat → Nat → Int32)) := fun a0 a1 I =>
  sm_gd (sm_kd a0 = (11, 16)) <|
  sm_tb (f_X11_needPupil N R a0 a1 I) fun r3 J4 =>
  f_X11_mates_11 N R N a0 a1 r3 (0 : Int32) (0 : Int32) J4
set_option maxHeartbeats 4000000 in
set_option maxRecDepth 100000 in
theorem w_X11_mates_11 {l : Launch} (hl : l.stackTraces = false) (N : Nat) (R : Nat → Nat → Nat) : ∀ (n : Nat) (a0 : Nat) (a1 : Int32) (a2 : Nat) (a3 : Int32) (a4 : Int32) (I : (Nat → Nat → Int32)) (y : ((Int32 ⊕ String) × (Nat → Nat → Int32))), f_X11_mates_11 N R n a0 a1 a2 a3 a4 I = some y → sm_W l 1 mX11_mates 11 [(0, .inr (.inl a0)), (1, .inl a1), (2, .inr (.inl a2)), (3, .inl a3), (4, .inl a4)] [] (I, R) (sm_oI y.1) (y.2, R) := by
  intro n
  induction n with
  | zero => intro a0 a1 a2 a3 a4 I y h; cases h
  | succ n ih =>
    intro a0 a1 a2 a3 a4 I y h
    rw [f_X11_mates_11] at h
    refine sm_iload (q := 13) dX11_mates_11 rfl 4 rfl ?_
    refine sm_aload_n (q := 14) dX11_mates_13 rfl rfl 0 rfl ?_
    obtain ⟨hc1, h⟩ := sm_gd_e h
    refine sm_getR (r := R a0 3) (q := 17) dX11_mates_14 rfl fk_X11_23 hc1 (by decide) (by decide) rfl ?_
    obtain ⟨hc2, h⟩ := sm_gd_e h
    refine sm_getR (r := R (R a0 3) 5) (q := 20) dX11_mates_17 rfl fk_X11_132 hc2 (by decide) (by decide) rfl ?_
    obtain ⟨hc3, h⟩ := sm_gd_e h
    refine sm_getI (q := 23) dX11_mates_20 rfl fk_X11_135 hc3 (by decide) (by decide) ?_
    rcases sm_if_e h with ⟨hb4, h⟩ | ⟨hb4, h⟩
    · refine sm_icmp_ge (tgt := 68) (q := 26) dX11_mates_23 (by decide) rfl (fun _ => ?_) (fun hn => absurd hb4 hn)
      refine sm_iload_n (q := 69) dX11_mates_68 rfl rfl 3 rfl ?_
      obtain rfl := Option.some.inj h
      exact sm_iret dX11_mates_69 rfl
    · refine sm_icmp_ge (tgt := 68) (q := 26) dX11_mates_23 (by decide) rfl (fun ht => absurd ht hb4) (fun _ => ?_)
      refine sm_iload (q := 28) dX11_mates_26 rfl 4 rfl ?_
      refine sm_iload_n (q := 29) dX11_mates_28 rfl rfl 1 rfl ?_
      rcases sm_if_e h with ⟨hb5, h⟩ | ⟨hb5, h⟩
      · refine sm_icmp_eq (tgt := 62) (q := 32) dX11_mates_29 (by decide) rfl (fun _ => ?_) (fun hn => absurd hb5 hn)
        refine sm_iinc (v := (a4 + 1)) (L' := [(4, .inl (a4 + 1)), (0, .inr (.inl a0)), (1, .inl a1), (2, .inr (.inl a2)), (3, .inl a3)]) (q := 65) dX11_mates_62 rfl 4 rfl rfl (by decide) rfl ?_
        refine sm_goto (q := 11) dX11_mates_65 (by decide) ?_
        refine sm_pick [1, 2, 3, 4, 0] rfl ?_
        exact ih _ _ _ _ _ _ _ h
      · refine sm_icmp_eq (tgt := 62) (q := 32) dX11_mates_29 (by decide) rfl (fun ht => absurd ht hb5) (fun _ => ?_)
        refine sm_aload_n (q := 33) dX11_mates_32 rfl rfl 0 rfl ?_
        refine sm_getR (r := R a0 3) (q := 36) dX11_mates_33 rfl fk_X11_23 hc1 (by decide) (by decide) rfl ?_
        refine sm_getR (r := R (R a0 3) 5) (q := 39) dX11_mates_36 rfl fk_X11_132 hc2 (by decide) (by decide) rfl ?_
        refine sm_getR (r := R (R (R a0 3) 5) 0) (q := 42) dX11_mates_39 rfl fk_X11_165 hc3 (by decide) (by decide) rfl ?_
        refine sm_iload (q := 44) dX11_mates_42 rfl 4 rfl ?_
        obtain ⟨hc6, h⟩ := sm_gd_e h
        refine sm_aald (t := 3) (n := (sm_kd (R (R (R a0 3) 5) 0)).2) (q := 45) dX11_mates_44 rfl (Prod.ext hc6.1 rfl) (Or.inl ⟨rfl, rfl⟩) hc6.2 rfl ?_
        obtain ⟨hc7, h⟩ := sm_gd_e h
        refine sm_getI (q := 48) dX11_mates_45 rfl fk_X11_203 hc7 (by decide) (by decide) ?_
        refine sm_aload_n (q := 49) dX11_mates_48 rfl rfl 2 rfl ?_
        obtain ⟨hc8, h⟩ := sm_gd_e h
        refine sm_getI (q := 52) dX11_mates_49 rfl fk_X11_203 hc8 (by decide) (by decide) ?_
        rcases sm_if_e h with ⟨hb9, h⟩ | ⟨hb9, h⟩
        · refine sm_icmp_ne (tgt := 62) (q := 55) dX11_mates_52 (by decide) rfl (fun hn => absurd hb9 hn) (fun _ => ?_)
          refine sm_iload_n (q := 56) dX11_mates_55 rfl rfl 3 rfl ?_
          refine sm_iconst (v := 1) (q := 57) dX11_mates_56 rfl (by decide) ?_
          refine sm_iload (q := 59) dX11_mates_57 rfl 4 rfl ?_
          refine sm_ishl (q := 60) dX11_mates_59 rfl ?_
          refine sm_ior (q := 61) dX11_mates_60 rfl ?_
          refine sm_istore_n (L' := [(3, .inl (a3 ||| ((1 : Int32) <<< (a4 &&& 31)))), (0, .inr (.inl a0)), (1, .inl a1), (2, .inr (.inl a2)), (4, .inl a4)]) (q := 62) dX11_mates_61 rfl rfl (by decide) rfl ?_
          refine sm_iinc (v := (a4 + 1)) (L' := [(4, .inl (a4 + 1)), (3, .inl (a3 ||| ((1 : Int32) <<< (a4 &&& 31)))), (0, .inr (.inl a0)), (1, .inl a1), (2, .inr (.inl a2))]) (q := 65) dX11_mates_62 rfl 4 rfl rfl (by decide) rfl ?_
          refine sm_goto (q := 11) dX11_mates_65 (by decide) ?_
          refine sm_pick [2, 3, 4, 1, 0] rfl ?_
          exact ih _ _ _ _ _ _ _ h
        · refine sm_icmp_ne (tgt := 62) (q := 55) dX11_mates_52 (by decide) rfl (fun _ => ?_) (fun he => absurd he hb9)
          refine sm_iinc (v := (a4 + 1)) (L' := [(4, .inl (a4 + 1)), (0, .inr (.inl a0)), (1, .inl a1), (2, .inr (.inl a2)), (3, .inl a3)]) (q := 65) dX11_mates_62 rfl 4 rfl rfl (by decide) rfl ?_
          refine sm_goto (q := 11) dX11_mates_65 (by decide) ?_
          refine sm_pick [1, 2, 3, 4, 0] rfl ?_
          exact ih _ _ _ _ _ _ _ h
set_option maxHeartbeats 4000000 in
set_option maxRecDepth 100000 in
theorem w_X11_mates {l : Launch} (hl : l.stackTraces = false) (N : Nat) (R : Nat → Nat → Nat) : ∀ (a0 : Nat) (a1 : Int32) (I : (Nat → Nat → Int32)) (y : ((Int32 ⊕ String) × (Nat → Nat → Int32))), f_X11_mates N R a0 a1 I = some y → sm_W l 1 mX11_mates 0 [(0, .inr (.inl a0)), (1, .inl a1)] [] (I, R) (sm_oI y.1) (y.2, R) := by
  intro a0 a1 I y h
  unfold f_X11_mates at h
  refine sm_aload_n (q := 1) dX11_mates_0 rfl rfl 0 rfl ?_
  refine sm_iload_n (q := 2) dX11_mates_1 rfl rfl 1 rfl ?_
  obtain ⟨hc1, h⟩ := sm_gd_e h
  rcases sm_tb_e h with ⟨r3, J4, hc_p2, h⟩ | ⟨E9, J9, hc_p2, h⟩
  · refine sm_callVr (q := 5) (As := [.inl a1]) (S := []) (ek_X11_needPupil hl hc_p2) mv_X11_193 hc1 rfl (by decide) (Nat.le_of_ble_eq_true rfl) dX11_mates_2 rfl ?_
    refine sm_astore_n (L' := [(2, .inr (.inl r3)), (0, .inr (.inl a0)), (1, .inl a1)]) (q := 6) dX11_mates_5 rfl rfl (by decide) rfl ?_
    refine sm_iconst (v := 0) (q := 7) dX11_mates_6 rfl (by decide) ?_
    refine sm_istore_n (L' := [(3, .inl (0 : Int32)), (2, .inr (.inl r3)), (0, .inr (.inl a0)), (1, .inl a1)]) (q := 8) dX11_mates_7 rfl rfl (by decide) rfl ?_
    refine sm_iconst (v := 0) (q := 9) dX11_mates_8 rfl (by decide) ?_
    refine sm_istore (L' := [(4, .inl (0 : Int32)), (3, .inl (0 : Int32)), (2, .inr (.inl r3)), (0, .inr (.inl a0)), (1, .inl a1)]) (q := 11) dX11_mates_9 rfl (by decide) rfl ?_
    refine sm_pick [3, 4, 2, 1, 0] rfl ?_
    exact w_X11_mates_11 hl N R N _ _ _ _ _ _ _ h
  · obtain rfl := Option.some.inj h
    exact sm_callVX (E := E9) (As := [.inl a1]) (S := []) (ex_X11_needPupil hl hc_p2) mv_X11_193 hc1 rfl (by decide) (Nat.le_of_ble_eq_true rfl) dX11_mates_2
theorem e_X11_mates {l : Launch} (hl : l.stackTraces = false) {N : Nat} {R : Nat → Nat → Nat} {a0 : Nat} {a1 : Int32} {I : (Nat → Nat → Int32)} {y : ((Int32 ⊕ String) × (Nat → Nat → Int32))} (h : f_X11_mates N R a0 a1 I = some y) : sm_E l 1 mX11_mates [.inr (.inl a0), .inl a1] (I, R) (sm_oI y.1) (y.2, R) :=
  sm_meth (by decide) (Nat.le_of_ble_eq_true rfl) (w_X11_mates hl N R a0 a1 I y h)
theorem ek_X11_mates {l : Launch} (hl : l.stackTraces = false) {N : Nat} {R : Nat → Nat → Nat} {a0 : Nat} {a1 : Int32} {I : (Nat → Nat → Int32)} {r : Int32} {J : (Nat → Nat → Int32)} (h : f_X11_mates N R a0 a1 I = some (.inl r, J)) : sm_E l 1 mX11_mates [.inr (.inl a0), .inl a1] (I, R) (.inl (some (.inl r))) (J, R) := by
  have h1 := e_X11_mates (l := l) hl h
  exact h1
theorem ex_X11_mates {l : Launch} (hl : l.stackTraces = false) {N : Nat} {R : Nat → Nat → Nat} {a0 : Nat} {a1 : Int32} {I : (Nat → Nat → Int32)} {E : String} {J : (Nat → Nat → Int32)} (h : f_X11_mates N R a0 a1 I = some (.inr E, J)) : sm_E l 1 mX11_mates [.inr (.inl a0), .inl a1] (I, R) (.inr E) (J, R) := by
  have h1 := e_X11_mates (l := l) hl h
  exact h1
def f_X11_see_32 (N : Nat) (R : Nat → Nat → Nat) : Nat → Int32 → Int32 → Int32 → Int32 → (Nat → Nat → Int32) → Option ((Int32 ⊕ String) × (Nat → Nat → Int32)) := fun a0 a1 a2 a3 b0 I =>
  if b0 = 0 then (
    sm_gd (sm_kd a0 = (11, 16)) <|
    (f_X11_refuse N R a0 (2 : Int32) I).bind fun p3 =>
    some (.inl p3.1, p3.2))
  else (
    sm_gd (sm_kd a0 = (11, 16)) <|
    sm_gd (sm_kd (R a0 5) = (9, 4)) <|
    if (I (R a0 5) 3) < (8 : Int32) then (
      (f_X9_add N R (R a0 5) a1 a2 a3 I).bind fun p7 =>
      some (.inl (p7.2 (R a0 5) 3), p7.2))
    else (
      (f_X11_refuse N R a0 (2 : Int32) I).bind fun p8 =>
      some (.inl p8.1, p8.2)))
def f_X11_see (N : Nat) (R : Nat → Nat → Nat) : Nat → Int32 → Int32 → Int32 → (Nat → Nat → Int32) → Option ((Int32 ⊕ String) × (Nat → Nat → Int32)) := fun a0 a1 a2 a3 I =>
  sm_gd (sm_kd a0 = (11, 16)) <|
  sm_tb (f_X11_needPupil N R a0 a1 I) fun r3 J4 =>
  if a2 < (1 : Int32) then (
    f_X11_see_32 N R a0 a1 a2 a3 (0 : Int32) J4)
  else (
    if (20 : Int32) < a2 then (
      f_X11_see_32 N R a0 a1 a2 a3 (0 : Int32) J4)
    else (
      if a3 < 0 then (
        f_X11_see_32 N R a0 a1 a2 a3 (0 : Int32) J4)
      else (
        if (8 : Int32) < a3 then (
          f_X11_see_32 N R a0 a1 a2 a3 (0 : Int32) J4)
        else (
          f_X11_see_32 N R a0 a1 a2 a3 (1 : Int32) J4))))
set_option maxHeartbeats 4000000 in
set_option maxRecDepth 100000 in
theorem w_X11_see_32 {l : Launch} (hl : l.stackTraces = false) (N : Nat) (R : Nat → Nat → Nat) : ∀ (a0 : Nat) (a1 : Int32) (a2 : Int32) (a3 : Int32) (b0 : Int32) (I : (Nat → Nat → Int32)) (y : ((Int32 ⊕ String) × (Nat → Nat → Int32))), f_X11_see_32 N R a0 a1 a2 a3 b0 I = some y → sm_W l 1 mX11_see 32 [(0, .inr (.inl a0)), (1, .inl a1), (2, .inl a2), (3, .inl a3)] [.inl b0] (I, R) (sm_oI y.1) (y.2, R) := by
  intro a0 a1 a2 a3 b0 I y h
  unfold f_X11_see_32 at h
  refine sm_istore (L' := [(4, .inl b0), (0, .inr (.inl a0)), (1, .inl a1), (2, .inl a2), (3, .inl a3)]) (q := 34) dX11_see_32 rfl (by decide) rfl ?_
  refine sm_iload (q := 36) dX11_see_34 rfl 0 rfl ?_
  rcases sm_if_e h with ⟨hb1, h⟩ | ⟨hb1, h⟩
  · refine sm_if_eq (tgt := 51) (q := 39) dX11_see_36 (by decide) rfl (fun _ => ?_) (fun hn => absurd hb1 hn)
    refine sm_aload_n (q := 52) dX11_see_51 rfl rfl 1 rfl ?_
    refine sm_iconst (v := 2) (q := 53) dX11_see_52 rfl (by decide) ?_
    obtain ⟨hc2, h⟩ := sm_gd_e h
    obtain ⟨p3, hc_p3, h⟩ := sm_bd_e h
    refine sm_callVi (q := 56) (As := [.inl (2 : Int32)]) (S := []) (e_X11_refuse hc_p3) mv_X11_227 hc2 rfl (by decide) (Nat.le_of_ble_eq_true rfl) dX11_see_53 rfl ?_
    obtain rfl := Option.some.inj h
    exact sm_iret dX11_see_56 rfl
  · refine sm_if_eq (tgt := 51) (q := 39) dX11_see_36 (by decide) rfl (fun ht => absurd ht hb1) (fun _ => ?_)
    refine sm_aload_n (q := 40) dX11_see_39 rfl rfl 1 rfl ?_
    obtain ⟨hc4, h⟩ := sm_gd_e h
    refine sm_getR (r := R a0 5) (q := 43) dX11_see_40 rfl fk_X11_37 hc4 (by decide) (by decide) rfl ?_
    obtain ⟨hc5, h⟩ := sm_gd_e h
    refine sm_getI (q := 46) dX11_see_43 rfl fk_X11_157 hc5 (by decide) (by decide) ?_
    refine sm_bipush (v := 8) (q := 48) dX11_see_46 rfl (by decide) ?_
    rcases sm_if_e h with ⟨hb6, h⟩ | ⟨hb6, h⟩
    · refine sm_icmp_lt (tgt := 57) (q := 51) dX11_see_48 (by decide) rfl (fun _ => ?_) (fun hn => absurd hb6 hn)
      refine sm_aload_n (q := 58) dX11_see_57 rfl rfl 1 rfl ?_
      refine sm_getR (r := R a0 5) (q := 61) dX11_see_58 rfl fk_X11_37 hc4 (by decide) (by decide) rfl ?_
      refine sm_iload_n (q := 62) dX11_see_61 rfl rfl 2 rfl ?_
      refine sm_iload_n (q := 63) dX11_see_62 rfl rfl 3 rfl ?_
      refine sm_iload_n (q := 64) dX11_see_63 rfl rfl 4 rfl ?_
      obtain ⟨p7, hc_p7, h⟩ := sm_bd_e h
      refine sm_callVv (q := 67) (As := [.inl a1, .inl a2, .inl a3]) (S := []) (e_X9_add hc_p7) mv_X11_316 hc5 rfl (by decide) (Nat.le_of_ble_eq_true rfl) dX11_see_64 rfl ?_
      refine sm_aload_n (q := 68) dX11_see_67 rfl rfl 1 rfl ?_
      refine sm_getR (r := R a0 5) (q := 71) dX11_see_68 rfl fk_X11_37 hc4 (by decide) (by decide) rfl ?_
      refine sm_getI (q := 74) dX11_see_71 rfl fk_X11_157 hc5 (by decide) (by decide) ?_
      obtain rfl := Option.some.inj h
      exact sm_iret dX11_see_74 rfl
    · refine sm_icmp_lt (tgt := 57) (q := 51) dX11_see_48 (by decide) rfl (fun ht => absurd ht hb6) (fun _ => ?_)
      refine sm_aload_n (q := 52) dX11_see_51 rfl rfl 1 rfl ?_
      refine sm_iconst (v := 2) (q := 53) dX11_see_52 rfl (by decide) ?_
      obtain ⟨p8, hc_p8, h⟩ := sm_bd_e h
      refine sm_callVi (q := 56) (As := [.inl (2 : Int32)]) (S := []) (e_X11_refuse hc_p8) mv_X11_227 hc4 rfl (by decide) (Nat.le_of_ble_eq_true rfl) dX11_see_53 rfl ?_
      obtain rfl := Option.some.inj h
      exact sm_iret dX11_see_56 rfl
set_option maxHeartbeats 4000000 in
set_option maxRecDepth 100000 in
theorem w_X11_see {l : Launch} (hl : l.stackTraces = false) (N : Nat) (R : Nat → Nat → Nat) : ∀ (a0 : Nat) (a1 : Int32) (a2 : Int32) (a3 : Int32) (I : (Nat → Nat → Int32)) (y : ((Int32 ⊕ String) × (Nat → Nat → Int32))), f_X11_see N R a0 a1 a2 a3 I = some y → sm_W l 1 mX11_see 0 [(0, .inr (.inl a0)), (1, .inl a1), (2, .inl a2), (3, .inl a3)] [] (I, R) (sm_oI y.1) (y.2, R) := by
  intro a0 a1 a2 a3 I y h
  unfold f_X11_see at h
  refine sm_aload_n (q := 1) dX11_see_0 rfl rfl 0 rfl ?_
  refine sm_iload_n (q := 2) dX11_see_1 rfl rfl 1 rfl ?_
  obtain ⟨hc1, h⟩ := sm_gd_e h
  rcases sm_tb_e h with ⟨r3, J4, hc_p2, h⟩ | ⟨E9, J9, hc_p2, h⟩
  · refine sm_callVr (q := 5) (As := [.inl a1]) (S := []) (ek_X11_needPupil hl hc_p2) mv_X11_193 hc1 rfl (by decide) (Nat.le_of_ble_eq_true rfl) dX11_see_2 rfl ?_
    refine sm_pop (q := 6) dX11_see_5 rfl rfl ?_
    refine sm_iload_n (q := 7) dX11_see_6 rfl rfl 2 rfl ?_
    refine sm_iconst (v := 1) (q := 8) dX11_see_7 rfl (by decide) ?_
    rcases sm_if_e h with ⟨hb5, h⟩ | ⟨hb5, h⟩
    · refine sm_icmp_lt (tgt := 31) (q := 11) dX11_see_8 (by decide) rfl (fun _ => ?_) (fun hn => absurd hb5 hn)
      refine sm_iconst (v := 0) (q := 32) dX11_see_31 rfl (by decide) ?_
      refine sm_pick [0, 1, 2, 3] rfl ?_
      exact w_X11_see_32 hl N R _ _ _ _ _ _ _ h
    · refine sm_icmp_lt (tgt := 31) (q := 11) dX11_see_8 (by decide) rfl (fun ht => absurd ht hb5) (fun _ => ?_)
      refine sm_iload_n (q := 12) dX11_see_11 rfl rfl 2 rfl ?_
      refine sm_bipush (v := 20) (q := 14) dX11_see_12 rfl (by decide) ?_
      rcases sm_if_e h with ⟨hb6, h⟩ | ⟨hb6, h⟩
      · refine sm_icmp_gt (tgt := 31) (q := 17) dX11_see_14 (by decide) rfl (fun _ => ?_) (fun hn => absurd hb6 hn)
        refine sm_iconst (v := 0) (q := 32) dX11_see_31 rfl (by decide) ?_
        refine sm_pick [0, 1, 2, 3] rfl ?_
        exact w_X11_see_32 hl N R _ _ _ _ _ _ _ h
      · refine sm_icmp_gt (tgt := 31) (q := 17) dX11_see_14 (by decide) rfl (fun ht => absurd ht hb6) (fun _ => ?_)
        refine sm_iload_n (q := 18) dX11_see_17 rfl rfl 3 rfl ?_
        rcases sm_if_e h with ⟨hb7, h⟩ | ⟨hb7, h⟩
        · refine sm_if_lt (tgt := 31) (q := 21) dX11_see_18 (by decide) rfl (fun _ => ?_) (fun hn => absurd hb7 hn)
          refine sm_iconst (v := 0) (q := 32) dX11_see_31 rfl (by decide) ?_
          refine sm_pick [0, 1, 2, 3] rfl ?_
          exact w_X11_see_32 hl N R _ _ _ _ _ _ _ h
        · refine sm_if_lt (tgt := 31) (q := 21) dX11_see_18 (by decide) rfl (fun ht => absurd ht hb7) (fun _ => ?_)
          refine sm_iload_n (q := 22) dX11_see_21 rfl rfl 3 rfl ?_
          refine sm_bipush (v := 8) (q := 24) dX11_see_22 rfl (by decide) ?_
          rcases sm_if_e h with ⟨hb8, h⟩ | ⟨hb8, h⟩
          · refine sm_icmp_gt (tgt := 31) (q := 27) dX11_see_24 (by decide) rfl (fun _ => ?_) (fun hn => absurd hb8 hn)
            refine sm_iconst (v := 0) (q := 32) dX11_see_31 rfl (by decide) ?_
            refine sm_pick [0, 1, 2, 3] rfl ?_
            exact w_X11_see_32 hl N R _ _ _ _ _ _ _ h
          · refine sm_icmp_gt (tgt := 31) (q := 27) dX11_see_24 (by decide) rfl (fun ht => absurd ht hb8) (fun _ => ?_)
            refine sm_iconst (v := 1) (q := 28) dX11_see_27 rfl (by decide) ?_
            refine sm_goto (q := 32) dX11_see_28 (by decide) ?_
            refine sm_pick [0, 1, 2, 3] rfl ?_
            exact w_X11_see_32 hl N R _ _ _ _ _ _ _ h
  · obtain rfl := Option.some.inj h
    exact sm_callVX (E := E9) (As := [.inl a1]) (S := []) (ex_X11_needPupil hl hc_p2) mv_X11_193 hc1 rfl (by decide) (Nat.le_of_ble_eq_true rfl) dX11_see_2
theorem e_X11_see {l : Launch} (hl : l.stackTraces = false) {N : Nat} {R : Nat → Nat → Nat} {a0 : Nat} {a1 : Int32} {a2 : Int32} {a3 : Int32} {I : (Nat → Nat → Int32)} {y : ((Int32 ⊕ String) × (Nat → Nat → Int32))} (h : f_X11_see N R a0 a1 a2 a3 I = some y) : sm_E l 1 mX11_see [.inr (.inl a0), .inl a1, .inl a2, .inl a3] (I, R) (sm_oI y.1) (y.2, R) :=
  sm_meth (by decide) (Nat.le_of_ble_eq_true rfl) (w_X11_see hl N R a0 a1 a2 a3 I y h)
theorem ek_X11_see {l : Launch} (hl : l.stackTraces = false) {N : Nat} {R : Nat → Nat → Nat} {a0 : Nat} {a1 : Int32} {a2 : Int32} {a3 : Int32} {I : (Nat → Nat → Int32)} {r : Int32} {J : (Nat → Nat → Int32)} (h : f_X11_see N R a0 a1 a2 a3 I = some (.inl r, J)) : sm_E l 1 mX11_see [.inr (.inl a0), .inl a1, .inl a2, .inl a3] (I, R) (.inl (some (.inl r))) (J, R) := by
  have h1 := e_X11_see (l := l) hl h
  exact h1
theorem ex_X11_see {l : Launch} (hl : l.stackTraces = false) {N : Nat} {R : Nat → Nat → Nat} {a0 : Nat} {a1 : Int32} {a2 : Int32} {a3 : Int32} {I : (Nat → Nat → Int32)} {E : String} {J : (Nat → Nat → Int32)} (h : f_X11_see N R a0 a1 a2 a3 I = some (.inr E, J)) : sm_E l 1 mX11_see [.inr (.inl a0), .inl a1, .inl a2, .inl a3] (I, R) (.inr E) (J, R) := by
  have h1 := e_X11_see (l := l) hl h
  exact h1
def f_X11_been (N : Nat) (R : Nat → Nat → Nat) : Nat → Int32 → (Nat → Nat → Int32) → Option ((Int32 ⊕ String) × (Nat → Nat → Int32)) := fun a0 a1 I =>
  sm_tb (f_X11_needWhat N R a1 (2 : Int32) I) fun r2 J3 =>
  sm_gd (sm_kd a0 = (11, 16)) <|
  sm_gd (sm_kd (R a0 12) = (8, 5)) <|
  (f_X8_look N R (R a0 12) (R a0 3) (R a0 5) J3).bind fun p6 =>
  if a1 = 0 then (
    (f_X8_howMany N R (R a0 12) p6.2).bind fun p8 =>
    some (.inl p8.1, p8.2))
  else (
    if a1 = (1 : Int32) then (
      (f_X8_first N R (R a0 12) p6.2).bind fun p10 =>
      some (.inl p10.1, p10.2))
    else (
      if (p6.2 (R a0 12) 2) = 0 then (
        some (.inl (1 : Int32), p6.2))
      else (
        some (.inl (0 : Int32), p6.2))))
set_option maxHeartbeats 4000000 in
set_option maxRecDepth 100000 in
theorem w_X11_been {l : Launch} (hl : l.stackTraces = false) (N : Nat) (R : Nat → Nat → Nat) : ∀ (a0 : Nat) (a1 : Int32) (I : (Nat → Nat → Int32)) (y : ((Int32 ⊕ String) × (Nat → Nat → Int32))), f_X11_been N R a0 a1 I = some y → sm_W l 7 mX11_been 0 [(0, .inr (.inl a0)), (1, .inl a1)] [] (I, R) (sm_oI y.1) (y.2, R) := by
  intro a0 a1 I y h
  unfold f_X11_been at h
  refine sm_iload_n (q := 1) dX11_been_0 rfl rfl 1 rfl ?_
  refine sm_iconst (v := 2) (q := 2) dX11_been_1 rfl (by decide) ?_
  rcases sm_tb_e h with ⟨r2, J3, hc_p1, h⟩ | ⟨E9, J9, hc_p1, h⟩
  · refine sm_callSv (q := 5) (As := [.inl a1, .inl (2 : Int32)]) (S := []) (ek_X11_needWhat hl hc_p1) ms_X11_251 rfl (by decide) (Nat.le_of_ble_eq_true rfl) dX11_been_2 rfl ?_
    refine sm_aload_n (q := 6) dX11_been_5 rfl rfl 0 rfl ?_
    obtain ⟨hc4, h⟩ := sm_gd_e h
    refine sm_getR (r := R a0 12) (q := 9) dX11_been_6 rfl fk_X11_75 hc4 (by decide) (by decide) rfl ?_
    refine sm_aload_n (q := 10) dX11_been_9 rfl rfl 0 rfl ?_
    refine sm_getR (r := R a0 3) (q := 13) dX11_been_10 rfl fk_X11_23 hc4 (by decide) (by decide) rfl ?_
    refine sm_aload_n (q := 14) dX11_been_13 rfl rfl 0 rfl ?_
    refine sm_getR (r := R a0 5) (q := 17) dX11_been_14 rfl fk_X11_37 hc4 (by decide) (by decide) rfl ?_
    obtain ⟨hc5, h⟩ := sm_gd_e h
    obtain ⟨p6, hc_p6, h⟩ := sm_bd_e h
    refine sm_callVv (q := 20) (As := [.inr (.inl (R a0 3)), .inr (.inl (R a0 5))]) (S := []) (e_X8_look hc_p6) mv_X11_319 hc5 rfl (by decide) (Nat.le_of_ble_eq_true rfl) dX11_been_17 rfl ?_
    refine sm_iload_n (q := 21) dX11_been_20 rfl rfl 1 rfl ?_
    rcases sm_if_e h with ⟨hb7, h⟩ | ⟨hb7, h⟩
    · refine sm_if_ne (tgt := 32) (q := 24) dX11_been_21 (by decide) rfl (fun hn => absurd hb7 hn) (fun _ => ?_)
      refine sm_aload_n (q := 25) dX11_been_24 rfl rfl 0 rfl ?_
      refine sm_getR (r := R a0 12) (q := 28) dX11_been_25 rfl fk_X11_75 hc4 (by decide) (by decide) rfl ?_
      obtain ⟨p8, hc_p8, h⟩ := sm_bd_e h
      refine sm_callVi (q := 31) (As := []) (S := []) (e_X8_howMany hc_p8) mv_X11_323 hc5 rfl (by decide) (Nat.le_of_ble_eq_true rfl) dX11_been_28 rfl ?_
      obtain rfl := Option.some.inj h
      exact sm_iret dX11_been_31 rfl
    · refine sm_if_ne (tgt := 32) (q := 24) dX11_been_21 (by decide) rfl (fun _ => ?_) (fun he => absurd he hb7)
      refine sm_iload_n (q := 33) dX11_been_32 rfl rfl 1 rfl ?_
      refine sm_iconst (v := 1) (q := 34) dX11_been_33 rfl (by decide) ?_
      rcases sm_if_e h with ⟨hb9, h⟩ | ⟨hb9, h⟩
      · refine sm_icmp_ne (tgt := 45) (q := 37) dX11_been_34 (by decide) rfl (fun hn => absurd hb9 hn) (fun _ => ?_)
        refine sm_aload_n (q := 38) dX11_been_37 rfl rfl 0 rfl ?_
        refine sm_getR (r := R a0 12) (q := 41) dX11_been_38 rfl fk_X11_75 hc4 (by decide) (by decide) rfl ?_
        obtain ⟨p10, hc_p10, h⟩ := sm_bd_e h
        refine sm_callVi (q := 44) (As := []) (S := []) (e_X8_first hc_p10) mv_X11_326 hc5 rfl (by decide) (Nat.le_of_ble_eq_true rfl) dX11_been_41 rfl ?_
        obtain rfl := Option.some.inj h
        exact sm_iret dX11_been_44 rfl
      · refine sm_icmp_ne (tgt := 45) (q := 37) dX11_been_34 (by decide) rfl (fun _ => ?_) (fun he => absurd he hb9)
        refine sm_aload_n (q := 46) dX11_been_45 rfl rfl 0 rfl ?_
        refine sm_getR (r := R a0 12) (q := 49) dX11_been_46 rfl fk_X11_75 hc4 (by decide) (by decide) rfl ?_
        refine sm_getI (q := 52) dX11_been_49 rfl fk_X11_329 hc5 (by decide) (by decide) ?_
        rcases sm_if_e h with ⟨hb11, h⟩ | ⟨hb11, h⟩
        · refine sm_if_ne (tgt := 59) (q := 55) dX11_been_52 (by decide) rfl (fun hn => absurd hb11 hn) (fun _ => ?_)
          refine sm_iconst (v := 1) (q := 56) dX11_been_55 rfl (by decide) ?_
          refine sm_goto (q := 60) dX11_been_56 (by decide) ?_
          obtain rfl := Option.some.inj h
          exact sm_iret dX11_been_60 rfl
        · refine sm_if_ne (tgt := 59) (q := 55) dX11_been_52 (by decide) rfl (fun _ => ?_) (fun he => absurd he hb11)
          refine sm_iconst (v := 0) (q := 60) dX11_been_59 rfl (by decide) ?_
          obtain rfl := Option.some.inj h
          exact sm_iret dX11_been_60 rfl
  · obtain rfl := Option.some.inj h
    exact sm_callSX (E := E9) (As := [.inl a1, .inl (2 : Int32)]) (S := []) (ex_X11_needWhat hl hc_p1) ms_X11_251 rfl (by decide) (Nat.le_of_ble_eq_true rfl) dX11_been_2
theorem e_X11_been {l : Launch} (hl : l.stackTraces = false) {N : Nat} {R : Nat → Nat → Nat} {a0 : Nat} {a1 : Int32} {I : (Nat → Nat → Int32)} {y : ((Int32 ⊕ String) × (Nat → Nat → Int32))} (h : f_X11_been N R a0 a1 I = some y) : sm_E l 7 mX11_been [.inr (.inl a0), .inl a1] (I, R) (sm_oI y.1) (y.2, R) :=
  sm_meth (by decide) (Nat.le_of_ble_eq_true rfl) (w_X11_been hl N R a0 a1 I y h)
theorem ek_X11_been {l : Launch} (hl : l.stackTraces = false) {N : Nat} {R : Nat → Nat → Nat} {a0 : Nat} {a1 : Int32} {I : (Nat → Nat → Int32)} {r : Int32} {J : (Nat → Nat → Int32)} (h : f_X11_been N R a0 a1 I = some (.inl r, J)) : sm_E l 7 mX11_been [.inr (.inl a0), .inl a1] (I, R) (.inl (some (.inl r))) (J, R) := by
  have h1 := e_X11_been (l := l) hl h
  exact h1
theorem ex_X11_been {l : Launch} (hl : l.stackTraces = false) {N : Nat} {R : Nat → Nat → Nat} {a0 : Nat} {a1 : Int32} {I : (Nat → Nat → Int32)} {E : String} {J : (Nat → Nat → Int32)} (h : f_X11_been N R a0 a1 I = some (.inr E, J)) : sm_E l 7 mX11_been [.inr (.inl a0), .inl a1] (I, R) (.inr E) (J, R) := by
  have h1 := e_X11_been (l := l) hl h
  exact h1
def f_X11_listen_27 (N : Nat) (R : Nat → Nat → Nat) : Nat → Nat → Int32 → Int32 → Int32 → Int32 → (Nat → Nat → Int32) → Option ((Int32 ⊕ String) × (Nat → Nat → Int32))
  | 0, _, _, _, _, _, _ => none
  | n + 1, a0, a1, a2, a3, a4, I =>
    sm_gd (sm_kd a0 = (11, 16)) <|
    sm_gd (sm_kd (R a0 3) = (7, 9)) <|
    sm_gd (sm_kd (R (R a0 3) 5) = (10, 4)) <|
    if (I (R (R a0 3) 5) 1) ≤ a4 then (
      if a1 = 0 then (
        some (.inl a2, I))
      else (
        some (.inl a3, I)))
    else (
      sm_gd (sm_kd (R a0 12) = (8, 5)) <|
      (f_X8_unlikeSkills N R (R a0 12) (R a0 3) a4 I).bind fun p7 =>
      if p7.1 ≤ a3 then (
        f_X11_listen_27 N R n a0 a1 a2 a3 (a4 + 1) p7.2)
      else (
        f_X11_listen_27 N R n a0 a1 a4 p7.1 (a4 + 1) p7.2))
def f_X11_listen (N : Nat) (R : Nat → Nat → Nat) : Nat → Int32 → (Nat → Nat → Int32) → Option ((Int32 ⊕ String) × (Nat → Nat → Int32)) := fun a0 a1 I =>
  sm_tb (f_X11_needWhat N R a1 (1 : Int32) I) fun r2 J3 =>
  sm_gd (sm_kd a0 = (11, 16)) <|
  sm_gd (sm_kd (R a0 12) = (8, 5)) <|
  (f_X8_look N R (R a0 12) (R a0 3) (R a0 5) J3).bind fun p6 =>
  f_X11_listen_27 N R N a0 a1 (-1 : Int32) (0 : Int32) (0 : Int32) p6.2
set_option maxHeartbeats 4000000 in
set_option maxRecDepth 100000 in
theorem w_X11_listen_27 {l : Launch} (hl : l.stackTraces = false) (N : Nat) (R : Nat → Nat → Nat) : ∀ (n : Nat) (a0 : Nat) (a1 : Int32) (a2 : Int32) (a3 : Int32) (a4 : Int32) (I : (Nat → Nat → Int32)) (y : ((Int32 ⊕ String) × (Nat → Nat → Int32))), f_X11_listen_27 N R n a0 a1 a2 a3 a4 I = some y → sm_W l 7 mX11_listen 27 [(0, .inr (.inl a0)), (1, .inl a1), (2, .inl a2), (3, .inl a3), (4, .inl a4)] [] (I, R) (sm_oI y.1) (y.2, R) := by
  intro n
  induction n with
  | zero => intro a0 a1 a2 a3 a4 I y h; cases h
  | succ n ih =>
    intro a0 a1 a2 a3 a4 I y h
    rw [f_X11_listen_27] at h
    refine sm_iload (q := 29) dX11_listen_27 rfl 4 rfl ?_
    refine sm_aload_n (q := 30) dX11_listen_29 rfl rfl 0 rfl ?_
    obtain ⟨hc1, h⟩ := sm_gd_e h
    refine sm_getR (r := R a0 3) (q := 33) dX11_listen_30 rfl fk_X11_23 hc1 (by decide) (by decide) rfl ?_
    obtain ⟨hc2, h⟩ := sm_gd_e h
    refine sm_getR (r := R (R a0 3) 5) (q := 36) dX11_listen_33 rfl fk_X11_132 hc2 (by decide) (by decide) rfl ?_
    obtain ⟨hc3, h⟩ := sm_gd_e h
    refine sm_getI (q := 39) dX11_listen_36 rfl fk_X11_135 hc3 (by decide) (by decide) ?_
    rcases sm_if_e h with ⟨hb4, h⟩ | ⟨hb4, h⟩
    · refine sm_icmp_ge (tgt := 75) (q := 42) dX11_listen_39 (by decide) rfl (fun _ => ?_) (fun hn => absurd hb4 hn)
      refine sm_iload_n (q := 76) dX11_listen_75 rfl rfl 1 rfl ?_
      rcases sm_if_e h with ⟨hb5, h⟩ | ⟨hb5, h⟩
      · refine sm_if_ne (tgt := 83) (q := 79) dX11_listen_76 (by decide) rfl (fun hn => absurd hb5 hn) (fun _ => ?_)
        refine sm_iload_n (q := 80) dX11_listen_79 rfl rfl 2 rfl ?_
        refine sm_goto (q := 84) dX11_listen_80 (by decide) ?_
        obtain rfl := Option.some.inj h
        exact sm_iret dX11_listen_84 rfl
      · refine sm_if_ne (tgt := 83) (q := 79) dX11_listen_76 (by decide) rfl (fun _ => ?_) (fun he => absurd he hb5)
        refine sm_iload_n (q := 84) dX11_listen_83 rfl rfl 3 rfl ?_
        obtain rfl := Option.some.inj h
        exact sm_iret dX11_listen_84 rfl
    · refine sm_icmp_ge (tgt := 75) (q := 42) dX11_listen_39 (by decide) rfl (fun ht => absurd ht hb4) (fun _ => ?_)
      refine sm_aload_n (q := 43) dX11_listen_42 rfl rfl 0 rfl ?_
      refine sm_getR (r := R a0 12) (q := 46) dX11_listen_43 rfl fk_X11_75 hc1 (by decide) (by decide) rfl ?_
      refine sm_aload_n (q := 47) dX11_listen_46 rfl rfl 0 rfl ?_
      refine sm_getR (r := R a0 3) (q := 50) dX11_listen_47 rfl fk_X11_23 hc1 (by decide) (by decide) rfl ?_
      refine sm_iload (q := 52) dX11_listen_50 rfl 4 rfl ?_
      obtain ⟨hc6, h⟩ := sm_gd_e h
      obtain ⟨p7, hc_p7, h⟩ := sm_bd_e h
      refine sm_callVi (q := 55) (As := [.inr (.inl (R a0 3)), .inl a4]) (S := []) (e_X8_unlikeSkills hc_p7) mv_X11_332 hc6 rfl (by decide) (Nat.le_of_ble_eq_true rfl) dX11_listen_52 rfl ?_
      refine sm_istore (L' := [(5, .inl p7.1), (0, .inr (.inl a0)), (1, .inl a1), (2, .inl a2), (3, .inl a3), (4, .inl a4)]) (q := 57) dX11_listen_55 rfl (by decide) rfl ?_
      refine sm_iload (q := 59) dX11_listen_57 rfl 0 rfl ?_
      refine sm_iload_n (q := 60) dX11_listen_59 rfl rfl 4 rfl ?_
      rcases sm_if_e h with ⟨hb8, h⟩ | ⟨hb8, h⟩
      · refine sm_icmp_le (tgt := 69) (q := 63) dX11_listen_60 (by decide) rfl (fun _ => ?_) (fun hn => absurd hb8 hn)
        refine sm_iinc (v := (a4 + 1)) (L' := [(4, .inl (a4 + 1)), (5, .inl p7.1), (0, .inr (.inl a0)), (1, .inl a1), (2, .inl a2), (3, .inl a3)]) (q := 72) dX11_listen_69 rfl 5 rfl rfl (by decide) rfl ?_
        refine sm_goto (q := 27) dX11_listen_72 (by decide) ?_
        refine sm_pick [2, 3, 4, 5, 0] rfl ?_
        exact ih _ _ _ _ _ _ _ h
      · refine sm_icmp_le (tgt := 69) (q := 63) dX11_listen_60 (by decide) rfl (fun ht => absurd ht hb8) (fun _ => ?_)
        refine sm_iload (q := 65) dX11_listen_63 rfl 0 rfl ?_
        refine sm_istore_n (L' := [(3, .inl p7.1), (5, .inl p7.1), (0, .inr (.inl a0)), (1, .inl a1), (2, .inl a2), (4, .inl a4)]) (q := 66) dX11_listen_65 rfl rfl (by decide) rfl ?_
        refine sm_iload (q := 68) dX11_listen_66 rfl 5 rfl ?_
        refine sm_istore_n (L' := [(2, .inl a4), (3, .inl p7.1), (5, .inl p7.1), (0, .inr (.inl a0)), (1, .inl a1), (4, .inl a4)]) (q := 69) dX11_listen_68 rfl rfl (by decide) rfl ?_
        refine sm_iinc (v := (a4 + 1)) (L' := [(4, .inl (a4 + 1)), (2, .inl a4), (3, .inl p7.1), (5, .inl p7.1), (0, .inr (.inl a0)), (1, .inl a1)]) (q := 72) dX11_listen_69 rfl 5 rfl rfl (by decide) rfl ?_
        refine sm_goto (q := 27) dX11_listen_72 (by decide) ?_
        refine sm_pick [4, 5, 1, 2, 0] rfl ?_
        exact ih _ _ _ _ _ _ _ h
set_option maxHeartbeats 4000000 in
set_option maxRecDepth 100000 in
theorem w_X11_listen {l : Launch} (hl : l.stackTraces = false) (N : Nat) (R : Nat → Nat → Nat) : ∀ (a0 : Nat) (a1 : Int32) (I : (Nat → Nat → Int32)) (y : ((Int32 ⊕ String) × (Nat → Nat → Int32))), f_X11_listen N R a0 a1 I = some y → sm_W l 7 mX11_listen 0 [(0, .inr (.inl a0)), (1, .inl a1)] [] (I, R) (sm_oI y.1) (y.2, R) := by
  intro a0 a1 I y h
  unfold f_X11_listen at h
  refine sm_iload_n (q := 1) dX11_listen_0 rfl rfl 1 rfl ?_
  refine sm_iconst (v := 1) (q := 2) dX11_listen_1 rfl (by decide) ?_
  rcases sm_tb_e h with ⟨r2, J3, hc_p1, h⟩ | ⟨E9, J9, hc_p1, h⟩
  · refine sm_callSv (q := 5) (As := [.inl a1, .inl (1 : Int32)]) (S := []) (ek_X11_needWhat hl hc_p1) ms_X11_251 rfl (by decide) (Nat.le_of_ble_eq_true rfl) dX11_listen_2 rfl ?_
    refine sm_aload_n (q := 6) dX11_listen_5 rfl rfl 0 rfl ?_
    obtain ⟨hc4, h⟩ := sm_gd_e h
    refine sm_getR (r := R a0 12) (q := 9) dX11_listen_6 rfl fk_X11_75 hc4 (by decide) (by decide) rfl ?_
    refine sm_aload_n (q := 10) dX11_listen_9 rfl rfl 0 rfl ?_
    refine sm_getR (r := R a0 3) (q := 13) dX11_listen_10 rfl fk_X11_23 hc4 (by decide) (by decide) rfl ?_
    refine sm_aload_n (q := 14) dX11_listen_13 rfl rfl 0 rfl ?_
    refine sm_getR (r := R a0 5) (q := 17) dX11_listen_14 rfl fk_X11_37 hc4 (by decide) (by decide) rfl ?_
    obtain ⟨hc5, h⟩ := sm_gd_e h
    obtain ⟨p6, hc_p6, h⟩ := sm_bd_e h
    refine sm_callVv (q := 20) (As := [.inr (.inl (R a0 3)), .inr (.inl (R a0 5))]) (S := []) (e_X8_look hc_p6) mv_X11_319 hc5 rfl (by decide) (Nat.le_of_ble_eq_true rfl) dX11_listen_17 rfl ?_
    refine sm_iconst (v := -1) (q := 21) dX11_listen_20 rfl (by decide) ?_
    refine sm_istore_n (L' := [(2, .inl (-1 : Int32)), (0, .inr (.inl a0)), (1, .inl a1)]) (q := 22) dX11_listen_21 rfl rfl (by decide) rfl ?_
    refine sm_iconst (v := 0) (q := 23) dX11_listen_22 rfl (by decide) ?_
    refine sm_istore_n (L' := [(3, .inl (0 : Int32)), (2, .inl (-1 : Int32)), (0, .inr (.inl a0)), (1, .inl a1)]) (q := 24) dX11_listen_23 rfl rfl (by decide) rfl ?_
    refine sm_iconst (v := 0) (q := 25) dX11_listen_24 rfl (by decide) ?_
    refine sm_istore (L' := [(4, .inl (0 : Int32)), (3, .inl (0 : Int32)), (2, .inl (-1 : Int32)), (0, .inr (.inl a0)), (1, .inl a1)]) (q := 27) dX11_listen_25 rfl (by decide) rfl ?_
    refine sm_pick [3, 4, 2, 1, 0] rfl ?_
    exact w_X11_listen_27 hl N R N _ _ _ _ _ _ _ h
  · obtain rfl := Option.some.inj h
    exact sm_callSX (E := E9) (As := [.inl a1, .inl (1 : Int32)]) (S := []) (ex_X11_needWhat hl hc_p1) ms_X11_251 rfl (by decide) (Nat.le_of_ble_eq_true rfl) dX11_listen_2
theorem e_X11_listen {l : Launch} (hl : l.stackTraces = false) {N : Nat} {R : Nat → Nat → Nat} {a0 : Nat} {a1 : Int32} {I : (Nat → Nat → Int32)} {y : ((Int32 ⊕ String) × (Nat → Nat → Int32))} (h : f_X11_listen N R a0 a1 I = some y) : sm_E l 7 mX11_listen [.inr (.inl a0), .inl a1] (I, R) (sm_oI y.1) (y.2, R) :=
  sm_meth (by decide) (Nat.le_of_ble_eq_true rfl) (w_X11_listen hl N R a0 a1 I y h)
theorem ek_X11_listen {l : Launch} (hl : l.stackTraces = false) {N : Nat} {R : Nat → Nat → Nat} {a0 : Nat} {a1 : Int32} {I : (Nat → Nat → Int32)} {r : Int32} {J : (Nat → Nat → Int32)} (h : f_X11_listen N R a0 a1 I = some (.inl r, J)) : sm_E l 7 mX11_listen [.inr (.inl a0), .inl a1] (I, R) (.inl (some (.inl r))) (J, R) := by
  have h1 := e_X11_listen (l := l) hl h
  exact h1
theorem ex_X11_listen {l : Launch} (hl : l.stackTraces = false) {N : Nat} {R : Nat → Nat → Nat} {a0 : Nat} {a1 : Int32} {I : (Nat → Nat → Int32)} {E : String} {J : (Nat → Nat → Int32)} (h : f_X11_listen N R a0 a1 I = some (.inr E, J)) : sm_E l 7 mX11_listen [.inr (.inl a0), .inl a1] (I, R) (.inr E) (J, R) := by
  have h1 := e_X11_listen (l := l) hl h
  exact h1
def f_X11_forget (N : Nat) (R : Nat → Nat → Nat) : Nat → (Nat → Nat → Int32) → Option (Unit × (Nat → Nat → Int32)) := fun a0 I =>
  sm_gd (sm_kd a0 = (11, 16)) <|
  sm_gd (sm_kd (R a0 5) = (9, 4)) <|
  (f_X9_clear N R (R a0 5) I).bind fun p3 =>
  some ((), p3.2)
set_option maxHeartbeats 4000000 in
set_option maxRecDepth 100000 in
theorem w_X11_forget {l : Launch} (N : Nat) (R : Nat → Nat → Nat) : ∀ (a0 : Nat) (I : (Nat → Nat → Int32)) (y : (Unit × (Nat → Nat → Int32))), f_X11_forget N R a0 I = some y → sm_W l 1 mX11_forget 0 [(0, .inr (.inl a0))] [] (I, R) (.inl none) (y.2, R) := by
  intro a0 I y h
  unfold f_X11_forget at h
  refine sm_aload_n (q := 1) dX11_forget_0 rfl rfl 0 rfl ?_
  obtain ⟨hc1, h⟩ := sm_gd_e h
  refine sm_getR (r := R a0 5) (q := 4) dX11_forget_1 rfl fk_X11_37 hc1 (by decide) (by decide) rfl ?_
  obtain ⟨hc2, h⟩ := sm_gd_e h
  obtain ⟨p3, hc_p3, h⟩ := sm_bd_e h
  refine sm_callVv (q := 7) (As := []) (S := []) (e_X9_clear hc_p3) mv_X11_124 hc2 rfl (by decide) (Nat.le_of_ble_eq_true rfl) dX11_forget_4 rfl ?_
  obtain rfl := Option.some.inj h
  exact sm_vret dX11_forget_7 rfl
theorem e_X11_forget {l : Launch} {N : Nat} {R : Nat → Nat → Nat} {a0 : Nat} {I : (Nat → Nat → Int32)} {y : (Unit × (Nat → Nat → Int32))} (h : f_X11_forget N R a0 I = some y) : sm_E l 1 mX11_forget [.inr (.inl a0)] (I, R) (.inl none) (y.2, R) :=
  sm_meth (by decide) (Nat.le_of_ble_eq_true rfl) (w_X11_forget N R a0 I y h)
def f_X11_game_55 (N : Nat) (R : Nat → Nat → Nat) : Nat → Nat → Int32 → Int32 → Int32 → Int32 → (Nat → Nat → Int32) → Option ((Int32 ⊕ String) × (Nat → Nat → Int32))
  | 0, _, _, _, _, _, _ => none
  | n + 1, a0, a3, a4, a5, a6, I =>
    if (4 : Int32) ≤ a6 then (
      if a3 = 0 then (
        some (.inl a4, I))
      else (
        some (.inl a5, I)))
    else (
      sm_gd (sm_kd a0 = (11, 16)) <|
      sm_gd (sm_kd (R a0 14) = (2, 3)) <|
      (f_X2_isAtRest N R (R a0 14) (a6 >>> ((1 : Int32) &&& 31)) (a6 &&& (1 : Int32)) I).bind fun p5 =>
      if p5.1 = 0 then (
        f_X11_game_55 N R n a0 a3 a4 a5 (a6 + 1) p5.2)
      else (
        if a4 = 0 then (
          f_X11_game_55 N R n a0 a3 (a4 + 1) (((10 : Int32) * (a6 >>> ((1 : Int32) &&& 31))) + (a6 &&& (1 : Int32))) (a6 + 1) p5.2)
        else (
          f_X11_game_55 N R n a0 a3 (a4 + 1) a5 (a6 + 1) p5.2)))
def f_X11_game (N : Nat) (R : Nat → Nat → Nat) : Nat → Int32 → Int32 → Int32 → (Nat → Nat → Int32) → Option ((Int32 ⊕ String) × (Nat → Nat → Int32)) := fun a0 a1 a2 a3 I =>
  sm_gd (sm_kd a0 = (11, 16)) <|
  sm_tb (f_X11_needPupil N R a0 a1 I) fun r3 J4 =>
  sm_tb (f_X11_needPupil N R a0 a2 J4) fun r6 J7 =>
  sm_tb (f_X11_needWhat N R a3 (1 : Int32) J7) fun r9 J10 =>
  if a1 = a2 then (
    some (.inr "java/lang/IllegalArgumentException", J10))
  else (
    sm_gd (sm_kd (R a0 14) = (2, 3)) <|
    (f_X2_weigh N R (R a0 14) (R a0 3) a1 a2 J10).bind fun p13 =>
    f_X11_game_55 N R N a0 a3 (0 : Int32) (-1 : Int32) (0 : Int32) p13.2)
set_option maxHeartbeats 4000000 in
set_option maxRecDepth 100000 in
theorem w_X11_game_55 {l : Launch} (hl : l.stackTraces = false) (N : Nat) (R : Nat → Nat → Nat) : ∀ (n : Nat) (a0 : Nat) (a3 : Int32) (a4 : Int32) (a5 : Int32) (a6 : Int32) (I : (Nat → Nat → Int32)) (y : ((Int32 ⊕ String) × (Nat → Nat → Int32))), f_X11_game_55 N R n a0 a3 a4 a5 a6 I = some y → sm_W l 7 mX11_game 55 [(0, .inr (.inl a0)), (3, .inl a3), (4, .inl a4), (5, .inl a5), (6, .inl a6)] [] (I, R) (sm_oI y.1) (y.2, R) := by
  intro n
  induction n with
  | zero => intro a0 a3 a4 a5 a6 I y h; cases h
  | succ n ih =>
    intro a0 a3 a4 a5 a6 I y h
    rw [f_X11_game_55] at h
    refine sm_iload (q := 57) dX11_game_55 rfl 4 rfl ?_
    refine sm_iconst (v := 4) (q := 58) dX11_game_57 rfl (by decide) ?_
    rcases sm_if_e h with ⟨hb1, h⟩ | ⟨hb1, h⟩
    · refine sm_icmp_ge (tgt := 116) (q := 61) dX11_game_58 (by decide) rfl (fun _ => ?_) (fun hn => absurd hb1 hn)
      refine sm_iload_n (q := 117) dX11_game_116 rfl rfl 1 rfl ?_
      rcases sm_if_e h with ⟨hb2, h⟩ | ⟨hb2, h⟩
      · refine sm_if_ne (tgt := 125) (q := 120) dX11_game_117 (by decide) rfl (fun hn => absurd hb2 hn) (fun _ => ?_)
        refine sm_iload (q := 122) dX11_game_120 rfl 2 rfl ?_
        refine sm_goto (q := 127) dX11_game_122 (by decide) ?_
        obtain rfl := Option.some.inj h
        exact sm_iret dX11_game_127 rfl
      · refine sm_if_ne (tgt := 125) (q := 120) dX11_game_117 (by decide) rfl (fun _ => ?_) (fun he => absurd he hb2)
        refine sm_iload (q := 127) dX11_game_125 rfl 3 rfl ?_
        obtain rfl := Option.some.inj h
        exact sm_iret dX11_game_127 rfl
    · refine sm_icmp_ge (tgt := 116) (q := 61) dX11_game_58 (by decide) rfl (fun ht => absurd ht hb1) (fun _ => ?_)
      refine sm_iload (q := 63) dX11_game_61 rfl 4 rfl ?_
      refine sm_iconst (v := 1) (q := 64) dX11_game_63 rfl (by decide) ?_
      refine sm_ishr (q := 65) dX11_game_64 rfl ?_
      refine sm_istore (L' := [(7, .inl (a6 >>> ((1 : Int32) &&& 31))), (0, .inr (.inl a0)), (3, .inl a3), (4, .inl a4), (5, .inl a5), (6, .inl a6)]) (q := 67) dX11_game_65 rfl (by decide) rfl ?_
      refine sm_iload (q := 69) dX11_game_67 rfl 5 rfl ?_
      refine sm_iconst (v := 1) (q := 70) dX11_game_69 rfl (by decide) ?_
      refine sm_iand (q := 71) dX11_game_70 rfl ?_
      refine sm_istore (L' := [(8, .inl (a6 &&& (1 : Int32))), (7, .inl (a6 >>> ((1 : Int32) &&& 31))), (0, .inr (.inl a0)), (3, .inl a3), (4, .inl a4), (5, .inl a5), (6, .inl a6)]) (q := 73) dX11_game_71 rfl (by decide) rfl ?_
      refine sm_aload_n (q := 74) dX11_game_73 rfl rfl 2 rfl ?_
      obtain ⟨hc3, h⟩ := sm_gd_e h
      refine sm_getR (r := R a0 14) (q := 77) dX11_game_74 rfl fk_X11_89 hc3 (by decide) (by decide) rfl ?_
      refine sm_iload (q := 79) dX11_game_77 rfl 1 rfl ?_
      refine sm_iload (q := 81) dX11_game_79 rfl 0 rfl ?_
      obtain ⟨hc4, h⟩ := sm_gd_e h
      obtain ⟨p5, hc_p5, h⟩ := sm_bd_e h
      refine sm_callVi (q := 84) (As := [.inl (a6 >>> ((1 : Int32) &&& 31)), .inl (a6 &&& (1 : Int32))]) (S := []) (e_X2_isAtRest hc_p5) mv_X11_340 hc4 rfl (by decide) (Nat.le_of_ble_eq_true rfl) dX11_game_81 rfl ?_
      rcases sm_if_e h with ⟨hb6, h⟩ | ⟨hb6, h⟩
      · refine sm_if_eq (tgt := 110) (q := 87) dX11_game_84 (by decide) rfl (fun _ => ?_) (fun hn => absurd hb6 hn)
        refine sm_iinc (v := (a6 + 1)) (L' := [(6, .inl (a6 + 1)), (8, .inl (a6 &&& (1 : Int32))), (7, .inl (a6 >>> ((1 : Int32) &&& 31))), (0, .inr (.inl a0)), (3, .inl a3), (4, .inl a4), (5, .inl a5)]) (q := 113) dX11_game_110 rfl 6 rfl rfl (by decide) rfl ?_
        refine sm_goto (q := 55) dX11_game_113 (by decide) ?_
        refine sm_pick [3, 4, 5, 6, 0] rfl ?_
        exact ih _ _ _ _ _ _ _ h
      · refine sm_if_eq (tgt := 110) (q := 87) dX11_game_84 (by decide) rfl (fun ht => absurd ht hb6) (fun _ => ?_)
        refine sm_iload (q := 89) dX11_game_87 rfl 4 rfl ?_
        rcases sm_if_e h with ⟨hb7, h⟩ | ⟨hb7, h⟩
        · refine sm_if_ne (tgt := 103) (q := 92) dX11_game_89 (by decide) rfl (fun hn => absurd hb7 hn) (fun _ => ?_)
          refine sm_bipush (v := 10) (q := 94) dX11_game_92 rfl (by decide) ?_
          refine sm_iload (q := 96) dX11_game_94 rfl 1 rfl ?_
          refine sm_imul (q := 97) dX11_game_96 rfl ?_
          refine sm_iload (q := 99) dX11_game_97 rfl 0 rfl ?_
          refine sm_iadd (q := 100) dX11_game_99 rfl ?_
          refine sm_goto (q := 105) dX11_game_100 (by decide) ?_
          refine sm_istore (L' := [(5, .inl (((10 : Int32) * (a6 >>> ((1 : Int32) &&& 31))) + (a6 &&& (1 : Int32)))), (8, .inl (a6 &&& (1 : Int32))), (7, .inl (a6 >>> ((1 : Int32) &&& 31))), (0, .inr (.inl a0)), (3, .inl a3), (4, .inl a4), (6, .inl a6)]) (q := 107) dX11_game_105 rfl (by decide) rfl ?_
          refine sm_iinc (v := (a4 + 1)) (L' := [(4, .inl (a4 + 1)), (5, .inl (((10 : Int32) * (a6 >>> ((1 : Int32) &&& 31))) + (a6 &&& (1 : Int32)))), (8, .inl (a6 &&& (1 : Int32))), (7, .inl (a6 >>> ((1 : Int32) &&& 31))), (0, .inr (.inl a0)), (3, .inl a3), (6, .inl a6)]) (q := 110) dX11_game_107 rfl 5 rfl rfl (by decide) rfl ?_
          refine sm_iinc (v := (a6 + 1)) (L' := [(6, .inl (a6 + 1)), (4, .inl (a4 + 1)), (5, .inl (((10 : Int32) * (a6 >>> ((1 : Int32) &&& 31))) + (a6 &&& (1 : Int32)))), (8, .inl (a6 &&& (1 : Int32))), (7, .inl (a6 >>> ((1 : Int32) &&& 31))), (0, .inr (.inl a0)), (3, .inl a3)]) (q := 113) dX11_game_110 rfl 6 rfl rfl (by decide) rfl ?_
          refine sm_goto (q := 55) dX11_game_113 (by decide) ?_
          refine sm_pick [5, 6, 1, 2, 0] rfl ?_
          exact ih _ _ _ _ _ _ _ h
        · refine sm_if_ne (tgt := 103) (q := 92) dX11_game_89 (by decide) rfl (fun _ => ?_) (fun he => absurd he hb7)
          refine sm_iload (q := 105) dX11_game_103 rfl 5 rfl ?_
          refine sm_istore (L' := [(5, .inl a5), (8, .inl (a6 &&& (1 : Int32))), (7, .inl (a6 >>> ((1 : Int32) &&& 31))), (0, .inr (.inl a0)), (3, .inl a3), (4, .inl a4), (6, .inl a6)]) (q := 107) dX11_game_105 rfl (by decide) rfl ?_
          refine sm_iinc (v := (a4 + 1)) (L' := [(4, .inl (a4 + 1)), (5, .inl a5), (8, .inl (a6 &&& (1 : Int32))), (7, .inl (a6 >>> ((1 : Int32) &&& 31))), (0, .inr (.inl a0)), (3, .inl a3), (6, .inl a6)]) (q := 110) dX11_game_107 rfl 5 rfl rfl (by decide) rfl ?_
          refine sm_iinc (v := (a6 + 1)) (L' := [(6, .inl (a6 + 1)), (4, .inl (a4 + 1)), (5, .inl a5), (8, .inl (a6 &&& (1 : Int32))), (7, .inl (a6 >>> ((1 : Int32) &&& 31))), (0, .inr (.inl a0)), (3, .inl a3)]) (q := 113) dX11_game_110 rfl 6 rfl rfl (by decide) rfl ?_
          refine sm_goto (q := 55) dX11_game_113 (by decide) ?_
          refine sm_pick [5, 6, 1, 2, 0] rfl ?_
          exact ih _ _ _ _ _ _ _ h
set_option maxHeartbeats 4000000 in
set_option maxRecDepth 100000 in
theorem w_X11_game {l : Launch} (hl : l.stackTraces = false) (N : Nat) (R : Nat → Nat → Nat) : ∀ (a0 : Nat) (a1 : Int32) (a2 : Int32) (a3 : Int32) (I : (Nat → Nat → Int32)) (y : ((Int32 ⊕ String) × (Nat → Nat → Int32))), f_X11_game N R a0 a1 a2 a3 I = some y → sm_W l 7 mX11_game 0 [(0, .inr (.inl a0)), (1, .inl a1), (2, .inl a2), (3, .inl a3)] [] (I, R) (sm_oI y.1) (y.2, R) := by
  intro a0 a1 a2 a3 I y h
  unfold f_X11_game at h
  refine sm_aload_n (q := 1) dX11_game_0 rfl rfl 0 rfl ?_
  refine sm_iload_n (q := 2) dX11_game_1 rfl rfl 1 rfl ?_
  obtain ⟨hc1, h⟩ := sm_gd_e h
  rcases sm_tb_e h with ⟨r3, J4, hc_p2, h⟩ | ⟨E9, J9, hc_p2, h⟩
  · refine sm_callVr (q := 5) (As := [.inl a1]) (S := []) (ek_X11_needPupil hl hc_p2) mv_X11_193 hc1 rfl (by decide) (Nat.le_of_ble_eq_true rfl) dX11_game_2 rfl ?_
    refine sm_pop (q := 6) dX11_game_5 rfl rfl ?_
    refine sm_aload_n (q := 7) dX11_game_6 rfl rfl 0 rfl ?_
    refine sm_iload_n (q := 8) dX11_game_7 rfl rfl 2 rfl ?_
    rcases sm_tb_e h with ⟨r6, J7, hc_p5, h⟩ | ⟨E9, J9, hc_p5, h⟩
    · refine sm_callVr (q := 11) (As := [.inl a2]) (S := []) (ek_X11_needPupil hl hc_p5) mv_X11_193 hc1 rfl (by decide) (Nat.le_of_ble_eq_true rfl) dX11_game_8 rfl ?_
      refine sm_pop (q := 12) dX11_game_11 rfl rfl ?_
      refine sm_iload_n (q := 13) dX11_game_12 rfl rfl 3 rfl ?_
      refine sm_iconst (v := 1) (q := 14) dX11_game_13 rfl (by decide) ?_
      rcases sm_tb_e h with ⟨r9, J10, hc_p8, h⟩ | ⟨E9, J9, hc_p8, h⟩
      · refine sm_callSv (q := 17) (As := [.inl a3, .inl (1 : Int32)]) (S := []) (ek_X11_needWhat hl hc_p8) ms_X11_251 rfl (by decide) (Nat.le_of_ble_eq_true rfl) dX11_game_14 rfl ?_
        refine sm_iload_n (q := 18) dX11_game_17 rfl rfl 1 rfl ?_
        refine sm_iload_n (q := 19) dX11_game_18 rfl rfl 2 rfl ?_
        rcases sm_if_e h with ⟨hb11, h⟩ | ⟨hb11, h⟩
        · refine sm_icmp_ne (tgt := 33) (q := 22) dX11_game_19 (by decide) rfl (fun hn => absurd hb11 hn) (fun _ => ?_)
          obtain rfl := Option.some.inj h
          exact sm_throwW (tx := "both are one") (j := 25) hl (by decide +kernel) (by decide +kernel) (by decide +kernel) (by decide) bxI_0 bxI_1 bxI_2 bxI_5 cl_X11_104 in_IAE (List.mem_of_getElem? (i := 25) rfl) th_X11_108 tg_X11_104_108 (Nat.le_of_ble_eq_true rfl) dX11_game_22 dX11_game_25 dX11_game_26 dX11_game_29 dX11_game_32
        · refine sm_icmp_ne (tgt := 33) (q := 22) dX11_game_19 (by decide) rfl (fun _ => ?_) (fun he => absurd he hb11)
          refine sm_aload_n (q := 34) dX11_game_33 rfl rfl 0 rfl ?_
          refine sm_getR (r := R a0 14) (q := 37) dX11_game_34 rfl fk_X11_89 hc1 (by decide) (by decide) rfl ?_
          refine sm_aload_n (q := 38) dX11_game_37 rfl rfl 0 rfl ?_
          refine sm_getR (r := R a0 3) (q := 41) dX11_game_38 rfl fk_X11_23 hc1 (by decide) (by decide) rfl ?_
          refine sm_iload_n (q := 42) dX11_game_41 rfl rfl 1 rfl ?_
          refine sm_iload_n (q := 43) dX11_game_42 rfl rfl 2 rfl ?_
          obtain ⟨hc12, h⟩ := sm_gd_e h
          obtain ⟨p13, hc_p13, h⟩ := sm_bd_e h
          refine sm_callVv (q := 46) (As := [.inr (.inl (R a0 3)), .inl a1, .inl a2]) (S := []) (e_X2_weigh hc_p13) mv_X11_337 hc12 rfl (by decide) (Nat.le_of_ble_eq_true rfl) dX11_game_43 rfl ?_
          refine sm_iconst (v := 0) (q := 47) dX11_game_46 rfl (by decide) ?_
          refine sm_istore (L' := [(4, .inl (0 : Int32)), (0, .inr (.inl a0)), (1, .inl a1), (2, .inl a2), (3, .inl a3)]) (q := 49) dX11_game_47 rfl (by decide) rfl ?_
          refine sm_iconst (v := -1) (q := 50) dX11_game_49 rfl (by decide) ?_
          refine sm_istore (L' := [(5, .inl (-1 : Int32)), (4, .inl (0 : Int32)), (0, .inr (.inl a0)), (1, .inl a1), (2, .inl a2), (3, .inl a3)]) (q := 52) dX11_game_50 rfl (by decide) rfl ?_
          refine sm_iconst (v := 0) (q := 53) dX11_game_52 rfl (by decide) ?_
          refine sm_istore (L' := [(6, .inl (0 : Int32)), (5, .inl (-1 : Int32)), (4, .inl (0 : Int32)), (0, .inr (.inl a0)), (1, .inl a1), (2, .inl a2), (3, .inl a3)]) (q := 55) dX11_game_53 rfl (by decide) rfl ?_
          refine sm_pick [3, 6, 2, 1, 0] rfl ?_
          exact w_X11_game_55 hl N R N _ _ _ _ _ _ _ h
      · obtain rfl := Option.some.inj h
        exact sm_callSX (E := E9) (As := [.inl a3, .inl (1 : Int32)]) (S := []) (ex_X11_needWhat hl hc_p8) ms_X11_251 rfl (by decide) (Nat.le_of_ble_eq_true rfl) dX11_game_14
    · obtain rfl := Option.some.inj h
      exact sm_callVX (E := E9) (As := [.inl a2]) (S := []) (ex_X11_needPupil hl hc_p5) mv_X11_193 hc1 rfl (by decide) (Nat.le_of_ble_eq_true rfl) dX11_game_8
  · obtain rfl := Option.some.inj h
    exact sm_callVX (E := E9) (As := [.inl a1]) (S := []) (ex_X11_needPupil hl hc_p2) mv_X11_193 hc1 rfl (by decide) (Nat.le_of_ble_eq_true rfl) dX11_game_2
theorem e_X11_game {l : Launch} (hl : l.stackTraces = false) {N : Nat} {R : Nat → Nat → Nat} {a0 : Nat} {a1 : Int32} {a2 : Int32} {a3 : Int32} {I : (Nat → Nat → Int32)} {y : ((Int32 ⊕ String) × (Nat → Nat → Int32))} (h : f_X11_game N R a0 a1 a2 a3 I = some y) : sm_E l 7 mX11_game [.inr (.inl a0), .inl a1, .inl a2, .inl a3] (I, R) (sm_oI y.1) (y.2, R) :=
  sm_meth (by decide) (Nat.le_of_ble_eq_true rfl) (w_X11_game hl N R a0 a1 a2 a3 I y h)
theorem ek_X11_game {l : Launch} (hl : l.stackTraces = false) {N : Nat} {R : Nat → Nat → Nat} {a0 : Nat} {a1 : Int32} {a2 : Int32} {a3 : Int32} {I : (Nat → Nat → Int32)} {r : Int32} {J : (Nat → Nat → Int32)} (h : f_X11_game N R a0 a1 a2 a3 I = some (.inl r, J)) : sm_E l 7 mX11_game [.inr (.inl a0), .inl a1, .inl a2, .inl a3] (I, R) (.inl (some (.inl r))) (J, R) := by
  have h1 := e_X11_game (l := l) hl h
  exact h1
theorem ex_X11_game {l : Launch} (hl : l.stackTraces = false) {N : Nat} {R : Nat → Nat → Nat} {a0 : Nat} {a1 : Int32} {a2 : Int32} {a3 : Int32} {I : (Nat → Nat → Int32)} {E : String} {J : (Nat → Nat → Int32)} (h : f_X11_game N R a0 a1 a2 a3 I = some (.inr E, J)) : sm_E l 7 mX11_game [.inr (.inl a0), .inl a1, .inl a2, .inl a3] (I, R) (.inr E) (J, R) := by
  have h1 := e_X11_game (l := l) hl h
  exact h1
def f_X11_draw (N : Nat) (R : Nat → Nat → Nat) : Nat → Int32 → (Nat → Nat → Int32) → Option (Int32 × (Nat → Nat → Int32)) := fun a0 a1 I =>
  sm_gd (sm_kd a0 = (11, 16)) <|
  sm_lt (sm_up I a0 (sm_up (I a0) 15 (((I a0 15) * (1103515245 : Int32)) + (12345 : Int32)))) fun I2 =>
  if (1 : Int32) ≤ a1 then (
    sm_gd (¬ a1 = 0) <|
    some ((((sm_us (I2 a0 15) (16 : Int32)) &&& (32767 : Int32)) - ((sm_us (I2 a0 15) (16 : Int32)) &&& (32767 : Int32)) / a1 * a1), I2))
  else (
    some ((0 : Int32), I2))
set_option maxHeartbeats 4000000 in
set_option maxRecDepth 100000 in
theorem w_X11_draw {l : Launch} (N : Nat) (R : Nat → Nat → Nat) : ∀ (a0 : Nat) (a1 : Int32) (I : (Nat → Nat → Int32)) (y : (Int32 × (Nat → Nat → Int32))), f_X11_draw N R a0 a1 I = some y → sm_W l 0 mX11_draw 0 [(0, .inr (.inl a0)), (1, .inl a1)] [] (I, R) (.inl (some (.inl y.1))) (y.2, R) := by
  intro a0 a1 I y h
  unfold f_X11_draw at h
  refine sm_aload_n (q := 1) dX11_draw_0 rfl rfl 0 rfl ?_
  refine sm_aload_n (q := 2) dX11_draw_1 rfl rfl 0 rfl ?_
  obtain ⟨hc1, h⟩ := sm_gd_e h
  refine sm_getI (q := 5) dX11_draw_2 rfl fk_X11_344 hc1 (by decide) (by decide) ?_
  refine sm_ldcw (q := 8) dX11_draw_5 rfl co_X11_361 ?_
  refine sm_imul (q := 9) dX11_draw_8 rfl ?_
  refine sm_sipush (v := 12345) (q := 12) dX11_draw_9 rfl (by decide) ?_
  refine sm_iadd (q := 13) dX11_draw_12 rfl ?_
  obtain ⟨I2, hI2, h⟩ := sm_lt_e h
  refine sm_putI (q := 16) dX11_draw_13 rfl fk_X11_344 hc1 (by decide) (by decide) ?_
  refine sm_memI hI2 ?_
  refine sm_iload_n (q := 17) dX11_draw_16 rfl rfl 1 rfl ?_
  refine sm_iconst (v := 1) (q := 18) dX11_draw_17 rfl (by decide) ?_
  rcases sm_if_e h with ⟨hb3, h⟩ | ⟨hb3, h⟩
  · refine sm_icmp_ge (tgt := 25) (q := 21) dX11_draw_18 (by decide) rfl (fun _ => ?_) (fun hn => absurd hb3 hn)
    refine sm_aload_n (q := 26) dX11_draw_25 rfl rfl 0 rfl ?_
    refine sm_getI (q := 29) dX11_draw_26 rfl fk_X11_344 hc1 (by decide) (by decide) ?_
    refine sm_bipush (v := 16) (q := 31) dX11_draw_29 rfl (by decide) ?_
    refine sm_iushr (v := (sm_us (I2 a0 15) (16 : Int32))) (q := 32) dX11_draw_31 rfl rfl ?_
    refine sm_sipush (v := 32767) (q := 35) dX11_draw_32 rfl (by decide) ?_
    refine sm_iand (q := 36) dX11_draw_35 rfl ?_
    refine sm_iload_n (q := 37) dX11_draw_36 rfl rfl 1 rfl ?_
    obtain ⟨hc4, h⟩ := sm_gd_e h
    refine sm_irem (q := 38) dX11_draw_37 rfl hc4 ?_
    obtain rfl := Option.some.inj h
    exact sm_iret dX11_draw_38 rfl
  · refine sm_icmp_ge (tgt := 25) (q := 21) dX11_draw_18 (by decide) rfl (fun ht => absurd ht hb3) (fun _ => ?_)
    refine sm_iconst (v := 0) (q := 22) dX11_draw_21 rfl (by decide) ?_
    refine sm_goto (q := 38) dX11_draw_22 (by decide) ?_
    obtain rfl := Option.some.inj h
    exact sm_iret dX11_draw_38 rfl
theorem e_X11_draw {l : Launch} {N : Nat} {R : Nat → Nat → Nat} {a0 : Nat} {a1 : Int32} {I : (Nat → Nat → Int32)} {y : (Int32 × (Nat → Nat → Int32))} (h : f_X11_draw N R a0 a1 I = some y) : sm_E l 0 mX11_draw [.inr (.inl a0), .inl a1] (I, R) (.inl (some (.inl y.1))) (y.2, R) :=
  sm_meth (by decide) (Nat.le_of_ble_eq_true rfl) (w_X11_draw N R a0 a1 I y h)
def f_X11_dreamOfChance (N : Nat) (R : Nat → Nat → Nat) : Nat → (Nat → Nat → Int32) → Option (Unit × (Nat → Nat → Int32)) := fun a0 I =>
  sm_gd (sm_kd a0 = (11, 16)) <|
  (f_X11_draw N R a0 (5 : Int32) I).bind fun p2 =>
  if p2.1 ≤ (2 : Int32) then (
    sm_gd (sm_kd (R a0 10) = (10, 4)) <|
    (f_X11_draw N R a0 (p2.2 (R a0 10) 1) p2.2).bind fun p5 =>
    if p5.1 < 0 then (
      some ((), p5.2))
    else (
      if p5.1 < (7 : Int32) then (
        sm_gd ((sm_kd (R (R a0 10) 0)).1 = 16 ∧ ¬ (p5.1 < 0 ∨ (sm_kd (R (R a0 10) 0)).2 ≤ (p5.1).toNatClampNeg)) <|
        if p2.1 = 0 then (
          (f_X11_draw N R a0 (30 : Int32) p5.2).bind fun p10 =>
          (f_X10_couldGo N R (R a0 10) (R (R (R a0 10) 0) (p5.1).toNatClampNeg) (p10.1 + (1 : Int32)) p10.2).bind fun p11 =>
          if p11.1 = 0 then (
            some ((), p11.2))
          else (
            sm_gd (sm_kd (R a0 3) = (7, 9)) <|
            (f_X7_goThrough N R (R a0 3) (R (R (R a0 10) 0) (p5.1).toNatClampNeg) (p10.1 + (1 : Int32)) p11.2).bind fun p14 =>
            some ((), p14.2)))
        else (
          if p2.1 = (1 : Int32) then (
            sm_gd (sm_kd (R (R (R a0 10) 0) (p5.1).toNatClampNeg) = (4, 6)) <|
            (f_X4_addSore N R (R (R (R a0 10) 0) (p5.1).toNatClampNeg) (3 : Int32) p5.2).bind fun p17 =>
            some ((), p17.2))
          else (
            sm_gd (sm_kd (R (R (R a0 10) 0) (p5.1).toNatClampNeg) = (4, 6)) <|
            (f_X4_addSore N R (R (R (R a0 10) 0) (p5.1).toNatClampNeg) (-3 : Int32) p5.2).bind fun p19 =>
            some ((), p19.2))))
      else (
        some ((), p5.2))))
  else (
    some ((), p2.2))
set_option maxHeartbeats 4000000 in
set_option maxRecDepth 100000 in
theorem w_X11_dreamOfChance {l : Launch} (N : Nat) (R : Nat → Nat → Nat) : ∀ (a0 : Nat) (I : (Nat → Nat → Int32)) (y : (Unit × (Nat → Nat → Int32))), f_X11_dreamOfChance N R a0 I = some y → sm_W l 4 mX11_dreamOfChance 0 [(0, .inr (.inl a0))] [] (I, R) (.inl none) (y.2, R) := by
  intro a0 I y h
  unfold f_X11_dreamOfChance at h
  refine sm_aload_n (q := 1) dX11_dreamOfChance_0 rfl rfl 0 rfl ?_
  refine sm_iconst (v := 5) (q := 2) dX11_dreamOfChance_1 rfl (by decide) ?_
  obtain ⟨hc1, h⟩ := sm_gd_e h
  obtain ⟨p2, hc_p2, h⟩ := sm_bd_e h
  refine sm_callVi (q := 5) (As := [.inl (5 : Int32)]) (S := []) (e_X11_draw hc_p2) mv_X11_358 hc1 rfl (by decide) (Nat.le_of_ble_eq_true rfl) dX11_dreamOfChance_2 rfl ?_
  refine sm_istore_n (L' := [(1, .inl p2.1), (0, .inr (.inl a0))]) (q := 6) dX11_dreamOfChance_5 rfl rfl (by decide) rfl ?_
  refine sm_iload_n (q := 7) dX11_dreamOfChance_6 rfl rfl 0 rfl ?_
  refine sm_iconst (v := 2) (q := 8) dX11_dreamOfChance_7 rfl (by decide) ?_
  rcases sm_if_e h with ⟨hb3, h⟩ | ⟨hb3, h⟩
  · refine sm_icmp_le (tgt := 12) (q := 11) dX11_dreamOfChance_8 (by decide) rfl (fun _ => ?_) (fun hn => absurd hb3 hn)
    refine sm_aload_n (q := 13) dX11_dreamOfChance_12 rfl rfl 1 rfl ?_
    refine sm_aload_n (q := 14) dX11_dreamOfChance_13 rfl rfl 1 rfl ?_
    refine sm_getR (r := R a0 10) (q := 17) dX11_dreamOfChance_14 rfl fk_X11_65 hc1 (by decide) (by decide) rfl ?_
    obtain ⟨hc4, h⟩ := sm_gd_e h
    refine sm_getI (q := 20) dX11_dreamOfChance_17 rfl fk_X11_135 hc4 (by decide) (by decide) ?_
    obtain ⟨p5, hc_p5, h⟩ := sm_bd_e h
    refine sm_callVi (q := 23) (As := [.inl (p2.2 (R a0 10) 1)]) (S := []) (e_X11_draw hc_p5) mv_X11_358 hc1 rfl (by decide) (Nat.le_of_ble_eq_true rfl) dX11_dreamOfChance_20 rfl ?_
    refine sm_istore_n (L' := [(2, .inl p5.1), (1, .inl p2.1), (0, .inr (.inl a0))]) (q := 24) dX11_dreamOfChance_23 rfl rfl (by decide) rfl ?_
    refine sm_iload_n (q := 25) dX11_dreamOfChance_24 rfl rfl 0 rfl ?_
    rcases sm_if_e h with ⟨hb6, h⟩ | ⟨hb6, h⟩
    · refine sm_if_lt (tgt := 34) (q := 28) dX11_dreamOfChance_25 (by decide) rfl (fun _ => ?_) (fun hn => absurd hb6 hn)
      obtain rfl := Option.some.inj h
      exact sm_vret dX11_dreamOfChance_34 rfl
    · refine sm_if_lt (tgt := 34) (q := 28) dX11_dreamOfChance_25 (by decide) rfl (fun ht => absurd ht hb6) (fun _ => ?_)
      refine sm_iload_n (q := 29) dX11_dreamOfChance_28 rfl rfl 0 rfl ?_
      refine sm_bipush (v := 7) (q := 31) dX11_dreamOfChance_29 rfl (by decide) ?_
      rcases sm_if_e h with ⟨hb7, h⟩ | ⟨hb7, h⟩
      · refine sm_icmp_lt (tgt := 35) (q := 34) dX11_dreamOfChance_31 (by decide) rfl (fun _ => ?_) (fun hn => absurd hb7 hn)
        refine sm_aload_n (q := 36) dX11_dreamOfChance_35 rfl rfl 2 rfl ?_
        refine sm_getR (r := R a0 10) (q := 39) dX11_dreamOfChance_36 rfl fk_X11_65 hc1 (by decide) (by decide) rfl ?_
        refine sm_getR (r := R (R a0 10) 0) (q := 42) dX11_dreamOfChance_39 rfl fk_X11_165 hc4 (by decide) (by decide) rfl ?_
        refine sm_iload_n (q := 43) dX11_dreamOfChance_42 rfl rfl 0 rfl ?_
        obtain ⟨hc8, h⟩ := sm_gd_e h
        refine sm_aald (t := 3) (n := (sm_kd (R (R a0 10) 0)).2) (q := 44) dX11_dreamOfChance_43 rfl (Prod.ext hc8.1 rfl) (Or.inl ⟨rfl, rfl⟩) hc8.2 rfl ?_
        refine sm_astore_n (L' := [(3, .inr (.inl (R (R (R a0 10) 0) (p5.1).toNatClampNeg))), (2, .inl p5.1), (1, .inl p2.1), (0, .inr (.inl a0))]) (q := 45) dX11_dreamOfChance_44 rfl rfl (by decide) rfl ?_
        refine sm_iload_n (q := 46) dX11_dreamOfChance_45 rfl rfl 2 rfl ?_
        rcases sm_if_e h with ⟨hb9, h⟩ | ⟨hb9, h⟩
        · refine sm_if_ne (tgt := 85) (q := 49) dX11_dreamOfChance_46 (by decide) rfl (fun hn => absurd hb9 hn) (fun _ => ?_)
          refine sm_aload_n (q := 50) dX11_dreamOfChance_49 rfl rfl 3 rfl ?_
          refine sm_bipush (v := 30) (q := 52) dX11_dreamOfChance_50 rfl (by decide) ?_
          obtain ⟨p10, hc_p10, h⟩ := sm_bd_e h
          refine sm_callVi (q := 55) (As := [.inl (30 : Int32)]) (S := []) (e_X11_draw hc_p10) mv_X11_358 hc1 rfl (by decide) (Nat.le_of_ble_eq_true rfl) dX11_dreamOfChance_52 rfl ?_
          refine sm_iconst (v := 1) (q := 56) dX11_dreamOfChance_55 rfl (by decide) ?_
          refine sm_iadd (q := 57) dX11_dreamOfChance_56 rfl ?_
          refine sm_istore (L' := [(4, .inl (p10.1 + (1 : Int32))), (3, .inr (.inl (R (R (R a0 10) 0) (p5.1).toNatClampNeg))), (2, .inl p5.1), (1, .inl p2.1), (0, .inr (.inl a0))]) (q := 59) dX11_dreamOfChance_57 rfl (by decide) rfl ?_
          refine sm_aload_n (q := 60) dX11_dreamOfChance_59 rfl rfl 4 rfl ?_
          refine sm_getR (r := R a0 10) (q := 63) dX11_dreamOfChance_60 rfl fk_X11_65 hc1 (by decide) (by decide) rfl ?_
          refine sm_aload_n (q := 64) dX11_dreamOfChance_63 rfl rfl 1 rfl ?_
          refine sm_iload (q := 66) dX11_dreamOfChance_64 rfl 0 rfl ?_
          obtain ⟨p11, hc_p11, h⟩ := sm_bd_e h
          refine sm_callVi (q := 69) (As := [.inr (.inl (R (R (R a0 10) 0) (p5.1).toNatClampNeg)), .inl (p10.1 + (1 : Int32))]) (S := []) (e_X10_couldGo hc_p11) mv_X11_238 hc4 rfl (by decide) (Nat.le_of_ble_eq_true rfl) dX11_dreamOfChance_66 rfl ?_
          rcases sm_if_e h with ⟨hb12, h⟩ | ⟨hb12, h⟩
          · refine sm_if_eq (tgt := 82) (q := 72) dX11_dreamOfChance_69 (by decide) rfl (fun _ => ?_) (fun hn => absurd hb12 hn)
            refine sm_goto (q := 100) dX11_dreamOfChance_82 (by decide) ?_
            obtain rfl := Option.some.inj h
            exact sm_vret dX11_dreamOfChance_100 rfl
          · refine sm_if_eq (tgt := 82) (q := 72) dX11_dreamOfChance_69 (by decide) rfl (fun ht => absurd ht hb12) (fun _ => ?_)
            refine sm_aload_n (q := 73) dX11_dreamOfChance_72 rfl rfl 4 rfl ?_
            refine sm_getR (r := R a0 3) (q := 76) dX11_dreamOfChance_73 rfl fk_X11_23 hc1 (by decide) (by decide) rfl ?_
            refine sm_aload_n (q := 77) dX11_dreamOfChance_76 rfl rfl 1 rfl ?_
            refine sm_iload (q := 79) dX11_dreamOfChance_77 rfl 0 rfl ?_
            obtain ⟨hc13, h⟩ := sm_gd_e h
            obtain ⟨p14, hc_p14, h⟩ := sm_bd_e h
            refine sm_callVv (q := 82) (As := [.inr (.inl (R (R (R a0 10) 0) (p5.1).toNatClampNeg)), .inl (p10.1 + (1 : Int32))]) (S := []) (e_X7_goThrough hc_p14) mv_X11_242 hc13 rfl (by decide) (Nat.le_of_ble_eq_true rfl) dX11_dreamOfChance_79 rfl ?_
            refine sm_goto (q := 100) dX11_dreamOfChance_82 (by decide) ?_
            obtain rfl := Option.some.inj h
            exact sm_vret dX11_dreamOfChance_100 rfl
        · refine sm_if_ne (tgt := 85) (q := 49) dX11_dreamOfChance_46 (by decide) rfl (fun _ => ?_) (fun he => absurd he hb9)
          refine sm_aload_n (q := 86) dX11_dreamOfChance_85 rfl rfl 0 rfl ?_
          refine sm_iload_n (q := 87) dX11_dreamOfChance_86 rfl rfl 2 rfl ?_
          refine sm_iconst (v := 1) (q := 88) dX11_dreamOfChance_87 rfl (by decide) ?_
          rcases sm_if_e h with ⟨hb15, h⟩ | ⟨hb15, h⟩
          · refine sm_icmp_ne (tgt := 95) (q := 91) dX11_dreamOfChance_88 (by decide) rfl (fun hn => absurd hb15 hn) (fun _ => ?_)
            refine sm_iconst (v := 3) (q := 92) dX11_dreamOfChance_91 rfl (by decide) ?_
            refine sm_goto (q := 97) dX11_dreamOfChance_92 (by decide) ?_
            obtain ⟨hc16, h⟩ := sm_gd_e h
            obtain ⟨p17, hc_p17, h⟩ := sm_bd_e h
            refine sm_callVv (q := 100) (As := [.inl (3 : Int32)]) (S := []) (e_X4_addSore hc_p17) mv_X11_245 hc16 rfl (by decide) (Nat.le_of_ble_eq_true rfl) dX11_dreamOfChance_97 rfl ?_
            obtain rfl := Option.some.inj h
            exact sm_vret dX11_dreamOfChance_100 rfl
          · refine sm_icmp_ne (tgt := 95) (q := 91) dX11_dreamOfChance_88 (by decide) rfl (fun _ => ?_) (fun he => absurd he hb15)
            refine sm_bipush (v := -3) (q := 97) dX11_dreamOfChance_95 rfl (by decide) ?_
            obtain ⟨hc18, h⟩ := sm_gd_e h
            obtain ⟨p19, hc_p19, h⟩ := sm_bd_e h
            refine sm_callVv (q := 100) (As := [.inl (-3 : Int32)]) (S := []) (e_X4_addSore hc_p19) mv_X11_245 hc18 rfl (by decide) (Nat.le_of_ble_eq_true rfl) dX11_dreamOfChance_97 rfl ?_
            obtain rfl := Option.some.inj h
            exact sm_vret dX11_dreamOfChance_100 rfl
      · refine sm_icmp_lt (tgt := 35) (q := 34) dX11_dreamOfChance_31 (by decide) rfl (fun ht => absurd ht hb7) (fun _ => ?_)
        obtain rfl := Option.some.inj h
        exact sm_vret dX11_dreamOfChance_34 rfl
  · refine sm_icmp_le (tgt := 12) (q := 11) dX11_dreamOfChance_8 (by decide) rfl (fun ht => absurd ht hb3) (fun _ => ?_)
    obtain rfl := Option.some.inj h
    exact sm_vret dX11_dreamOfChance_11 rfl
theorem e_X11_dreamOfChance {l : Launch} {N : Nat} {R : Nat → Nat → Nat} {a0 : Nat} {I : (Nat → Nat → Int32)} {y : (Unit × (Nat → Nat → Int32))} (h : f_X11_dreamOfChance N R a0 I = some y) : sm_E l 4 mX11_dreamOfChance [.inr (.inl a0)] (I, R) (.inl none) (y.2, R) :=
  sm_meth (by decide) (Nat.le_of_ble_eq_true rfl) (w_X11_dreamOfChance N R a0 I y h)
def f_X11_piecesDoneInDream_4 (N : Nat) (R : Nat → Nat → Nat) : Nat → Nat → Int32 → Int32 → (Nat → Nat → Int32) → Option (Int32 × (Nat → Nat → Int32))
  | 0, _, _, _, _ => none
  | n + 1, a0, a1, a2, I =>
    sm_gd (sm_kd a0 = (11, 16)) <|
    sm_gd (sm_kd (R a0 10) = (10, 4)) <|
    if (I (R a0 10) 1) ≤ a2 then (
      some (a1, I))
    else (
      sm_gd ((sm_kd (R (R a0 10) 0)).1 = 16 ∧ ¬ (a2 < 0 ∨ (sm_kd (R (R a0 10) 0)).2 ≤ (a2).toNatClampNeg)) <|
      sm_gd (sm_kd (R a0 3) = (7, 9)) <|
      (f_X7_isDone N R (R a0 3) (R (R (R a0 10) 0) (a2).toNatClampNeg) I).bind fun p6 =>
      if p6.1 = 0 then (
        f_X11_piecesDoneInDream_4 N R n a0 a1 (a2 + 1) p6.2)
      else (
        f_X11_piecesDoneInDream_4 N R n a0 (a1 + 1) (a2 + 1) p6.2))
def f_X11_piecesDoneInDream (N : Nat) (R : Nat → Nat → Nat) : Nat → (Nat → Nat → Int32) → Option (Int32 × (Nat → Nat → Int32)) := fun a0 I =>
  f_X11_piecesDoneInDream_4 N R N a0 (0 : Int32) (0 : Int32) I
set_option maxHeartbeats 4000000 in
set_option maxRecDepth 100000 in
theorem w_X11_piecesDoneInDream_4 {l : Launch} (N : Nat) (R : Nat → Nat → Nat) : ∀ (n : Nat) (a0 : Nat) (a1 : Int32) (a2 : Int32) (I : (Nat → Nat → Int32)) (y : (Int32 × (Nat → Nat → Int32))), f_X11_piecesDoneInDream_4 N R n a0 a1 a2 I = some y → sm_W l 2 mX11_piecesDoneInDream 4 [(0, .inr (.inl a0)), (1, .inl a1), (2, .inl a2)] [] (I, R) (.inl (some (.inl y.1))) (y.2, R) := by
  intro n
  induction n with
  | zero => intro a0 a1 a2 I y h; cases h
  | succ n ih =>
    intro a0 a1 a2 I y h
    rw [f_X11_piecesDoneInDream_4] at h
    refine sm_iload_n (q := 5) dX11_piecesDoneInDream_4 rfl rfl 2 rfl ?_
    refine sm_aload_n (q := 6) dX11_piecesDoneInDream_5 rfl rfl 0 rfl ?_
    obtain ⟨hc1, h⟩ := sm_gd_e h
    refine sm_getR (r := R a0 10) (q := 9) dX11_piecesDoneInDream_6 rfl fk_X11_65 hc1 (by decide) (by decide) rfl ?_
    obtain ⟨hc2, h⟩ := sm_gd_e h
    refine sm_getI (q := 12) dX11_piecesDoneInDream_9 rfl fk_X11_135 hc2 (by decide) (by decide) ?_
    rcases sm_if_e h with ⟨hb3, h⟩ | ⟨hb3, h⟩
    · refine sm_icmp_ge (tgt := 43) (q := 15) dX11_piecesDoneInDream_12 (by decide) rfl (fun _ => ?_) (fun hn => absurd hb3 hn)
      refine sm_iload_n (q := 44) dX11_piecesDoneInDream_43 rfl rfl 1 rfl ?_
      obtain rfl := Option.some.inj h
      exact sm_iret dX11_piecesDoneInDream_44 rfl
    · refine sm_icmp_ge (tgt := 43) (q := 15) dX11_piecesDoneInDream_12 (by decide) rfl (fun ht => absurd ht hb3) (fun _ => ?_)
      refine sm_aload_n (q := 16) dX11_piecesDoneInDream_15 rfl rfl 0 rfl ?_
      refine sm_getR (r := R a0 3) (q := 19) dX11_piecesDoneInDream_16 rfl fk_X11_23 hc1 (by decide) (by decide) rfl ?_
      refine sm_aload_n (q := 20) dX11_piecesDoneInDream_19 rfl rfl 0 rfl ?_
      refine sm_getR (r := R a0 10) (q := 23) dX11_piecesDoneInDream_20 rfl fk_X11_65 hc1 (by decide) (by decide) rfl ?_
      refine sm_getR (r := R (R a0 10) 0) (q := 26) dX11_piecesDoneInDream_23 rfl fk_X11_165 hc2 (by decide) (by decide) rfl ?_
      refine sm_iload_n (q := 27) dX11_piecesDoneInDream_26 rfl rfl 2 rfl ?_
      obtain ⟨hc4, h⟩ := sm_gd_e h
      refine sm_aald (t := 3) (n := (sm_kd (R (R a0 10) 0)).2) (q := 28) dX11_piecesDoneInDream_27 rfl (Prod.ext hc4.1 rfl) (Or.inl ⟨rfl, rfl⟩) hc4.2 rfl ?_
      obtain ⟨hc5, h⟩ := sm_gd_e h
      obtain ⟨p6, hc_p6, h⟩ := sm_bd_e h
      refine sm_callVi (q := 31) (As := [.inr (.inl (R (R (R a0 10) 0) (a2).toNatClampNeg))]) (S := []) (e_X7_isDone hc_p6) mv_X11_169 hc5 rfl (by decide) (Nat.le_of_ble_eq_true rfl) dX11_piecesDoneInDream_28 rfl ?_
      rcases sm_if_e h with ⟨hb7, h⟩ | ⟨hb7, h⟩
      · refine sm_if_eq (tgt := 37) (q := 34) dX11_piecesDoneInDream_31 (by decide) rfl (fun _ => ?_) (fun hn => absurd hb7 hn)
        refine sm_iinc (v := (a2 + 1)) (L' := [(2, .inl (a2 + 1)), (0, .inr (.inl a0)), (1, .inl a1)]) (q := 40) dX11_piecesDoneInDream_37 rfl 2 rfl rfl (by decide) rfl ?_
        refine sm_goto (q := 4) dX11_piecesDoneInDream_40 (by decide) ?_
        refine sm_pick [1, 2, 0] rfl ?_
        exact ih _ _ _ _ _ h
      · refine sm_if_eq (tgt := 37) (q := 34) dX11_piecesDoneInDream_31 (by decide) rfl (fun ht => absurd ht hb7) (fun _ => ?_)
        refine sm_iinc (v := (a1 + 1)) (L' := [(1, .inl (a1 + 1)), (0, .inr (.inl a0)), (2, .inl a2)]) (q := 37) dX11_piecesDoneInDream_34 rfl 1 rfl rfl (by decide) rfl ?_
        refine sm_iinc (v := (a2 + 1)) (L' := [(2, .inl (a2 + 1)), (1, .inl (a1 + 1)), (0, .inr (.inl a0))]) (q := 40) dX11_piecesDoneInDream_37 rfl 2 rfl rfl (by decide) rfl ?_
        refine sm_goto (q := 4) dX11_piecesDoneInDream_40 (by decide) ?_
        refine sm_pick [2, 1, 0] rfl ?_
        exact ih _ _ _ _ _ h
set_option maxHeartbeats 4000000 in
set_option maxRecDepth 100000 in
theorem w_X11_piecesDoneInDream {l : Launch} (N : Nat) (R : Nat → Nat → Nat) : ∀ (a0 : Nat) (I : (Nat → Nat → Int32)) (y : (Int32 × (Nat → Nat → Int32))), f_X11_piecesDoneInDream N R a0 I = some y → sm_W l 2 mX11_piecesDoneInDream 0 [(0, .inr (.inl a0))] [] (I, R) (.inl (some (.inl y.1))) (y.2, R) := by
  intro a0 I y h
  unfold f_X11_piecesDoneInDream at h
  refine sm_iconst (v := 0) (q := 1) dX11_piecesDoneInDream_0 rfl (by decide) ?_
  refine sm_istore_n (L' := [(1, .inl (0 : Int32)), (0, .inr (.inl a0))]) (q := 2) dX11_piecesDoneInDream_1 rfl rfl (by decide) rfl ?_
  refine sm_iconst (v := 0) (q := 3) dX11_piecesDoneInDream_2 rfl (by decide) ?_
  refine sm_istore_n (L' := [(2, .inl (0 : Int32)), (1, .inl (0 : Int32)), (0, .inr (.inl a0))]) (q := 4) dX11_piecesDoneInDream_3 rfl rfl (by decide) rfl ?_
  refine sm_pick [2, 1, 0] rfl ?_
  exact w_X11_piecesDoneInDream_4 N R N _ _ _ _ _ h
theorem e_X11_piecesDoneInDream {l : Launch} {N : Nat} {R : Nat → Nat → Nat} {a0 : Nat} {I : (Nat → Nat → Int32)} {y : (Int32 × (Nat → Nat → Int32))} (h : f_X11_piecesDoneInDream N R a0 I = some y) : sm_E l 2 mX11_piecesDoneInDream [.inr (.inl a0)] (I, R) (.inl (some (.inl y.1))) (y.2, R) :=
  sm_meth (by decide) (Nat.le_of_ble_eq_true rfl) (w_X11_piecesDoneInDream N R a0 I y h)
def f_X11_years_57 (N : Nat) (R : Nat → Nat → Nat) (k_34 : Nat → Int32 → Int32 → Int32 → (Nat → Nat → Int32) → Option ((Int32 ⊕ String) × (Nat → Nat → Int32))) : Nat → Nat → Int32 → Int32 → Int32 → Int32 → (Nat → Nat → Int32) → Option ((Int32 ⊕ String) × (Nat → Nat → Int32))
  | 0, _, _, _, _, _, _ => none
  | n + 1, a0, a2, a3, a4, a5, I =>
    sm_gd (sm_kd a0 = (11, 16)) <|
    sm_gd (sm_kd (R a0 10) = (10, 4)) <|
    if (I (R a0 10) 1) ≤ a5 then (
      k_34 a0 a2 a3 (a4 + 1) I)
    else (
      sm_gd ((sm_kd (R (R a0 10) 0)).1 = 16 ∧ ¬ (a5 < 0 ∨ (sm_kd (R (R a0 10) 0)).2 ≤ (a5).toNatClampNeg)) <|
      sm_gd (sm_kd (R a0 3) = (7, 9)) <|
      (f_X7_passWeeks N R (R a0 3) (R (R (R a0 10) 0) (a5).toNatClampNeg) (1 : Int32) I).bind fun p6 =>
      f_X11_years_57 N R k_34 n a0 a2 a3 a4 (a5 + 1) p6.2)
def f_X11_years_34 (N : Nat) (R : Nat → Nat → Nat) : Nat → Nat → Int32 → Int32 → Int32 → (Nat → Nat → Int32) → Option ((Int32 ⊕ String) × (Nat → Nat → Int32))
  | 0, _, _, _, _, _ => none
  | n + 1, a0, a2, a3, a4, I =>
    if a2 ≤ a4 then (
      if a3 = 0 then (
        sm_gd (sm_kd a0 = (11, 16)) <|
        sm_gd (sm_kd (R a0 10) = (10, 4)) <|
        (f_X10_barsOfAll N R (R a0 10) I).bind fun p5 =>
        sm_gd (sm_kd (R a0 3) = (7, 9)) <|
        sm_gd (sm_kd (R (R a0 3) 5) = (10, 4)) <|
        (f_X10_barsOfAll N R (R (R a0 3) 5) p5.2).bind fun p8 =>
        some (.inl (p5.1 - p8.1), p8.2))
      else (
        if a3 = (1 : Int32) then (
          sm_gd (sm_kd a0 = (11, 16)) <|
          (f_X11_piecesDoneInDream N R a0 I).bind fun p11 =>
          some (.inl p11.1, p11.2))
        else (
          sm_gd (sm_kd a0 = (11, 16)) <|
          sm_gd (sm_kd (R a0 10) = (10, 4)) <|
          (f_X10_skillOfAll N R (R a0 10) I).bind fun p14 =>
          some (.inl p14.1, p14.2))))
    else (
      sm_gd (sm_kd a0 = (11, 16)) <|
      sm_gd (sm_kd (R a0 10) = (10, 4)) <|
      if (I (R a0 10) 1) ≤ 0 then (
        f_X11_years_57 N R (fun z0 z1 z2 z3 J => f_X11_years_34 N R n z0 z1 z2 z3 J) N a0 a2 a3 a4 (0 : Int32) I)
      else (
        (f_X11_dreamOfChance N R a0 I).bind fun p18 =>
        f_X11_years_57 N R (fun z0 z1 z2 z3 J => f_X11_years_34 N R n z0 z1 z2 z3 J) N a0 a2 a3 a4 (0 : Int32) p18.2))
def f_X11_years (N : Nat) (R : Nat → Nat → Nat) : Nat → Int32 → Int32 → Int32 → (Nat → Nat → Int32) → Option ((Int32 ⊕ String) × (Nat → Nat → Int32)) := fun a0 a1 a2 a3 I =>
  sm_tb (f_X11_needWhat N R a3 (2 : Int32) I) fun r2 J3 =>
  sm_tb (f_X11_needBetween N R a2 (0 : Int32) (60 : Int32) J3) fun r5 J6 =>
  sm_gd (sm_kd a0 = (11, 16)) <|
  sm_lt (sm_up J6 a0 (sm_up (J6 a0) 15 a1)) fun I8 =>
  sm_gd (sm_kd (R a0 3) = (7, 9)) <|
  sm_gd (sm_kd (R a0 10) = (10, 4)) <|
  (f_X10_become N R (R a0 10) (R (R a0 3) 5) I8).bind fun p11 =>
  f_X11_years_34 N R N a0 a2 a3 (0 : Int32) p11.2
set_option maxHeartbeats 4000000 in
set_option maxRecDepth 100000 in
theorem w_X11_years_57 {l : Launch} (hl : l.stackTraces = false) (N : Nat) (R : Nat → Nat → Nat) (k_34 : Nat → Int32 → Int32 → Int32 → (Nat → Nat → Int32) → Option ((Int32 ⊕ String) × (Nat → Nat → Int32))) (hk_34 : ∀ (a0 : Nat) (a2 : Int32) (a3 : Int32) (a4 : Int32) (I : (Nat → Nat → Int32)) (y : ((Int32 ⊕ String) × (Nat → Nat → Int32))), k_34 a0 a2 a3 a4 I = some y → sm_W l 5 mX11_years 34 [(0, .inr (.inl a0)), (2, .inl a2), (3, .inl a3), (4, .inl a4)] [] (I, R) (sm_oI y.1) (y.2, R)) : ∀ (n : Nat) (a0 : Nat) (a2 : Int32) (a3 : Int32) (a4 : Int32) (a5 : Int32) (I : (Nat → Nat → Int32)) (y : ((Int32 ⊕ String) × (Nat → Nat → Int32))), f_X11_years_57 N R k_34 n a0 a2 a3 a4 a5 I = some y → sm_W l 5 mX11_years 57 [(0, .inr (.inl a0)), (2, .inl a2), (3, .inl a3), (4, .inl a4), (5, .inl a5)] [] (I, R) (sm_oI y.1) (y.2, R) := by
  intro n
  induction n with
  | zero => intro a0 a2 a3 a4 a5 I y h; cases h
  | succ n ih =>
    intro a0 a2 a3 a4 a5 I y h
    rw [f_X11_years_57] at h
    refine sm_iload (q := 59) dX11_years_57 rfl 4 rfl ?_
    refine sm_aload_n (q := 60) dX11_years_59 rfl rfl 0 rfl ?_
    obtain ⟨hc1, h⟩ := sm_gd_e h
    refine sm_getR (r := R a0 10) (q := 63) dX11_years_60 rfl fk_X11_65 hc1 (by decide) (by decide) rfl ?_
    obtain ⟨hc2, h⟩ := sm_gd_e h
    refine sm_getI (q := 66) dX11_years_63 rfl fk_X11_135 hc2 (by decide) (by decide) ?_
    rcases sm_if_e h with ⟨hb3, h⟩ | ⟨hb3, h⟩
    · refine sm_icmp_ge (tgt := 93) (q := 69) dX11_years_66 (by decide) rfl (fun _ => ?_) (fun hn => absurd hb3 hn)
      refine sm_iinc (v := (a4 + 1)) (L' := [(4, .inl (a4 + 1)), (0, .inr (.inl a0)), (2, .inl a2), (3, .inl a3), (5, .inl a5)]) (q := 96) dX11_years_93 rfl 3 rfl rfl (by decide) rfl ?_
      refine sm_goto (q := 34) dX11_years_96 (by decide) ?_
      refine sm_pick [1, 2, 3, 0] rfl ?_
      exact hk_34 _ _ _ _ _ _ h
    · refine sm_icmp_ge (tgt := 93) (q := 69) dX11_years_66 (by decide) rfl (fun ht => absurd ht hb3) (fun _ => ?_)
      refine sm_aload_n (q := 70) dX11_years_69 rfl rfl 0 rfl ?_
      refine sm_getR (r := R a0 3) (q := 73) dX11_years_70 rfl fk_X11_23 hc1 (by decide) (by decide) rfl ?_
      refine sm_aload_n (q := 74) dX11_years_73 rfl rfl 0 rfl ?_
      refine sm_getR (r := R a0 10) (q := 77) dX11_years_74 rfl fk_X11_65 hc1 (by decide) (by decide) rfl ?_
      refine sm_getR (r := R (R a0 10) 0) (q := 80) dX11_years_77 rfl fk_X11_165 hc2 (by decide) (by decide) rfl ?_
      refine sm_iload (q := 82) dX11_years_80 rfl 4 rfl ?_
      obtain ⟨hc4, h⟩ := sm_gd_e h
      refine sm_aald (t := 3) (n := (sm_kd (R (R a0 10) 0)).2) (q := 83) dX11_years_82 rfl (Prod.ext hc4.1 rfl) (Or.inl ⟨rfl, rfl⟩) hc4.2 rfl ?_
      refine sm_iconst (v := 1) (q := 84) dX11_years_83 rfl (by decide) ?_
      obtain ⟨hc5, h⟩ := sm_gd_e h
      obtain ⟨p6, hc_p6, h⟩ := sm_bd_e h
      refine sm_callVv (q := 87) (As := [.inr (.inl (R (R (R a0 10) 0) (a5).toNatClampNeg)), .inl (1 : Int32)]) (S := []) (e_X7_passWeeks hc_p6) mv_X11_234 hc5 rfl (by decide) (Nat.le_of_ble_eq_true rfl) dX11_years_84 rfl ?_
      refine sm_iinc (v := (a5 + 1)) (L' := [(5, .inl (a5 + 1)), (0, .inr (.inl a0)), (2, .inl a2), (3, .inl a3), (4, .inl a4)]) (q := 90) dX11_years_87 rfl 4 rfl rfl (by decide) rfl ?_
      refine sm_goto (q := 57) dX11_years_90 (by decide) ?_
      refine sm_pick [1, 2, 3, 4, 0] rfl ?_
      exact ih _ _ _ _ _ _ _ h
set_option maxHeartbeats 4000000 in
set_option maxRecDepth 100000 in
theorem w_X11_years_34 {l : Launch} (hl : l.stackTraces = false) (N : Nat) (R : Nat → Nat → Nat) : ∀ (n : Nat) (a0 : Nat) (a2 : Int32) (a3 : Int32) (a4 : Int32) (I : (Nat → Nat → Int32)) (y : ((Int32 ⊕ String) × (Nat → Nat → Int32))), f_X11_years_34 N R n a0 a2 a3 a4 I = some y → sm_W l 5 mX11_years 34 [(0, .inr (.inl a0)), (2, .inl a2), (3, .inl a3), (4, .inl a4)] [] (I, R) (sm_oI y.1) (y.2, R) := by
  intro n
  induction n with
  | zero => intro a0 a2 a3 a4 I y h; cases h
  | succ n ih =>
    intro a0 a2 a3 a4 I y h
    rw [f_X11_years_34] at h
    refine sm_iload (q := 36) dX11_years_34 rfl 3 rfl ?_
    refine sm_iload_n (q := 37) dX11_years_36 rfl rfl 1 rfl ?_
    rcases sm_if_e h with ⟨hb1, h⟩ | ⟨hb1, h⟩
    · refine sm_icmp_ge (tgt := 99) (q := 40) dX11_years_37 (by decide) rfl (fun _ => ?_) (fun hn => absurd hb1 hn)
      refine sm_iload_n (q := 100) dX11_years_99 rfl rfl 2 rfl ?_
      rcases sm_if_e h with ⟨hb2, h⟩ | ⟨hb2, h⟩
      · refine sm_if_ne (tgt := 122) (q := 103) dX11_years_100 (by decide) rfl (fun hn => absurd hb2 hn) (fun _ => ?_)
        refine sm_aload_n (q := 104) dX11_years_103 rfl rfl 0 rfl ?_
        obtain ⟨hc3, h⟩ := sm_gd_e h
        refine sm_getR (r := R a0 10) (q := 107) dX11_years_104 rfl fk_X11_65 hc3 (by decide) (by decide) rfl ?_
        obtain ⟨hc4, h⟩ := sm_gd_e h
        obtain ⟨p5, hc_p5, h⟩ := sm_bd_e h
        refine sm_callVi (q := 110) (As := []) (S := []) (e_X10_barsOfAll hc_p5) mv_X11_352 hc4 rfl (by decide) (Nat.le_of_ble_eq_true rfl) dX11_years_107 rfl ?_
        refine sm_aload_n (q := 111) dX11_years_110 rfl rfl 0 rfl ?_
        refine sm_getR (r := R a0 3) (q := 114) dX11_years_111 rfl fk_X11_23 hc3 (by decide) (by decide) rfl ?_
        obtain ⟨hc6, h⟩ := sm_gd_e h
        refine sm_getR (r := R (R a0 3) 5) (q := 117) dX11_years_114 rfl fk_X11_132 hc6 (by decide) (by decide) rfl ?_
        obtain ⟨hc7, h⟩ := sm_gd_e h
        obtain ⟨p8, hc_p8, h⟩ := sm_bd_e h
        refine sm_callVi (q := 120) (As := []) (S := [.inl p5.1]) (e_X10_barsOfAll hc_p8) mv_X11_352 hc7 rfl (by decide) (Nat.le_of_ble_eq_true rfl) dX11_years_117 rfl ?_
        refine sm_isub (q := 121) dX11_years_120 rfl ?_
        obtain rfl := Option.some.inj h
        exact sm_iret dX11_years_121 rfl
      · refine sm_if_ne (tgt := 122) (q := 103) dX11_years_100 (by decide) rfl (fun _ => ?_) (fun he => absurd he hb2)
        refine sm_iload_n (q := 123) dX11_years_122 rfl rfl 2 rfl ?_
        refine sm_iconst (v := 1) (q := 124) dX11_years_123 rfl (by decide) ?_
        rcases sm_if_e h with ⟨hb9, h⟩ | ⟨hb9, h⟩
        · refine sm_icmp_ne (tgt := 134) (q := 127) dX11_years_124 (by decide) rfl (fun hn => absurd hb9 hn) (fun _ => ?_)
          refine sm_aload_n (q := 128) dX11_years_127 rfl rfl 0 rfl ?_
          obtain ⟨hc10, h⟩ := sm_gd_e h
          obtain ⟨p11, hc_p11, h⟩ := sm_bd_e h
          refine sm_callVi (q := 131) (As := []) (S := []) (e_X11_piecesDoneInDream hc_p11) mv_X11_355 hc10 rfl (by decide) (Nat.le_of_ble_eq_true rfl) dX11_years_128 rfl ?_
          refine sm_goto (q := 141) dX11_years_131 (by decide) ?_
          obtain rfl := Option.some.inj h
          exact sm_iret dX11_years_141 rfl
        · refine sm_icmp_ne (tgt := 134) (q := 127) dX11_years_124 (by decide) rfl (fun _ => ?_) (fun he => absurd he hb9)
          refine sm_aload_n (q := 135) dX11_years_134 rfl rfl 0 rfl ?_
          obtain ⟨hc12, h⟩ := sm_gd_e h
          refine sm_getR (r := R a0 10) (q := 138) dX11_years_135 rfl fk_X11_65 hc12 (by decide) (by decide) rfl ?_
          obtain ⟨hc13, h⟩ := sm_gd_e h
          obtain ⟨p14, hc_p14, h⟩ := sm_bd_e h
          refine sm_callVi (q := 141) (As := []) (S := []) (e_X10_skillOfAll hc_p14) mv_X11_152 hc13 rfl (by decide) (Nat.le_of_ble_eq_true rfl) dX11_years_138 rfl ?_
          obtain rfl := Option.some.inj h
          exact sm_iret dX11_years_141 rfl
    · refine sm_icmp_ge (tgt := 99) (q := 40) dX11_years_37 (by decide) rfl (fun ht => absurd ht hb1) (fun _ => ?_)
      refine sm_aload_n (q := 41) dX11_years_40 rfl rfl 0 rfl ?_
      obtain ⟨hc15, h⟩ := sm_gd_e h
      refine sm_getR (r := R a0 10) (q := 44) dX11_years_41 rfl fk_X11_65 hc15 (by decide) (by decide) rfl ?_
      obtain ⟨hc16, h⟩ := sm_gd_e h
      refine sm_getI (q := 47) dX11_years_44 rfl fk_X11_135 hc16 (by decide) (by decide) ?_
      rcases sm_if_e h with ⟨hb17, h⟩ | ⟨hb17, h⟩
      · refine sm_if_le (tgt := 54) (q := 50) dX11_years_47 (by decide) rfl (fun _ => ?_) (fun hn => absurd hb17 hn)
        refine sm_iconst (v := 0) (q := 55) dX11_years_54 rfl (by decide) ?_
        refine sm_istore (L' := [(5, .inl (0 : Int32)), (0, .inr (.inl a0)), (2, .inl a2), (3, .inl a3), (4, .inl a4)]) (q := 57) dX11_years_55 rfl (by decide) rfl ?_
        refine sm_pick [1, 2, 3, 4, 0] rfl ?_
        exact w_X11_years_57 hl N R (fun z0 z1 z2 z3 J => f_X11_years_34 N R n z0 z1 z2 z3 J) (fun z0 z1 z2 z3 J y h => ih z0 z1 z2 z3 J y h) N _ _ _ _ _ _ _ h
      · refine sm_if_le (tgt := 54) (q := 50) dX11_years_47 (by decide) rfl (fun ht => absurd ht hb17) (fun _ => ?_)
        refine sm_aload_n (q := 51) dX11_years_50 rfl rfl 0 rfl ?_
        obtain ⟨p18, hc_p18, h⟩ := sm_bd_e h
        refine sm_callVv (q := 54) (As := []) (S := []) (e_X11_dreamOfChance hc_p18) mv_X11_349 hc15 rfl (by decide) (Nat.le_of_ble_eq_true rfl) dX11_years_51 rfl ?_
        refine sm_iconst (v := 0) (q := 55) dX11_years_54 rfl (by decide) ?_
        refine sm_istore (L' := [(5, .inl (0 : Int32)), (0, .inr (.inl a0)), (2, .inl a2), (3, .inl a3), (4, .inl a4)]) (q := 57) dX11_years_55 rfl (by decide) rfl ?_
        refine sm_pick [1, 2, 3, 4, 0] rfl ?_
        exact w_X11_years_57 hl N R (fun z0 z1 z2 z3 J => f_X11_years_34 N R n z0 z1 z2 z3 J) (fun z0 z1 z2 z3 J y h => ih z0 z1 z2 z3 J y h) N _ _ _ _ _ _ _ h
set_option maxHeartbeats 4000000 in
set_option maxRecDepth 100000 in
theorem w_X11_years {l : Launch} (hl : l.stackTraces = false) (N : Nat) (R : Nat → Nat → Nat) : ∀ (a0 : Nat) (a1 : Int32) (a2 : Int32) (a3 : Int32) (I : (Nat → Nat → Int32)) (y : ((Int32 ⊕ String) × (Nat → Nat → Int32))), f_X11_years N R a0 a1 a2 a3 I = some y → sm_W l 5 mX11_years 0 [(0, .inr (.inl a0)), (1, .inl a1), (2, .inl a2), (3, .inl a3)] [] (I, R) (sm_oI y.1) (y.2, R) := by
  intro a0 a1 a2 a3 I y h
  unfold f_X11_years at h
  refine sm_iload_n (q := 1) dX11_years_0 rfl rfl 3 rfl ?_
  refine sm_iconst (v := 2) (q := 2) dX11_years_1 rfl (by decide) ?_
  rcases sm_tb_e h with ⟨r2, J3, hc_p1, h⟩ | ⟨E9, J9, hc_p1, h⟩
  · refine sm_callSv (q := 5) (As := [.inl a3, .inl (2 : Int32)]) (S := []) (ek_X11_needWhat hl hc_p1) ms_X11_251 rfl (by decide) (Nat.le_of_ble_eq_true rfl) dX11_years_2 rfl ?_
    refine sm_iload_n (q := 6) dX11_years_5 rfl rfl 2 rfl ?_
    refine sm_iconst (v := 0) (q := 7) dX11_years_6 rfl (by decide) ?_
    refine sm_bipush (v := 60) (q := 9) dX11_years_7 rfl (by decide) ?_
    rcases sm_tb_e h with ⟨r5, J6, hc_p4, h⟩ | ⟨E9, J9, hc_p4, h⟩
    · refine sm_callSv (q := 12) (As := [.inl a2, .inl (0 : Int32), .inl (60 : Int32)]) (S := []) (ek_X11_needBetween hl hc_p4) ms_X11_255 rfl (by decide) (Nat.le_of_ble_eq_true rfl) dX11_years_9 rfl ?_
      refine sm_aload_n (q := 13) dX11_years_12 rfl rfl 0 rfl ?_
      refine sm_iload_n (q := 14) dX11_years_13 rfl rfl 1 rfl ?_
      obtain ⟨hc7, h⟩ := sm_gd_e h
      obtain ⟨I8, hI8, h⟩ := sm_lt_e h
      refine sm_putI (q := 17) dX11_years_14 rfl fk_X11_344 hc7 (by decide) (by decide) ?_
      refine sm_memI hI8 ?_
      refine sm_aload_n (q := 18) dX11_years_17 rfl rfl 0 rfl ?_
      refine sm_getR (r := R a0 10) (q := 21) dX11_years_18 rfl fk_X11_65 hc7 (by decide) (by decide) rfl ?_
      refine sm_aload_n (q := 22) dX11_years_21 rfl rfl 0 rfl ?_
      refine sm_getR (r := R a0 3) (q := 25) dX11_years_22 rfl fk_X11_23 hc7 (by decide) (by decide) rfl ?_
      obtain ⟨hc9, h⟩ := sm_gd_e h
      refine sm_getR (r := R (R a0 3) 5) (q := 28) dX11_years_25 rfl fk_X11_132 hc9 (by decide) (by decide) rfl ?_
      obtain ⟨hc10, h⟩ := sm_gd_e h
      obtain ⟨p11, hc_p11, h⟩ := sm_bd_e h
      refine sm_callVv (q := 31) (As := [.inr (.inl (R (R a0 3) 5))]) (S := []) (e_X10_become hc_p11) mv_X11_347 hc10 rfl (by decide) (Nat.le_of_ble_eq_true rfl) dX11_years_28 rfl ?_
      refine sm_iconst (v := 0) (q := 32) dX11_years_31 rfl (by decide) ?_
      refine sm_istore (L' := [(4, .inl (0 : Int32)), (0, .inr (.inl a0)), (1, .inl a1), (2, .inl a2), (3, .inl a3)]) (q := 34) dX11_years_32 rfl (by decide) rfl ?_
      refine sm_pick [1, 3, 4, 0] rfl ?_
      exact w_X11_years_34 hl N R N _ _ _ _ _ _ h
    · obtain rfl := Option.some.inj h
      exact sm_callSX (E := E9) (As := [.inl a2, .inl (0 : Int32), .inl (60 : Int32)]) (S := []) (ex_X11_needBetween hl hc_p4) ms_X11_255 rfl (by decide) (Nat.le_of_ble_eq_true rfl) dX11_years_9
  · obtain rfl := Option.some.inj h
    exact sm_callSX (E := E9) (As := [.inl a3, .inl (2 : Int32)]) (S := []) (ex_X11_needWhat hl hc_p1) ms_X11_251 rfl (by decide) (Nat.le_of_ble_eq_true rfl) dX11_years_2
theorem e_X11_years {l : Launch} (hl : l.stackTraces = false) {N : Nat} {R : Nat → Nat → Nat} {a0 : Nat} {a1 : Int32} {a2 : Int32} {a3 : Int32} {I : (Nat → Nat → Int32)} {y : ((Int32 ⊕ String) × (Nat → Nat → Int32))} (h : f_X11_years N R a0 a1 a2 a3 I = some y) : sm_E l 5 mX11_years [.inr (.inl a0), .inl a1, .inl a2, .inl a3] (I, R) (sm_oI y.1) (y.2, R) :=
  sm_meth (by decide) (Nat.le_of_ble_eq_true rfl) (w_X11_years hl N R a0 a1 a2 a3 I y h)
theorem ek_X11_years {l : Launch} (hl : l.stackTraces = false) {N : Nat} {R : Nat → Nat → Nat} {a0 : Nat} {a1 : Int32} {a2 : Int32} {a3 : Int32} {I : (Nat → Nat → Int32)} {r : Int32} {J : (Nat → Nat → Int32)} (h : f_X11_years N R a0 a1 a2 a3 I = some (.inl r, J)) : sm_E l 5 mX11_years [.inr (.inl a0), .inl a1, .inl a2, .inl a3] (I, R) (.inl (some (.inl r))) (J, R) := by
  have h1 := e_X11_years (l := l) hl h
  exact h1
theorem ex_X11_years {l : Launch} (hl : l.stackTraces = false) {N : Nat} {R : Nat → Nat → Nat} {a0 : Nat} {a1 : Int32} {a2 : Int32} {a3 : Int32} {I : (Nat → Nat → Int32)} {E : String} {J : (Nat → Nat → Int32)} (h : f_X11_years N R a0 a1 a2 a3 I = some (.inr E, J)) : sm_E l 5 mX11_years [.inr (.inl a0), .inl a1, .inl a2, .inl a3] (I, R) (.inr E) (J, R) := by
  have h1 := e_X11_years (l := l) hl h
  exact h1
def f_X11_image (N : Nat) (R : Nat → Nat → Nat) : Nat → (Nat → Nat → Int32) → Option (Unit × (Nat → Nat → Int32)) := fun a0 I =>
  sm_gd (sm_kd a0 = (11, 16)) <|
  sm_gd (sm_kd (R a0 3) = (7, 9)) <|
  sm_gd (sm_kd (R a0 7) = (3, 5)) <|
  sm_gd (sm_kd (R (R a0 3) 5) = (10, 4)) <|
  (f_X10_write N R (R (R a0 3) 5) (R (R a0 7) 1) (0 : Int32) I).bind fun p5 =>
  sm_gd (sm_kd (R (R a0 7) 2) = (0, 3)) <|
  (f_X0_become N R (R (R a0 7) 2) (R a0 4) p5.2).bind fun p7 =>
  sm_gd (sm_kd (R (R a0 7) 3) = (9, 4)) <|
  (f_X9_become N R (R (R a0 7) 3) (R a0 5) p7.2).bind fun p9 =>
  sm_gd ((sm_kd (R a0 6)).1 = 13) <|
  sm_gd (((sm_kd (R a0 6)).1 = 13 ∧ (sm_kd (R (R a0 7) 4)).1 = 13) ∧ (¬ (0 : Int32) < 0 ∧ ¬ (0 : Int32) < 0 ∧ ¬ (Int32.ofNat (sm_kd (R a0 6)).2) < 0) ∧ ((0 : Int32)).toNatClampNeg + ((Int32.ofNat (sm_kd (R a0 6)).2)).toNatClampNeg ≤ (sm_kd (R a0 6)).2 ∧ ((0 : Int32)).toNatClampNeg + ((Int32.ofNat (sm_kd (R a0 6)).2)).toNatClampNeg ≤ (sm_kd (R (R a0 7) 4)).2) <|
  sm_lt (sm_up p9.2 (R (R a0 7) 4) (va_cpy (p9.2 (R a0 6)) (p9.2 (R (R a0 7) 4)) ((0 : Int32)).toNatClampNeg ((0 : Int32)).toNatClampNeg ((Int32.ofNat (sm_kd (R a0 6)).2)).toNatClampNeg)) fun I12 =>
  sm_lt (sm_up I12 (R a0 7) (sm_up (I12 (R a0 7)) 0 (1 : Int32))) fun I13 =>
  some ((), I13)
set_option maxHeartbeats 4000000 in
set_option maxRecDepth 100000 in
theorem w_X11_image {l : Launch} (N : Nat) (R : Nat → Nat → Nat) : ∀ (a0 : Nat) (I : (Nat → Nat → Int32)) (y : (Unit × (Nat → Nat → Int32))), f_X11_image N R a0 I = some y → sm_W l 2 mX11_image 0 [(0, .inr (.inl a0))] [] (I, R) (.inl none) (y.2, R) := by
  intro a0 I y h
  unfold f_X11_image at h
  refine sm_aload_n (q := 1) dX11_image_0 rfl rfl 0 rfl ?_
  obtain ⟨hc1, h⟩ := sm_gd_e h
  refine sm_getR (r := R a0 3) (q := 4) dX11_image_1 rfl fk_X11_23 hc1 (by decide) (by decide) rfl ?_
  obtain ⟨hc2, h⟩ := sm_gd_e h
  refine sm_getR (r := R (R a0 3) 5) (q := 7) dX11_image_4 rfl fk_X11_132 hc2 (by decide) (by decide) rfl ?_
  refine sm_aload_n (q := 8) dX11_image_7 rfl rfl 0 rfl ?_
  refine sm_getR (r := R a0 7) (q := 11) dX11_image_8 rfl fk_X11_48 hc1 (by decide) (by decide) rfl ?_
  obtain ⟨hc3, h⟩ := sm_gd_e h
  refine sm_getR (r := R (R a0 7) 1) (q := 14) dX11_image_11 rfl fk_X11_362 hc3 (by decide) (by decide) rfl ?_
  refine sm_iconst (v := 0) (q := 15) dX11_image_14 rfl (by decide) ?_
  obtain ⟨hc4, h⟩ := sm_gd_e h
  obtain ⟨p5, hc_p5, h⟩ := sm_bd_e h
  refine sm_callVv (q := 18) (As := [.inr (.inl (R (R a0 7) 1)), .inl (0 : Int32)]) (S := []) (e_X10_write hc_p5) mv_X11_365 hc4 rfl (by decide) (Nat.le_of_ble_eq_true rfl) dX11_image_15 rfl ?_
  refine sm_aload_n (q := 19) dX11_image_18 rfl rfl 0 rfl ?_
  refine sm_getR (r := R a0 7) (q := 22) dX11_image_19 rfl fk_X11_48 hc1 (by decide) (by decide) rfl ?_
  refine sm_getR (r := R (R a0 7) 2) (q := 25) dX11_image_22 rfl fk_X11_369 hc3 (by decide) (by decide) rfl ?_
  refine sm_aload_n (q := 26) dX11_image_25 rfl rfl 0 rfl ?_
  refine sm_getR (r := R a0 4) (q := 29) dX11_image_26 rfl fk_X11_30 hc1 (by decide) (by decide) rfl ?_
  obtain ⟨hc6, h⟩ := sm_gd_e h
  obtain ⟨p7, hc_p7, h⟩ := sm_bd_e h
  refine sm_callVv (q := 32) (As := [.inr (.inl (R a0 4))]) (S := []) (e_X0_become hc_p7) mv_X11_370 hc6 rfl (by decide) (Nat.le_of_ble_eq_true rfl) dX11_image_29 rfl ?_
  refine sm_aload_n (q := 33) dX11_image_32 rfl rfl 0 rfl ?_
  refine sm_getR (r := R a0 7) (q := 36) dX11_image_33 rfl fk_X11_48 hc1 (by decide) (by decide) rfl ?_
  refine sm_getR (r := R (R a0 7) 3) (q := 39) dX11_image_36 rfl fk_X11_373 hc3 (by decide) (by decide) rfl ?_
  refine sm_aload_n (q := 40) dX11_image_39 rfl rfl 0 rfl ?_
  refine sm_getR (r := R a0 5) (q := 43) dX11_image_40 rfl fk_X11_37 hc1 (by decide) (by decide) rfl ?_
  obtain ⟨hc8, h⟩ := sm_gd_e h
  obtain ⟨p9, hc_p9, h⟩ := sm_bd_e h
  refine sm_callVv (q := 46) (As := [.inr (.inl (R a0 5))]) (S := []) (e_X9_become hc_p9) mv_X11_374 hc8 rfl (by decide) (Nat.le_of_ble_eq_true rfl) dX11_image_43 rfl ?_
  refine sm_aload_n (q := 47) dX11_image_46 rfl rfl 0 rfl ?_
  refine sm_getR (r := R a0 6) (q := 50) dX11_image_47 rfl fk_X11_41 hc1 (by decide) (by decide) rfl ?_
  refine sm_iconst (v := 0) (q := 51) dX11_image_50 rfl (by decide) ?_
  refine sm_aload_n (q := 52) dX11_image_51 rfl rfl 0 rfl ?_
  refine sm_getR (r := R a0 7) (q := 55) dX11_image_52 rfl fk_X11_48 hc1 (by decide) (by decide) rfl ?_
  refine sm_getR (r := R (R a0 7) 4) (q := 58) dX11_image_55 rfl fk_X11_377 hc3 (by decide) (by decide) rfl ?_
  refine sm_iconst (v := 0) (q := 59) dX11_image_58 rfl (by decide) ?_
  refine sm_aload_n (q := 60) dX11_image_59 rfl rfl 0 rfl ?_
  refine sm_getR (r := R a0 6) (q := 63) dX11_image_60 rfl fk_X11_41 hc1 (by decide) (by decide) rfl ?_
  obtain ⟨hc10, h⟩ := sm_gd_e h
  refine sm_alenI (t := 0) (v := (Int32.ofNat (sm_kd (R a0 6)).2)) (q := 64) dX11_image_63 rfl (Prod.ext hc10 rfl) (by decide) rfl ?_
  obtain ⟨hc11, h⟩ := sm_gd_e h
  obtain ⟨I12, hI12, h⟩ := sm_lt_e h
  refine sm_copy (q := 67) dX11_image_64 rfl ac_X11_378 (Prod.ext hc11.1.1 rfl) (Prod.ext hc11.1.2 rfl) hc11.2.1.1 hc11.2.1.2.1 hc11.2.1.2.2 hc11.2.2.1 hc11.2.2.2 (Nat.le_of_ble_eq_true rfl) ?_
  refine sm_memI hI12 ?_
  refine sm_aload_n (q := 68) dX11_image_67 rfl rfl 0 rfl ?_
  refine sm_getR (r := R a0 7) (q := 71) dX11_image_68 rfl fk_X11_48 hc1 (by decide) (by decide) rfl ?_
  refine sm_iconst (v := 1) (q := 72) dX11_image_71 rfl (by decide) ?_
  obtain ⟨I13, hI13, h⟩ := sm_lt_e h
  refine sm_putZ (q := 75) dX11_image_72 rfl fk_X11_125 hc3 (by decide) (by decide) (by decide) ?_
  refine sm_memI hI13 ?_
  obtain rfl := Option.some.inj h
  exact sm_vret dX11_image_75 rfl
theorem e_X11_image {l : Launch} {N : Nat} {R : Nat → Nat → Nat} {a0 : Nat} {I : (Nat → Nat → Int32)} {y : (Unit × (Nat → Nat → Int32))} (h : f_X11_image N R a0 I = some y) : sm_E l 2 mX11_image [.inr (.inl a0)] (I, R) (.inl none) (y.2, R) :=
  sm_meth (by decide) (Nat.le_of_ble_eq_true rfl) (w_X11_image N R a0 I y h)
