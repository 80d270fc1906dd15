def f_X11_hardest_20 (N : Nat) (R : Nat → Nat → Nat) (k_6 : Nat → Int32 → Int32 → Int32 → (Nat → Nat → Int32) → Option (Int32 × (Nat → Nat → Int32))) : Nat → Nat → Int32 → Int32 → Int32 → Int32 → (Nat → Nat → Int32) → Option (Int32 × (Nat → Nat → Int32))
  | 0, _, _, _, _, _, _ => none
  | n + 1, a0, a1, a2, a3, a4, I =>
    sm_gd (sm_kd a0 = (11, 18)) <|
    sm_gd (sm_kd (R a0 3) = (7, 9)) <|
    sm_gd ((sm_kd (R (R a0 3) 0)).1 = 13 ∧ ¬ (a3 < 0 ∨ (sm_kd (R (R a0 3) 0)).2 ≤ (a3).toNatClampNeg)) <|
    if (I (R (R a0 3) 0) (a3).toNatClampNeg) ≤ a4 then (
      k_6 a0 a1 a2 (a3 + 1) I)
    else (
      (f_X7_hardOf N R (R a0 3) a3 a4 I).bind fun p5 =>
      if p5.1 ≤ a2 then (
        f_X11_hardest_20 N R k_6 n a0 a1 a2 a3 (a4 + 1) p5.2)
      else (
        (f_X7_hardOf N R (R a0 3) a3 a4 p5.2).bind fun p7 =>
        f_X11_hardest_20 N R k_6 n a0 a3 p7.1 a3 (a4 + 1) p7.2))
def f_X11_hardest_6 (N : Nat) (R : Nat → Nat → Nat) : Nat → Nat → Int32 → Int32 → Int32 → (Nat → Nat → Int32) → Option (Int32 × (Nat → Nat → Int32))
  | 0, _, _, _, _, _ => none
  | n + 1, a0, a1, a2, a3, I =>
    sm_gd (sm_kd a0 = (11, 18)) <|
    sm_gd (sm_kd (R a0 3) = (7, 9)) <|
    if (I (R a0 3) 3) ≤ a3 then (
      some (a1, I))
    else (
      f_X11_hardest_20 N R (fun z0 z1 z2 z3 J => f_X11_hardest_6 N R n z0 z1 z2 z3 J) N a0 a1 a2 a3 (0 : Int32) I)
def f_X11_hardest (N : Nat) (R : Nat → Nat → Nat) : Nat → (Nat → Nat → Int32) → Option (Int32 × (Nat → Nat → Int32)) := fun a0 I =>
  f_X11_hardest_6 N R N a0 (-1 : Int32) (0 : Int32) (0 : Int32) I
set_option maxHeartbeats 4000000 in
set_option maxRecDepth 100000 in
theorem w_X11_hardest_20 {l : Launch} (N : Nat) (R : Nat → Nat → Nat) (k_6 : Nat → Int32 → Int32 → Int32 → (Nat → Nat → Int32) → Option (Int32 × (Nat → Nat → Int32))) (hk_6 : ∀ (a0 : Nat) (a1 : Int32) (a2 : Int32) (a3 : Int32) (I : (Nat → Nat → Int32)) (y : (Int32 × (Nat → Nat → Int32))), k_6 a0 a1 a2 a3 I = some y → sm_W l 1 mX11_hardest 6 [(0, .inr (.inl a0)), (1, .inl a1), (2, .inl a2), (3, .inl a3)] [] (I, R) (.inl (some (.inl y.1))) (y.2, R)) : ∀ (n : Nat) (a0 : Nat) (a1 : Int32) (a2 : Int32) (a3 : Int32) (a4 : Int32) (I : (Nat → Nat → Int32)) (y : (Int32 × (Nat → Nat → Int32))), f_X11_hardest_20 N R k_6 n a0 a1 a2 a3 a4 I = some y → sm_W l 1 mX11_hardest 20 [(0, .inr (.inl a0)), (1, .inl a1), (2, .inl a2), (3, .inl a3), (4, .inl a4)] [] (I, R) (.inl (some (.inl y.1))) (y.2, R) := by
  intro n
  induction n with
  | zero => intro a0 a1 a2 a3 a4 I y h; cases h
  | succ n ih =>
    intro a0 a1 a2 a3 a4 I y h
    rw [f_X11_hardest_20] at h
    refine sm_iload (q := 22) dX11_hardest_20 rfl 4 rfl ?_
    refine sm_aload_n (q := 23) dX11_hardest_22 rfl rfl 0 rfl ?_
    obtain ⟨hc1, h⟩ := sm_gd_e h
    refine sm_getR (r := R a0 3) (q := 26) dX11_hardest_23 rfl fk_X11_20 hc1 (by decide) (by decide) rfl ?_
    obtain ⟨hc2, h⟩ := sm_gd_e h
    refine sm_getR (r := R (R a0 3) 0) (q := 29) dX11_hardest_26 rfl fk_X11_181 hc2 (by decide) (by decide) rfl ?_
    refine sm_iload_n (q := 30) dX11_hardest_29 rfl rfl 3 rfl ?_
    obtain ⟨hc3, h⟩ := sm_gd_e h
    refine sm_iald (n := (sm_kd (R (R a0 3) 0)).2) (q := 31) dX11_hardest_30 rfl (Prod.ext hc3.1 rfl) hc3.2 ?_
    rcases sm_if_e h with ⟨hb4, h⟩ | ⟨hb4, h⟩
    · refine sm_icmp_ge (tgt := 67) (q := 34) dX11_hardest_31 (by decide) rfl (fun _ => ?_) (fun hn => absurd hb4 hn)
      refine sm_iinc (v := (a3 + 1)) (L' := [(3, .inl (a3 + 1)), (0, .inr (.inl a0)), (1, .inl a1), (2, .inl a2), (4, .inl a4)]) (q := 70) dX11_hardest_67 rfl 3 rfl rfl (by decide) rfl ?_
      refine sm_goto (q := 6) dX11_hardest_70 (by decide) ?_
      refine sm_pick [1, 2, 3, 0] rfl ?_
      exact hk_6 _ _ _ _ _ _ h
    · refine sm_icmp_ge (tgt := 67) (q := 34) dX11_hardest_31 (by decide) rfl (fun ht => absurd ht hb4) (fun _ => ?_)
      refine sm_aload_n (q := 35) dX11_hardest_34 rfl rfl 0 rfl ?_
      refine sm_getR (r := R a0 3) (q := 38) dX11_hardest_35 rfl fk_X11_20 hc1 (by decide) (by decide) rfl ?_
      refine sm_iload_n (q := 39) dX11_hardest_38 rfl rfl 3 rfl ?_
      refine sm_iload (q := 41) dX11_hardest_39 rfl 4 rfl ?_
      obtain ⟨p5, hc_p5, h⟩ := sm_bd_e h
      refine sm_callVi (q := 44) (As := [.inl a3, .inl a4]) (S := []) (e_X7_hardOf hc_p5) mv_X11_194 hc2 rfl (by decide) (Nat.le_of_ble_eq_true rfl) dX11_hardest_41 rfl ?_
      refine sm_iload_n (q := 45) dX11_hardest_44 rfl rfl 2 rfl ?_
      rcases sm_if_e h with ⟨hb6, h⟩ | ⟨hb6, h⟩
      · refine sm_icmp_le (tgt := 61) (q := 48) dX11_hardest_45 (by decide) rfl (fun _ => ?_) (fun hn => absurd hb6 hn)
        refine sm_iinc (v := (a4 + 1)) (L' := [(4, .inl (a4 + 1)), (0, .inr (.inl a0)), (1, .inl a1), (2, .inl a2), (3, .inl a3)]) (q := 64) dX11_hardest_61 rfl 4 rfl rfl (by decide) rfl ?_
        refine sm_goto (q := 20) dX11_hardest_64 (by decide) ?_
        refine sm_pick [1, 2, 3, 4, 0] rfl ?_
        exact ih _ _ _ _ _ _ _ h
      · refine sm_icmp_le (tgt := 61) (q := 48) dX11_hardest_45 (by decide) rfl (fun ht => absurd ht hb6) (fun _ => ?_)
        refine sm_aload_n (q := 49) dX11_hardest_48 rfl rfl 0 rfl ?_
        refine sm_getR (r := R a0 3) (q := 52) dX11_hardest_49 rfl fk_X11_20 hc1 (by decide) (by decide) rfl ?_
        refine sm_iload_n (q := 53) dX11_hardest_52 rfl rfl 3 rfl ?_
        refine sm_iload (q := 55) dX11_hardest_53 rfl 4 rfl ?_
        obtain ⟨p7, hc_p7, h⟩ := sm_bd_e h
        refine sm_callVi (q := 58) (As := [.inl a3, .inl a4]) (S := []) (e_X7_hardOf hc_p7) mv_X11_194 hc2 rfl (by decide) (Nat.le_of_ble_eq_true rfl) dX11_hardest_55 rfl ?_
        refine sm_istore_n (L' := [(2, .inl p7.1), (0, .inr (.inl a0)), (1, .inl a1), (3, .inl a3), (4, .inl a4)]) (q := 59) dX11_hardest_58 rfl rfl (by decide) rfl ?_
        refine sm_iload_n (q := 60) dX11_hardest_59 rfl rfl 3 rfl ?_
        refine sm_istore_n (L' := [(1, .inl a3), (2, .inl p7.1), (0, .inr (.inl a0)), (3, .inl a3), (4, .inl a4)]) (q := 61) dX11_hardest_60 rfl rfl (by decide) rfl ?_
        refine sm_iinc (v := (a4 + 1)) (L' := [(4, .inl (a4 + 1)), (1, .inl a3), (2, .inl p7.1), (0, .inr (.inl a0)), (3, .inl a3)]) (q := 64) dX11_hardest_61 rfl 4 rfl rfl (by decide) rfl ?_
        refine sm_goto (q := 20) dX11_hardest_64 (by decide) ?_
        refine sm_pick [3, 1, 2, 4, 0] rfl ?_
        exact ih _ _ _ _ _ _ _ h
set_option maxHeartbeats 4000000 in
set_option maxRecDepth 100000 in
theorem w_X11_hardest_6 {l : Launch} (N : Nat) (R : Nat → Nat → Nat) : ∀ (n : Nat) (a0 : Nat) (a1 : Int32) (a2 : Int32) (a3 : Int32) (I : (Nat → Nat → Int32)) (y : (Int32 × (Nat → Nat → Int32))), f_X11_hardest_6 N R n a0 a1 a2 a3 I = some y → sm_W l 1 mX11_hardest 6 [(0, .inr (.inl a0)), (1, .inl a1), (2, .inl a2), (3, .inl a3)] [] (I, R) (.inl (some (.inl y.1))) (y.2, R) := by
  intro n
  induction n with
  | zero => intro a0 a1 a2 a3 I y h; cases h
  | succ n ih =>
    intro a0 a1 a2 a3 I y h
    rw [f_X11_hardest_6] at h
    refine sm_iload_n (q := 7) dX11_hardest_6 rfl rfl 3 rfl ?_
    refine sm_aload_n (q := 8) dX11_hardest_7 rfl rfl 0 rfl ?_
    obtain ⟨hc1, h⟩ := sm_gd_e h
    refine sm_getR (r := R a0 3) (q := 11) dX11_hardest_8 rfl fk_X11_20 hc1 (by decide) (by decide) rfl ?_
    obtain ⟨hc2, h⟩ := sm_gd_e h
    refine sm_getI (q := 14) dX11_hardest_11 rfl fk_X11_134 hc2 (by decide) (by decide) ?_
    rcases sm_if_e h with ⟨hb3, h⟩ | ⟨hb3, h⟩
    · refine sm_icmp_ge (tgt := 73) (q := 17) dX11_hardest_14 (by decide) rfl (fun _ => ?_) (fun hn => absurd hb3 hn)
      refine sm_iload_n (q := 74) dX11_hardest_73 rfl rfl 1 rfl ?_
      obtain rfl := Option.some.inj h
      exact sm_iret dX11_hardest_74 rfl
    · refine sm_icmp_ge (tgt := 73) (q := 17) dX11_hardest_14 (by decide) rfl (fun ht => absurd ht hb3) (fun _ => ?_)
      refine sm_iconst (v := 0) (q := 18) dX11_hardest_17 rfl (by decide) ?_
      refine sm_istore (L' := [(4, .inl (0 : Int32)), (0, .inr (.inl a0)), (1, .inl a1), (2, .inl a2), (3, .inl a3)]) (q := 20) dX11_hardest_18 rfl (by decide) rfl ?_
      refine sm_pick [1, 2, 3, 4, 0] rfl ?_
      exact w_X11_hardest_20 N R (fun z0 z1 z2 z3 J => f_X11_hardest_6 N R n z0 z1 z2 z3 J) (fun z0 z1 z2 z3 J y h => ih z0 z1 z2 z3 J y h) N _ _ _ _ _ _ _ h
set_option maxHeartbeats 4000000 in
set_option maxRecDepth 100000 in
theorem w_X11_hardest {l : Launch} (N : Nat) (R : Nat → Nat → Nat) : ∀ (a0 : Nat) (I : (Nat → Nat → Int32)) (y : (Int32 × (Nat → Nat → Int32))), f_X11_hardest N R a0 I = some y → sm_W l 1 mX11_hardest 0 [(0, .inr (.inl a0))] [] (I, R) (.inl (some (.inl y.1))) (y.2, R) := by
  intro a0 I y h
  unfold f_X11_hardest at h
  refine sm_iconst (v := -1) (q := 1) dX11_hardest_0 rfl (by decide) ?_
  refine sm_istore_n (L' := [(1, .inl (-1 : Int32)), (0, .inr (.inl a0))]) (q := 2) dX11_hardest_1 rfl rfl (by decide) rfl ?_
  refine sm_iconst (v := 0) (q := 3) dX11_hardest_2 rfl (by decide) ?_
  refine sm_istore_n (L' := [(2, .inl (0 : Int32)), (1, .inl (-1 : Int32)), (0, .inr (.inl a0))]) (q := 4) dX11_hardest_3 rfl rfl (by decide) rfl ?_
  refine sm_iconst (v := 0) (q := 5) dX11_hardest_4 rfl (by decide) ?_
  refine sm_istore_n (L' := [(3, .inl (0 : Int32)), (2, .inl (0 : Int32)), (1, .inl (-1 : Int32)), (0, .inr (.inl a0))]) (q := 6) dX11_hardest_5 rfl rfl (by decide) rfl ?_
  refine sm_pick [3, 2, 1, 0] rfl ?_
  exact w_X11_hardest_6 N R N _ _ _ _ _ _ h
theorem e_X11_hardest {l : Launch} {N : Nat} {R : Nat → Nat → Nat} {a0 : Nat} {I : (Nat → Nat → Int32)} {y : (Int32 × (Nat → Nat → Int32))} (h : f_X11_hardest N R a0 I = some y) : sm_E l 1 mX11_hardest [.inr (.inl a0)] (I, R) (.inl (some (.inl y.1))) (y.2, R) :=
  sm_meth (by decide) (Nat.le_of_ble_eq_true rfl) (w_X11_hardest N R a0 I y h)
