def f_X11_whoseIsDone_4 (N : Nat) (R : Nat → Nat → Nat) : Nat → Nat → Int32 → Int32 → (Nat → Nat → Int32) → Option (Int32 × (Nat → Nat → Int32))
  | 0, _, _, _, _ => none
  | n + 1, a0, a1, a2, I =>
    sm_gd (sm_kd a0 = (11, 18)) <|
    sm_gd (sm_kd (R a0 3) = (7, 9)) <|
    sm_gd (sm_kd (R (R a0 3) 5) = (10, 4)) <|
    if (I (R (R a0 3) 5) 1) ≤ a2 then (
      some (a1, I))
    else (
      sm_gd ((sm_kd (R (R (R a0 3) 5) 0)).1 = 16 ∧ ¬ (a2 < 0 ∨ (sm_kd (R (R (R a0 3) 5) 0)).2 ≤ (a2).toNatClampNeg)) <|
      (f_X7_isDone N R (R a0 3) (R (R (R (R a0 3) 5) 0) (a2).toNatClampNeg) I).bind fun p6 =>
      if p6.1 = 0 then (
        f_X11_whoseIsDone_4 N R n a0 a1 (a2 + 1) p6.2)
      else (
        f_X11_whoseIsDone_4 N R n a0 (a1 ||| ((1 : Int32) <<< (a2 &&& 31))) (a2 + 1) p6.2))
def f_X11_whoseIsDone (N : Nat) (R : Nat → Nat → Nat) : Nat → (Nat → Nat → Int32) → Option (Int32 × (Nat → Nat → Int32)) := fun a0 I =>
  f_X11_whoseIsDone_4 N R N a0 (0 : Int32) (0 : Int32) I
set_option maxHeartbeats 4000000 in
set_option maxRecDepth 100000 in
theorem w_X11_whoseIsDone_4 {l : Launch} (N : Nat) (R : Nat → Nat → Nat) : ∀ (n : Nat) (a0 : Nat) (a1 : Int32) (a2 : Int32) (I : (Nat → Nat → Int32)) (y : (Int32 × (Nat → Nat → Int32))), f_X11_whoseIsDone_4 N R n a0 a1 a2 I = some y → sm_W l 2 mX11_whoseIsDone 4 [(0, .inr (.inl a0)), (1, .inl a1), (2, .inl a2)] [] (I, R) (.inl (some (.inl y.1))) (y.2, R) := by
  intro n
  induction n with
  | zero => intro a0 a1 a2 I y h; cases h
  | succ n ih =>
    intro a0 a1 a2 I y h
    rw [f_X11_whoseIsDone_4] at h
    refine sm_iload_n (q := 5) dX11_whoseIsDone_4 rfl rfl 2 rfl ?_
    refine sm_aload_n (q := 6) dX11_whoseIsDone_5 rfl rfl 0 rfl ?_
    obtain ⟨hc1, h⟩ := sm_gd_e h
    refine sm_getR (r := R a0 3) (q := 9) dX11_whoseIsDone_6 rfl fk_X11_20 hc1 (by decide) (by decide) rfl ?_
    obtain ⟨hc2, h⟩ := sm_gd_e h
    refine sm_getR (r := R (R a0 3) 5) (q := 12) dX11_whoseIsDone_9 rfl fk_X11_137 hc2 (by decide) (by decide) rfl ?_
    obtain ⟨hc3, h⟩ := sm_gd_e h
    refine sm_getI (q := 15) dX11_whoseIsDone_12 rfl fk_X11_140 hc3 (by decide) (by decide) ?_
    rcases sm_if_e h with ⟨hb4, h⟩ | ⟨hb4, h⟩
    · refine sm_icmp_ge (tgt := 52) (q := 18) dX11_whoseIsDone_15 (by decide) rfl (fun _ => ?_) (fun hn => absurd hb4 hn)
      refine sm_iload_n (q := 53) dX11_whoseIsDone_52 rfl rfl 1 rfl ?_
      obtain rfl := Option.some.inj h
      exact sm_iret dX11_whoseIsDone_53 rfl
    · refine sm_icmp_ge (tgt := 52) (q := 18) dX11_whoseIsDone_15 (by decide) rfl (fun ht => absurd ht hb4) (fun _ => ?_)
      refine sm_aload_n (q := 19) dX11_whoseIsDone_18 rfl rfl 0 rfl ?_
      refine sm_getR (r := R a0 3) (q := 22) dX11_whoseIsDone_19 rfl fk_X11_20 hc1 (by decide) (by decide) rfl ?_
      refine sm_aload_n (q := 23) dX11_whoseIsDone_22 rfl rfl 0 rfl ?_
      refine sm_getR (r := R a0 3) (q := 26) dX11_whoseIsDone_23 rfl fk_X11_20 hc1 (by decide) (by decide) rfl ?_
      refine sm_getR (r := R (R a0 3) 5) (q := 29) dX11_whoseIsDone_26 rfl fk_X11_137 hc2 (by decide) (by decide) rfl ?_
      refine sm_getR (r := R (R (R a0 3) 5) 0) (q := 32) dX11_whoseIsDone_29 rfl fk_X11_170 hc3 (by decide) (by decide) rfl ?_
      refine sm_iload_n (q := 33) dX11_whoseIsDone_32 rfl rfl 2 rfl ?_
      obtain ⟨hc5, h⟩ := sm_gd_e h
      refine sm_aald (t := 3) (n := (sm_kd (R (R (R a0 3) 5) 0)).2) (q := 34) dX11_whoseIsDone_33 rfl (Prod.ext hc5.1 rfl) (Or.inl ⟨rfl, rfl⟩) hc5.2 rfl ?_
      obtain ⟨p6, hc_p6, h⟩ := sm_bd_e h
      refine sm_callVi (q := 37) (As := [.inr (.inl (R (R (R (R a0 3) 5) 0) (a2).toNatClampNeg))]) (S := []) (e_X7_isDone hc_p6) mv_X11_174 hc2 rfl (by decide) (Nat.le_of_ble_eq_true rfl) dX11_whoseIsDone_34 rfl ?_
      rcases sm_if_e h with ⟨hb7, h⟩ | ⟨hb7, h⟩
      · refine sm_if_eq (tgt := 46) (q := 40) dX11_whoseIsDone_37 (by decide) rfl (fun _ => ?_) (fun hn => absurd hb7 hn)
        refine sm_iinc (v := (a2 + 1)) (L' := [(2, .inl (a2 + 1)), (0, .inr (.inl a0)), (1, .inl a1)]) (q := 49) dX11_whoseIsDone_46 rfl 2 rfl rfl (by decide) rfl ?_
        refine sm_goto (q := 4) dX11_whoseIsDone_49 (by decide) ?_
        refine sm_pick [1, 2, 0] rfl ?_
        exact ih _ _ _ _ _ h
      · refine sm_if_eq (tgt := 46) (q := 40) dX11_whoseIsDone_37 (by decide) rfl (fun ht => absurd ht hb7) (fun _ => ?_)
        refine sm_iload_n (q := 41) dX11_whoseIsDone_40 rfl rfl 1 rfl ?_
        refine sm_iconst (v := 1) (q := 42) dX11_whoseIsDone_41 rfl (by decide) ?_
        refine sm_iload_n (q := 43) dX11_whoseIsDone_42 rfl rfl 2 rfl ?_
        refine sm_ishl (q := 44) dX11_whoseIsDone_43 rfl ?_
        refine sm_ior (q := 45) dX11_whoseIsDone_44 rfl ?_
        refine sm_istore_n (L' := [(1, .inl (a1 ||| ((1 : Int32) <<< (a2 &&& 31)))), (0, .inr (.inl a0)), (2, .inl a2)]) (q := 46) dX11_whoseIsDone_45 rfl rfl (by decide) rfl ?_
        refine sm_iinc (v := (a2 + 1)) (L' := [(2, .inl (a2 + 1)), (1, .inl (a1 ||| ((1 : Int32) <<< (a2 &&& 31)))), (0, .inr (.inl a0))]) (q := 49) dX11_whoseIsDone_46 rfl 2 rfl rfl (by decide) rfl ?_
        refine sm_goto (q := 4) dX11_whoseIsDone_49 (by decide) ?_
        refine sm_pick [2, 1, 0] rfl ?_
        exact ih _ _ _ _ _ h
set_option maxHeartbeats 4000000 in
set_option maxRecDepth 100000 in
theorem w_X11_whoseIsDone {l : Launch} (N : Nat) (R : Nat → Nat → Nat) : ∀ (a0 : Nat) (I : (Nat → Nat → Int32)) (y : (Int32 × (Nat → Nat → Int32))), f_X11_whoseIsDone N R a0 I = some y → sm_W l 2 mX11_whoseIsDone 0 [(0, .inr (.inl a0))] [] (I, R) (.inl (some (.inl y.1))) (y.2, R) := by
  intro a0 I y h
  unfold f_X11_whoseIsDone at h
  refine sm_iconst (v := 0) (q := 1) dX11_whoseIsDone_0 rfl (by decide) ?_
  refine sm_istore_n (L' := [(1, .inl (0 : Int32)), (0, .inr (.inl a0))]) (q := 2) dX11_whoseIsDone_1 rfl rfl (by decide) rfl ?_
  refine sm_iconst (v := 0) (q := 3) dX11_whoseIsDone_2 rfl (by decide) ?_
  refine sm_istore_n (L' := [(2, .inl (0 : Int32)), (1, .inl (0 : Int32)), (0, .inr (.inl a0))]) (q := 4) dX11_whoseIsDone_3 rfl rfl (by decide) rfl ?_
  refine sm_pick [2, 1, 0] rfl ?_
  exact w_X11_whoseIsDone_4 N R N _ _ _ _ _ h
theorem e_X11_whoseIsDone {l : Launch} {N : Nat} {R : Nat → Nat → Nat} {a0 : Nat} {I : (Nat → Nat → Int32)} {y : (Int32 × (Nat → Nat → Int32))} (h : f_X11_whoseIsDone N R a0 I = some y) : sm_E l 2 mX11_whoseIsDone [.inr (.inl a0)] (I, R) (.inl (some (.inl y.1))) (y.2, R) :=
  sm_meth (by decide) (Nat.le_of_ble_eq_true rfl) (w_X11_whoseIsDone N R a0 I y h)
