def f_X11_putFour_3 (N : Nat) (R : Nat → Nat → Nat) : Nat → Nat → Int32 → Int32 → (Nat → Nat → Int32) → Option (Unit × (Nat → Nat → Int32))
  | 0, _, _, _, _ => none
  | n + 1, a0, a1, a2, I =>
    if a2 < 0 then (
      some ((), I))
    else (
      sm_gd (sm_kd a0 = (11, 18)) <|
      if (700 : Int32) ≤ (I a0 1) then (
        some ((), I))
      else (
        sm_gd ((sm_kd (R a0 0)).1 = 14 ∧ ¬ ((I a0 1) < 0 ∨ (sm_kd (R a0 0)).2 ≤ ((I a0 1)).toNatClampNeg)) <|
        sm_lt (sm_up I (R a0 0) (sm_up (I (R a0 0)) ((I a0 1)).toNatClampNeg (sm_i8 (sm_i8 (sm_us a1 a2))))) fun I5 =>
        sm_lt (sm_up I5 a0 (sm_up (I5 a0) 1 ((I5 a0 1) + (1 : Int32)))) fun I6 =>
        f_X11_putFour_3 N R n a0 a1 (a2 + (-8)) I6))
def f_X11_putFour (N : Nat) (R : Nat → Nat → Nat) : Nat → Int32 → (Nat → Nat → Int32) → Option (Unit × (Nat → Nat → Int32)) := fun a0 a1 I =>
  f_X11_putFour_3 N R N a0 a1 (24 : Int32) I
set_option maxHeartbeats 4000000 in
set_option maxRecDepth 100000 in
theorem w_X11_putFour_3 {l : Launch} (N : Nat) (R : Nat → Nat → Nat) : ∀ (n : Nat) (a0 : Nat) (a1 : Int32) (a2 : Int32) (I : (Nat → Nat → Int32)) (y : (Unit × (Nat → Nat → Int32))), f_X11_putFour_3 N R n a0 a1 a2 I = some y → sm_W l 0 mX11_putFour 3 [(0, .inr (.inl a0)), (1, .inl a1), (2, .inl a2)] [] (I, R) (.inl none) (y.2, R) := by
  intro n
  induction n with
  | zero => intro a0 a1 a2 I y h; cases h
  | succ n ih =>
    intro a0 a1 a2 I y h
    rw [f_X11_putFour_3] at h
    refine sm_iload_n (q := 4) dX11_putFour_3 rfl rfl 2 rfl ?_
    rcases sm_if_e h with ⟨hb1, h⟩ | ⟨hb1, h⟩
    · refine sm_if_lt (tgt := 46) (q := 7) dX11_putFour_4 (by decide) rfl (fun _ => ?_) (fun hn => absurd hb1 hn)
      obtain rfl := Option.some.inj h
      exact sm_vret dX11_putFour_46 rfl
    · refine sm_if_lt (tgt := 46) (q := 7) dX11_putFour_4 (by decide) rfl (fun ht => absurd ht hb1) (fun _ => ?_)
      refine sm_aload_n (q := 8) dX11_putFour_7 rfl rfl 0 rfl ?_
      obtain ⟨hc2, h⟩ := sm_gd_e h
      refine sm_getI (q := 11) dX11_putFour_8 rfl fk_X11_102 hc2 (by decide) (by decide) ?_
      refine sm_sipush (v := 700) (q := 14) dX11_putFour_11 rfl (by decide) ?_
      rcases sm_if_e h with ⟨hb3, h⟩ | ⟨hb3, h⟩
      · refine sm_icmp_ge (tgt := 46) (q := 17) dX11_putFour_14 (by decide) rfl (fun _ => ?_) (fun hn => absurd hb3 hn)
        obtain rfl := Option.some.inj h
        exact sm_vret dX11_putFour_46 rfl
      · refine sm_icmp_ge (tgt := 46) (q := 17) dX11_putFour_14 (by decide) rfl (fun ht => absurd ht hb3) (fun _ => ?_)
        refine sm_aload_n (q := 18) dX11_putFour_17 rfl rfl 0 rfl ?_
        refine sm_getR (r := R a0 0) (q := 21) dX11_putFour_18 rfl fk_X11_9 hc2 (by decide) (by decide) rfl ?_
        refine sm_aload_n (q := 22) dX11_putFour_21 rfl rfl 0 rfl ?_
        refine sm_getI (q := 25) dX11_putFour_22 rfl fk_X11_102 hc2 (by decide) (by decide) ?_
        refine sm_iload_n (q := 26) dX11_putFour_25 rfl rfl 1 rfl ?_
        refine sm_iload_n (q := 27) dX11_putFour_26 rfl rfl 2 rfl ?_
        refine sm_iushr (v := (sm_us a1 a2)) (q := 28) dX11_putFour_27 rfl rfl ?_
        refine sm_i2b (v := (sm_i8 (sm_us a1 a2))) (q := 29) dX11_putFour_28 rfl rfl ?_
        obtain ⟨hc4, h⟩ := sm_gd_e h
        obtain ⟨I5, hI5, h⟩ := sm_lt_e h
        refine sm_bast (n := (sm_kd (R a0 0)).2) (q := 30) dX11_putFour_29 rfl (Prod.ext hc4.1 rfl) hc4.2 ?_
        refine sm_memI hI5 ?_
        refine sm_aload_n (q := 31) dX11_putFour_30 rfl rfl 0 rfl ?_
        refine sm_dup (q := 32) dX11_putFour_31 rfl rfl ?_
        refine sm_getI (q := 35) dX11_putFour_32 rfl fk_X11_102 hc2 (by decide) (by decide) ?_
        refine sm_iconst (v := 1) (q := 36) dX11_putFour_35 rfl (by decide) ?_
        refine sm_iadd (q := 37) dX11_putFour_36 rfl ?_
        obtain ⟨I6, hI6, h⟩ := sm_lt_e h
        refine sm_putI (q := 40) dX11_putFour_37 rfl fk_X11_102 hc2 (by decide) (by decide) ?_
        refine sm_memI hI6 ?_
        refine sm_iinc (v := (a2 + (-8))) (L' := [(2, .inl (a2 + (-8))), (0, .inr (.inl a0)), (1, .inl a1)]) (q := 43) dX11_putFour_40 rfl 2 rfl rfl (by decide) rfl ?_
        refine sm_goto (q := 3) dX11_putFour_43 (by decide) ?_
        refine sm_pick [1, 2, 0] rfl ?_
        exact ih _ _ _ _ _ h
set_option maxHeartbeats 4000000 in
set_option maxRecDepth 100000 in
theorem w_X11_putFour {l : Launch} (N : Nat) (R : Nat → Nat → Nat) : ∀ (a0 : Nat) (a1 : Int32) (I : (Nat → Nat → Int32)) (y : (Unit × (Nat → Nat → Int32))), f_X11_putFour N R a0 a1 I = some y → sm_W l 0 mX11_putFour 0 [(0, .inr (.inl a0)), (1, .inl a1)] [] (I, R) (.inl none) (y.2, R) := by
  intro a0 a1 I y h
  unfold f_X11_putFour at h
  refine sm_bipush (v := 24) (q := 2) dX11_putFour_0 rfl (by decide) ?_
  refine sm_istore_n (L' := [(2, .inl (24 : Int32)), (0, .inr (.inl a0)), (1, .inl a1)]) (q := 3) dX11_putFour_2 rfl rfl (by decide) rfl ?_
  refine sm_pick [1, 2, 0] rfl ?_
  exact w_X11_putFour_3 N R N _ _ _ _ _ h
theorem e_X11_putFour {l : Launch} {N : Nat} {R : Nat → Nat → Nat} {a0 : Nat} {a1 : Int32} {I : (Nat → Nat → Int32)} {y : (Unit × (Nat → Nat → Int32))} (h : f_X11_putFour N R a0 a1 I = some y) : sm_E l 0 mX11_putFour [.inr (.inl a0), .inl a1] (I, R) (.inl none) (y.2, R) :=
  sm_meth (by decide) (Nat.le_of_ble_eq_true rfl) (w_X11_putFour N R a0 a1 I y h)
