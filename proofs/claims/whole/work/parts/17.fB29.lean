def f_X11_weeksWithAway_5 (N : Nat) (R : Nat → Nat → Nat) : Nat → Nat → Int32 → Int32 → Int32 → Int32 → (Nat → Nat → Int32) → Option (Int32 × (Nat → Nat → Int32))
  | 0, _, _, _, _, _, _ => none
  | n + 1, a0, a1, a2, a3, a4, I =>
    if a1 < a4 then (
      some (a3, I))
    else (
      sm_gd (sm_kd a0 = (11, 18)) <|
      sm_gd (sm_kd (R a0 3) = (7, 9)) <|
      sm_gd (sm_kd (R (R a0 3) 5) = (10, 4)) <|
      (f_X10_awayIn N R (R (R a0 3) 5) a4 I).bind fun p5 =>
      if p5.1 = a2 then (
        f_X11_weeksWithAway_5 N R n a0 a1 a2 (a3 + 1) (a4 + 1) p5.2)
      else (
        f_X11_weeksWithAway_5 N R n a0 a1 a2 a3 (a4 + 1) p5.2))
def f_X11_weeksWithAway (N : Nat) (R : Nat → Nat → Nat) : Nat → Int32 → Int32 → (Nat → Nat → Int32) → Option (Int32 × (Nat → Nat → Int32)) := fun a0 a1 a2 I =>
  f_X11_weeksWithAway_5 N R N a0 a1 a2 (0 : Int32) (1 : Int32) I
set_option maxHeartbeats 4000000 in
set_option maxRecDepth 100000 in
theorem w_X11_weeksWithAway_5 {l : Launch} (N : Nat) (R : Nat → Nat → Nat) : ∀ (n : Nat) (a0 : Nat) (a1 : Int32) (a2 : Int32) (a3 : Int32) (a4 : Int32) (I : (Nat → Nat → Int32)) (y : (Int32 × (Nat → Nat → Int32))), f_X11_weeksWithAway_5 N R n a0 a1 a2 a3 a4 I = some y → sm_W l 2 mX11_weeksWithAway 5 [(0, .inr (.inl a0)), (1, .inl a1), (2, .inl a2), (3, .inl a3), (4, .inl a4)] [] (I, R) (.inl (some (.inl y.1))) (y.2, R) := by
  intro n
  induction n with
  | zero => intro a0 a1 a2 a3 a4 I y h; cases h
  | succ n ih =>
    intro a0 a1 a2 a3 a4 I y h
    rw [f_X11_weeksWithAway_5] at h
    refine sm_iload (q := 7) dX11_weeksWithAway_5 rfl 4 rfl ?_
    refine sm_iload_n (q := 8) dX11_weeksWithAway_7 rfl rfl 1 rfl ?_
    rcases sm_if_e h with ⟨hb1, h⟩ | ⟨hb1, h⟩
    · refine sm_icmp_gt (tgt := 36) (q := 11) dX11_weeksWithAway_8 (by decide) rfl (fun _ => ?_) (fun hn => absurd hb1 hn)
      refine sm_iload_n (q := 37) dX11_weeksWithAway_36 rfl rfl 3 rfl ?_
      obtain rfl := Option.some.inj h
      exact sm_iret dX11_weeksWithAway_37 rfl
    · refine sm_icmp_gt (tgt := 36) (q := 11) dX11_weeksWithAway_8 (by decide) rfl (fun ht => absurd ht hb1) (fun _ => ?_)
      refine sm_aload_n (q := 12) dX11_weeksWithAway_11 rfl rfl 0 rfl ?_
      obtain ⟨hc2, h⟩ := sm_gd_e h
      refine sm_getR (r := R a0 3) (q := 15) dX11_weeksWithAway_12 rfl fk_X11_20 hc2 (by decide) (by decide) rfl ?_
      obtain ⟨hc3, h⟩ := sm_gd_e h
      refine sm_getR (r := R (R a0 3) 5) (q := 18) dX11_weeksWithAway_15 rfl fk_X11_137 hc3 (by decide) (by decide) rfl ?_
      refine sm_iload (q := 20) dX11_weeksWithAway_18 rfl 4 rfl ?_
      obtain ⟨hc4, h⟩ := sm_gd_e h
      obtain ⟨p5, hc_p5, h⟩ := sm_bd_e h
      refine sm_callVi (q := 23) (As := [.inl a4]) (S := []) (e_X10_awayIn hc_p5) mv_X11_149 hc4 rfl (by decide) (Nat.le_of_ble_eq_true rfl) dX11_weeksWithAway_20 rfl ?_
      refine sm_iload_n (q := 24) dX11_weeksWithAway_23 rfl rfl 2 rfl ?_
      rcases sm_if_e h with ⟨hb6, h⟩ | ⟨hb6, h⟩
      · refine sm_icmp_ne (tgt := 30) (q := 27) dX11_weeksWithAway_24 (by decide) rfl (fun hn => absurd hb6 hn) (fun _ => ?_)
        refine sm_iinc (v := (a3 + 1)) (L' := [(3, .inl (a3 + 1)), (0, .inr (.inl a0)), (1, .inl a1), (2, .inl a2), (4, .inl a4)]) (q := 30) dX11_weeksWithAway_27 rfl 3 rfl rfl (by decide) rfl ?_
        refine sm_iinc (v := (a4 + 1)) (L' := [(4, .inl (a4 + 1)), (3, .inl (a3 + 1)), (0, .inr (.inl a0)), (1, .inl a1), (2, .inl a2)]) (q := 33) dX11_weeksWithAway_30 rfl 4 rfl rfl (by decide) rfl ?_
        refine sm_goto (q := 5) dX11_weeksWithAway_33 (by decide) ?_
        refine sm_pick [2, 3, 4, 1, 0] rfl ?_
        exact ih _ _ _ _ _ _ _ h
      · refine sm_icmp_ne (tgt := 30) (q := 27) dX11_weeksWithAway_24 (by decide) rfl (fun _ => ?_) (fun he => absurd he hb6)
        refine sm_iinc (v := (a4 + 1)) (L' := [(4, .inl (a4 + 1)), (0, .inr (.inl a0)), (1, .inl a1), (2, .inl a2), (3, .inl a3)]) (q := 33) dX11_weeksWithAway_30 rfl 4 rfl rfl (by decide) rfl ?_
        refine sm_goto (q := 5) dX11_weeksWithAway_33 (by decide) ?_
        refine sm_pick [1, 2, 3, 4, 0] rfl ?_
        exact ih _ _ _ _ _ _ _ h
set_option maxHeartbeats 4000000 in
set_option maxRecDepth 100000 in
theorem w_X11_weeksWithAway {l : Launch} (N : Nat) (R : Nat → Nat → Nat) : ∀ (a0 : Nat) (a1 : Int32) (a2 : Int32) (I : (Nat → Nat → Int32)) (y : (Int32 × (Nat → Nat → Int32))), f_X11_weeksWithAway N R a0 a1 a2 I = some y → sm_W l 2 mX11_weeksWithAway 0 [(0, .inr (.inl a0)), (1, .inl a1), (2, .inl a2)] [] (I, R) (.inl (some (.inl y.1))) (y.2, R) := by
  intro a0 a1 a2 I y h
  unfold f_X11_weeksWithAway at h
  refine sm_iconst (v := 0) (q := 1) dX11_weeksWithAway_0 rfl (by decide) ?_
  refine sm_istore_n (L' := [(3, .inl (0 : Int32)), (0, .inr (.inl a0)), (1, .inl a1), (2, .inl a2)]) (q := 2) dX11_weeksWithAway_1 rfl rfl (by decide) rfl ?_
  refine sm_iconst (v := 1) (q := 3) dX11_weeksWithAway_2 rfl (by decide) ?_
  refine sm_istore (L' := [(4, .inl (1 : Int32)), (3, .inl (0 : Int32)), (0, .inr (.inl a0)), (1, .inl a1), (2, .inl a2)]) (q := 5) dX11_weeksWithAway_3 rfl (by decide) rfl ?_
  refine sm_pick [2, 3, 4, 1, 0] rfl ?_
  exact w_X11_weeksWithAway_5 N R N _ _ _ _ _ _ _ h
theorem e_X11_weeksWithAway {l : Launch} {N : Nat} {R : Nat → Nat → Nat} {a0 : Nat} {a1 : Int32} {a2 : Int32} {I : (Nat → Nat → Int32)} {y : (Int32 × (Nat → Nat → Int32))} (h : f_X11_weeksWithAway N R a0 a1 a2 I = some y) : sm_E l 2 mX11_weeksWithAway [.inr (.inl a0), .inl a1, .inl a2] (I, R) (.inl (some (.inl y.1))) (y.2, R) :=
  sm_meth (by decide) (Nat.le_of_ble_eq_true rfl) (w_X11_weeksWithAway N R a0 a1 a2 I y h)
