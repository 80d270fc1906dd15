def f_X11_piecesDoneInDream_4 (N : Nat) (R : Nat → Nat → Nat) : Nat → Nat → Int32 → Int32 → (Nat → Nat → Int32) → Option (Int32 × (Nat → Nat → Int32))
  | 0, _, _, _, _ => none
  | n + 1, a0, a1, a2, I =>
    sm_gd (sm_kd a0 = (11, 18)) <|
    sm_gd (sm_kd (R a0 12) = (10, 4)) <|
    if (I (R a0 12) 1) ≤ a2 then (
      some (a1, I))
    else (
      sm_gd ((sm_kd (R (R a0 12) 0)).1 = 16 ∧ ¬ (a2 < 0 ∨ (sm_kd (R (R a0 12) 0)).2 ≤ (a2).toNatClampNeg)) <|
      sm_gd (sm_kd (R a0 3) = (7, 9)) <|
      (f_X7_isDone N R (R a0 3) (R (R (R a0 12) 0) (a2).toNatClampNeg) I).bind fun p6 =>
      if p6.1 = 0 then (
        f_X11_piecesDoneInDream_4 N R n a0 a1 (a2 + 1) p6.2)
      else (
        f_X11_piecesDoneInDream_4 N R n a0 (a1 + 1) (a2 + 1) p6.2))
def f_X11_piecesDoneInDream (N : Nat) (R : Nat → Nat → Nat) : Nat → (Nat → Nat → Int32) → Option (Int32 × (Nat → Nat → Int32)) := fun a0 I =>
  f_X11_piecesDoneInDream_4 N R N a0 (0 : Int32) (0 : Int32) I
set_option maxHeartbeats 4000000 in
set_option maxRecDepth 100000 in
theorem w_X11_piecesDoneInDream_4 {l : Launch} (N : Nat) (R : Nat → Nat → Nat) : ∀ (n : Nat) (a0 : Nat) (a1 : Int32) (a2 : Int32) (I : (Nat → Nat → Int32)) (y : (Int32 × (Nat → Nat → Int32))), f_X11_piecesDoneInDream_4 N R n a0 a1 a2 I = some y → sm_W l 2 mX11_piecesDoneInDream 4 [(0, .inr (.inl a0)), (1, .inl a1), (2, .inl a2)] [] (I, R) (.inl (some (.inl y.1))) (y.2, R) := by
  intro n
  induction n with
  | zero => intro a0 a1 a2 I y h; cases h
  | succ n ih =>
    intro a0 a1 a2 I y h
    rw [f_X11_piecesDoneInDream_4] at h
    refine sm_iload_n (q := 5) dX11_piecesDoneInDream_4 rfl rfl 2 rfl ?_
    refine sm_aload_n (q := 6) dX11_piecesDoneInDream_5 rfl rfl 0 rfl ?_
    obtain ⟨hc1, h⟩ := sm_gd_e h
    refine sm_getR (r := R a0 12) (q := 9) dX11_piecesDoneInDream_6 rfl fk_X11_74 hc1 (by decide) (by decide) rfl ?_
    obtain ⟨hc2, h⟩ := sm_gd_e h
    refine sm_getI (q := 12) dX11_piecesDoneInDream_9 rfl fk_X11_140 hc2 (by decide) (by decide) ?_
    rcases sm_if_e h with ⟨hb3, h⟩ | ⟨hb3, h⟩
    · refine sm_icmp_ge (tgt := 43) (q := 15) dX11_piecesDoneInDream_12 (by decide) rfl (fun _ => ?_) (fun hn => absurd hb3 hn)
      refine sm_iload_n (q := 44) dX11_piecesDoneInDream_43 rfl rfl 1 rfl ?_
      obtain rfl := Option.some.inj h
      exact sm_iret dX11_piecesDoneInDream_44 rfl
    · refine sm_icmp_ge (tgt := 43) (q := 15) dX11_piecesDoneInDream_12 (by decide) rfl (fun ht => absurd ht hb3) (fun _ => ?_)
      refine sm_aload_n (q := 16) dX11_piecesDoneInDream_15 rfl rfl 0 rfl ?_
      refine sm_getR (r := R a0 3) (q := 19) dX11_piecesDoneInDream_16 rfl fk_X11_20 hc1 (by decide) (by decide) rfl ?_
      refine sm_aload_n (q := 20) dX11_piecesDoneInDream_19 rfl rfl 0 rfl ?_
      refine sm_getR (r := R a0 12) (q := 23) dX11_piecesDoneInDream_20 rfl fk_X11_74 hc1 (by decide) (by decide) rfl ?_
      refine sm_getR (r := R (R a0 12) 0) (q := 26) dX11_piecesDoneInDream_23 rfl fk_X11_170 hc2 (by decide) (by decide) rfl ?_
      refine sm_iload_n (q := 27) dX11_piecesDoneInDream_26 rfl rfl 2 rfl ?_
      obtain ⟨hc4, h⟩ := sm_gd_e h
      refine sm_aald (t := 3) (n := (sm_kd (R (R a0 12) 0)).2) (q := 28) dX11_piecesDoneInDream_27 rfl (Prod.ext hc4.1 rfl) (Or.inl ⟨rfl, rfl⟩) hc4.2 rfl ?_
      obtain ⟨hc5, h⟩ := sm_gd_e h
      obtain ⟨p6, hc_p6, h⟩ := sm_bd_e h
      refine sm_callVi (q := 31) (As := [.inr (.inl (R (R (R a0 12) 0) (a2).toNatClampNeg))]) (S := []) (e_X7_isDone hc_p6) mv_X11_174 hc5 rfl (by decide) (Nat.le_of_ble_eq_true rfl) dX11_piecesDoneInDream_28 rfl ?_
      rcases sm_if_e h with ⟨hb7, h⟩ | ⟨hb7, h⟩
      · refine sm_if_eq (tgt := 37) (q := 34) dX11_piecesDoneInDream_31 (by decide) rfl (fun _ => ?_) (fun hn => absurd hb7 hn)
        refine sm_iinc (v := (a2 + 1)) (L' := [(2, .inl (a2 + 1)), (0, .inr (.inl a0)), (1, .inl a1)]) (q := 40) dX11_piecesDoneInDream_37 rfl 2 rfl rfl (by decide) rfl ?_
        refine sm_goto (q := 4) dX11_piecesDoneInDream_40 (by decide) ?_
        refine sm_pick [1, 2, 0] rfl ?_
        exact ih _ _ _ _ _ h
      · refine sm_if_eq (tgt := 37) (q := 34) dX11_piecesDoneInDream_31 (by decide) rfl (fun ht => absurd ht hb7) (fun _ => ?_)
        refine sm_iinc (v := (a1 + 1)) (L' := [(1, .inl (a1 + 1)), (0, .inr (.inl a0)), (2, .inl a2)]) (q := 37) dX11_piecesDoneInDream_34 rfl 1 rfl rfl (by decide) rfl ?_
        refine sm_iinc (v := (a2 + 1)) (L' := [(2, .inl (a2 + 1)), (1, .inl (a1 + 1)), (0, .inr (.inl a0))]) (q := 40) dX11_piecesDoneInDream_37 rfl 2 rfl rfl (by decide) rfl ?_
        refine sm_goto (q := 4) dX11_piecesDoneInDream_40 (by decide) ?_
        refine sm_pick [2, 1, 0] rfl ?_
        exact ih _ _ _ _ _ h
set_option maxHeartbeats 4000000 in
set_option maxRecDepth 100000 in
theorem w_X11_piecesDoneInDream {l : Launch} (N : Nat) (R : Nat → Nat → Nat) : ∀ (a0 : Nat) (I : (Nat → Nat → Int32)) (y : (Int32 × (Nat → Nat → Int32))), f_X11_piecesDoneInDream N R a0 I = some y → sm_W l 2 mX11_piecesDoneInDream 0 [(0, .inr (.inl a0))] [] (I, R) (.inl (some (.inl y.1))) (y.2, R) := by
  intro a0 I y h
  unfold f_X11_piecesDoneInDream at h
  refine sm_iconst (v := 0) (q := 1) dX11_piecesDoneInDream_0 rfl (by decide) ?_
  refine sm_istore_n (L' := [(1, .inl (0 : Int32)), (0, .inr (.inl a0))]) (q := 2) dX11_piecesDoneInDream_1 rfl rfl (by decide) rfl ?_
  refine sm_iconst (v := 0) (q := 3) dX11_piecesDoneInDream_2 rfl (by decide) ?_
  refine sm_istore_n (L' := [(2, .inl (0 : Int32)), (1, .inl (0 : Int32)), (0, .inr (.inl a0))]) (q := 4) dX11_piecesDoneInDream_3 rfl rfl (by decide) rfl ?_
  refine sm_pick [2, 1, 0] rfl ?_
  exact w_X11_piecesDoneInDream_4 N R N _ _ _ _ _ h
theorem e_X11_piecesDoneInDream {l : Launch} {N : Nat} {R : Nat → Nat → Nat} {a0 : Nat} {I : (Nat → Nat → Int32)} {y : (Int32 × (Nat → Nat → Int32))} (h : f_X11_piecesDoneInDream N R a0 I = some y) : sm_E l 2 mX11_piecesDoneInDream [.inr (.inl a0)] (I, R) (.inl (some (.inl y.1))) (y.2, R) :=
  sm_meth (by decide) (Nat.le_of_ble_eq_true rfl) (w_X11_piecesDoneInDream N R a0 I y h)
