def f_X11_nobody (N : Nat) (R : Nat → Nat → Nat) : Nat → Int32 → (Nat → Nat → Int32) → Option ((Int32 ⊕ String) × (Nat → Nat → Int32)) := fun a0 a1 I =>
  sm_tb (f_X11_needBetween N R a1 (1 : Int32) (30 : Int32) I) fun r2 J3 =>
  sm_gd (sm_kd a0 = (11, 18)) <|
  sm_gd (sm_kd (R a0 3) = (7, 9)) <|
  sm_gd (sm_kd (R (R a0 3) 5) = (10, 4)) <|
  if (J3 (R (R a0 3) 5) 1) = 0 then (
    some (.inl (0 : Int32), J3))
  else (
    (f_X11_weeksWithAway N R a0 a1 (((1 : Int32) <<< ((J3 (R (R a0 3) 5) 1) &&& 31)) - (1 : Int32)) J3).bind fun p8 =>
    some (.inl p8.1, p8.2))
set_option maxHeartbeats 4000000 in
set_option maxRecDepth 100000 in
theorem w_X11_nobody {l : Launch} (hl : l.stackTraces = false) (N : Nat) (R : Nat → Nat → Nat) : ∀ (a0 : Nat) (a1 : Int32) (I : (Nat → Nat → Int32)) (y : ((Int32 ⊕ String) × (Nat → Nat → Int32))), f_X11_nobody N R a0 a1 I = some y → sm_W l 3 mX11_nobody 0 [(0, .inr (.inl a0)), (1, .inl a1)] [] (I, R) (sm_oI y.1) (y.2, R) := by
  intro a0 a1 I y h
  unfold f_X11_nobody at h
  refine sm_iload_n (q := 1) dX11_nobody_0 rfl rfl 1 rfl ?_
  refine sm_iconst (v := 1) (q := 2) dX11_nobody_1 rfl (by decide) ?_
  refine sm_bipush (v := 30) (q := 4) dX11_nobody_2 rfl (by decide) ?_
  rcases sm_tb_e h with ⟨r2, J3, hc_p1, h⟩ | ⟨E9, J9, hc_p1, h⟩
  · refine sm_callSv (q := 7) (As := [.inl a1, .inl (1 : Int32), .inl (30 : Int32)]) (S := []) (ek_X11_needBetween hl hc_p1) ms_X11_260 rfl (by decide) (Nat.le_of_ble_eq_true rfl) dX11_nobody_4 rfl ?_
    refine sm_aload_n (q := 8) dX11_nobody_7 rfl rfl 0 rfl ?_
    obtain ⟨hc4, h⟩ := sm_gd_e h
    refine sm_getR (r := R a0 3) (q := 11) dX11_nobody_8 rfl fk_X11_20 hc4 (by decide) (by decide) rfl ?_
    obtain ⟨hc5, h⟩ := sm_gd_e h
    refine sm_getR (r := R (R a0 3) 5) (q := 14) dX11_nobody_11 rfl fk_X11_137 hc5 (by decide) (by decide) rfl ?_
    obtain ⟨hc6, h⟩ := sm_gd_e h
    refine sm_getI (q := 17) dX11_nobody_14 rfl fk_X11_140 hc6 (by decide) (by decide) ?_
    refine sm_istore_n (L' := [(2, .inl (J3 (R (R a0 3) 5) 1)), (0, .inr (.inl a0)), (1, .inl a1)]) (q := 18) dX11_nobody_17 rfl rfl (by decide) rfl ?_
    refine sm_iload_n (q := 19) dX11_nobody_18 rfl rfl 0 rfl ?_
    rcases sm_if_e h with ⟨hb7, h⟩ | ⟨hb7, h⟩
    · refine sm_if_ne (tgt := 26) (q := 22) dX11_nobody_19 (by decide) rfl (fun hn => absurd hb7 hn) (fun _ => ?_)
      refine sm_iconst (v := 0) (q := 23) dX11_nobody_22 rfl (by decide) ?_
      refine sm_goto (q := 36) dX11_nobody_23 (by decide) ?_
      obtain rfl := Option.some.inj h
      exact sm_iret dX11_nobody_36 rfl
    · refine sm_if_ne (tgt := 26) (q := 22) dX11_nobody_19 (by decide) rfl (fun _ => ?_) (fun he => absurd he hb7)
      refine sm_aload_n (q := 27) dX11_nobody_26 rfl rfl 1 rfl ?_
      refine sm_iload_n (q := 28) dX11_nobody_27 rfl rfl 2 rfl ?_
      refine sm_iconst (v := 1) (q := 29) dX11_nobody_28 rfl (by decide) ?_
      refine sm_iload_n (q := 30) dX11_nobody_29 rfl rfl 0 rfl ?_
      refine sm_ishl (q := 31) dX11_nobody_30 rfl ?_
      refine sm_iconst (v := 1) (q := 32) dX11_nobody_31 rfl (by decide) ?_
      refine sm_isub (q := 33) dX11_nobody_32 rfl ?_
      obtain ⟨p8, hc_p8, h⟩ := sm_bd_e h
      refine sm_callVi (q := 36) (As := [.inl a1, .inl (((1 : Int32) <<< ((J3 (R (R a0 3) 5) 1) &&& 31)) - (1 : Int32))]) (S := []) (e_X11_weeksWithAway hc_p8) mv_X11_274 hc4 rfl (by decide) (Nat.le_of_ble_eq_true rfl) dX11_nobody_33 rfl ?_
      obtain rfl := Option.some.inj h
      exact sm_iret dX11_nobody_36 rfl
  · obtain rfl := Option.some.inj h
    exact sm_callSX (E := E9) (As := [.inl a1, .inl (1 : Int32), .inl (30 : Int32)]) (S := []) (ex_X11_needBetween hl hc_p1) ms_X11_260 rfl (by decide) (Nat.le_of_ble_eq_true rfl) dX11_nobody_4
theorem e_X11_nobody {l : Launch} (hl : l.stackTraces = false) {N : Nat} {R : Nat → Nat → Nat} {a0 : Nat} {a1 : Int32} {I : (Nat → Nat → Int32)} {y : ((Int32 ⊕ String) × (Nat → Nat → Int32))} (h : f_X11_nobody N R a0 a1 I = some y) : sm_E l 3 mX11_nobody [.inr (.inl a0), .inl a1] (I, R) (sm_oI y.1) (y.2, R) :=
  sm_meth (by decide) (Nat.le_of_ble_eq_true rfl) (w_X11_nobody hl N R a0 a1 I y h)
theorem ek_X11_nobody {l : Launch} (hl : l.stackTraces = false) {N : Nat} {R : Nat → Nat → Nat} {a0 : Nat} {a1 : Int32} {I : (Nat → Nat → Int32)} {r : Int32} {J : (Nat → Nat → Int32)} (h : f_X11_nobody N R a0 a1 I = some (.inl r, J)) : sm_E l 3 mX11_nobody [.inr (.inl a0), .inl a1] (I, R) (.inl (some (.inl r))) (J, R) := by
  have h1 := e_X11_nobody (l := l) hl h
  exact h1
theorem ex_X11_nobody {l : Launch} (hl : l.stackTraces = false) {N : Nat} {R : Nat → Nat → Nat} {a0 : Nat} {a1 : Int32} {I : (Nat → Nat → Int32)} {E : String} {J : (Nat → Nat → Int32)} (h : f_X11_nobody N R a0 a1 I = some (.inr E, J)) : sm_E l 3 mX11_nobody [.inr (.inl a0), .inl a1] (I, R) (.inr E) (J, R) := by
  have h1 := e_X11_nobody (l := l) hl h
  exact h1
