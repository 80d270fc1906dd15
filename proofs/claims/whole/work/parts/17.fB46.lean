def f_X11_full (N : Nat) (R : Nat → Nat → Nat) : Nat → Int32 → (Nat → Nat → Int32) → Option ((Int32 ⊕ String) × (Nat → Nat → Int32)) := fun a0 a1 I =>
  sm_tb (f_X11_needBetween N R a1 (1 : Int32) (30 : Int32) I) fun r2 J3 =>
  sm_gd (sm_kd a0 = (11, 18)) <|
  sm_gd (sm_kd (R a0 3) = (7, 9)) <|
  sm_gd (sm_kd (R (R a0 3) 5) = (10, 4)) <|
  (f_X10_awayIn N R (R (R a0 3) 5) a1 J3).bind fun p7 =>
  some (.inl p7.1, p7.2)
set_option maxHeartbeats 4000000 in
set_option maxRecDepth 100000 in
theorem w_X11_full {l : Launch} (hl : l.stackTraces = false) (N : Nat) (R : Nat → Nat → Nat) : ∀ (a0 : Nat) (a1 : Int32) (I : (Nat → Nat → Int32)) (y : ((Int32 ⊕ String) × (Nat → Nat → Int32))), f_X11_full N R a0 a1 I = some y → sm_W l 2 mX11_full 0 [(0, .inr (.inl a0)), (1, .inl a1)] [] (I, R) (sm_oI y.1) (y.2, R) := by
  intro a0 a1 I y h
  unfold f_X11_full at h
  refine sm_iload_n (q := 1) dX11_full_0 rfl rfl 1 rfl ?_
  refine sm_iconst (v := 1) (q := 2) dX11_full_1 rfl (by decide) ?_
  refine sm_bipush (v := 30) (q := 4) dX11_full_2 rfl (by decide) ?_
  rcases sm_tb_e h with ⟨r2, J3, hc_p1, h⟩ | ⟨E9, J9, hc_p1, h⟩
  · refine sm_callSv (q := 7) (As := [.inl a1, .inl (1 : Int32), .inl (30 : Int32)]) (S := []) (ek_X11_needBetween hl hc_p1) ms_X11_260 rfl (by decide) (Nat.le_of_ble_eq_true rfl) dX11_full_4 rfl ?_
    refine sm_aload_n (q := 8) dX11_full_7 rfl rfl 0 rfl ?_
    obtain ⟨hc4, h⟩ := sm_gd_e h
    refine sm_getR (r := R a0 3) (q := 11) dX11_full_8 rfl fk_X11_20 hc4 (by decide) (by decide) rfl ?_
    obtain ⟨hc5, h⟩ := sm_gd_e h
    refine sm_getR (r := R (R a0 3) 5) (q := 14) dX11_full_11 rfl fk_X11_137 hc5 (by decide) (by decide) rfl ?_
    refine sm_iload_n (q := 15) dX11_full_14 rfl rfl 1 rfl ?_
    obtain ⟨hc6, h⟩ := sm_gd_e h
    obtain ⟨p7, hc_p7, h⟩ := sm_bd_e h
    refine sm_callVi (q := 18) (As := [.inl a1]) (S := []) (e_X10_awayIn hc_p7) mv_X11_149 hc6 rfl (by decide) (Nat.le_of_ble_eq_true rfl) dX11_full_15 rfl ?_
    obtain rfl := Option.some.inj h
    exact sm_iret dX11_full_18 rfl
  · obtain rfl := Option.some.inj h
    exact sm_callSX (E := E9) (As := [.inl a1, .inl (1 : Int32), .inl (30 : Int32)]) (S := []) (ex_X11_needBetween hl hc_p1) ms_X11_260 rfl (by decide) (Nat.le_of_ble_eq_true rfl) dX11_full_4
theorem e_X11_full {l : Launch} (hl : l.stackTraces = false) {N : Nat} {R : Nat → Nat → Nat} {a0 : Nat} {a1 : Int32} {I : (Nat → Nat → Int32)} {y : ((Int32 ⊕ String) × (Nat → Nat → Int32))} (h : f_X11_full N R a0 a1 I = some y) : sm_E l 2 mX11_full [.inr (.inl a0), .inl a1] (I, R) (sm_oI y.1) (y.2, R) :=
  sm_meth (by decide) (Nat.le_of_ble_eq_true rfl) (w_X11_full hl N R a0 a1 I y h)
theorem ek_X11_full {l : Launch} (hl : l.stackTraces = false) {N : Nat} {R : Nat → Nat → Nat} {a0 : Nat} {a1 : Int32} {I : (Nat → Nat → Int32)} {r : Int32} {J : (Nat → Nat → Int32)} (h : f_X11_full N R a0 a1 I = some (.inl r, J)) : sm_E l 2 mX11_full [.inr (.inl a0), .inl a1] (I, R) (.inl (some (.inl r))) (J, R) := by
  have h1 := e_X11_full (l := l) hl h
  exact h1
theorem ex_X11_full {l : Launch} (hl : l.stackTraces = false) {N : Nat} {R : Nat → Nat → Nat} {a0 : Nat} {a1 : Int32} {I : (Nat → Nat → Int32)} {E : String} {J : (Nat → Nat → Int32)} (h : f_X11_full N R a0 a1 I = some (.inr E, J)) : sm_E l 2 mX11_full [.inr (.inl a0), .inl a1] (I, R) (.inr E) (J, R) := by
  have h1 := e_X11_full (l := l) hl h
  exact h1
