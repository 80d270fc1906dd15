def f_X11_sorest (N : Nat) (R : Nat → Nat → Nat) : Nat → Int32 → (Nat → Nat → Int32) → Option ((Int32 ⊕ String) × (Nat → Nat → Int32)) := fun a0 a1 I =>
  sm_tb (f_X11_needBetween N R a1 (0 : Int32) (60 : Int32) I) fun r2 J3 =>
  sm_gd (sm_kd a0 = (11, 18)) <|
  (f_X11_whoHasMost N R a0 a1 (1 : Int32) J3).bind fun p5 =>
  some (.inl p5.1, p5.2)
set_option maxHeartbeats 4000000 in
set_option maxRecDepth 100000 in
theorem w_X11_sorest {l : Launch} (hl : l.stackTraces = false) (N : Nat) (R : Nat → Nat → Nat) : ∀ (a0 : Nat) (a1 : Int32) (I : (Nat → Nat → Int32)) (y : ((Int32 ⊕ String) × (Nat → Nat → Int32))), f_X11_sorest N R a0 a1 I = some y → sm_W l 5 mX11_sorest 0 [(0, .inr (.inl a0)), (1, .inl a1)] [] (I, R) (sm_oI y.1) (y.2, R) := by
  intro a0 a1 I y h
  unfold f_X11_sorest at h
  refine sm_iload_n (q := 1) dX11_sorest_0 rfl rfl 1 rfl ?_
  refine sm_iconst (v := 0) (q := 2) dX11_sorest_1 rfl (by decide) ?_
  refine sm_bipush (v := 60) (q := 4) dX11_sorest_2 rfl (by decide) ?_
  rcases sm_tb_e h with ⟨r2, J3, hc_p1, h⟩ | ⟨E9, J9, hc_p1, h⟩
  · refine sm_callSv (q := 7) (As := [.inl a1, .inl (0 : Int32), .inl (60 : Int32)]) (S := []) (ek_X11_needBetween hl hc_p1) ms_X11_260 rfl (by decide) (Nat.le_of_ble_eq_true rfl) dX11_sorest_4 rfl ?_
    refine sm_aload_n (q := 8) dX11_sorest_7 rfl rfl 0 rfl ?_
    refine sm_iload_n (q := 9) dX11_sorest_8 rfl rfl 1 rfl ?_
    refine sm_iconst (v := 1) (q := 10) dX11_sorest_9 rfl (by decide) ?_
    obtain ⟨hc4, h⟩ := sm_gd_e h
    obtain ⟨p5, hc_p5, h⟩ := sm_bd_e h
    refine sm_callVi (q := 13) (As := [.inl a1, .inl (1 : Int32)]) (S := []) (e_X11_whoHasMost hc_p5) mv_X11_267 hc4 rfl (by decide) (Nat.le_of_ble_eq_true rfl) dX11_sorest_10 rfl ?_
    obtain rfl := Option.some.inj h
    exact sm_iret dX11_sorest_13 rfl
  · obtain rfl := Option.some.inj h
    exact sm_callSX (E := E9) (As := [.inl a1, .inl (0 : Int32), .inl (60 : Int32)]) (S := []) (ex_X11_needBetween hl hc_p1) ms_X11_260 rfl (by decide) (Nat.le_of_ble_eq_true rfl) dX11_sorest_4
theorem e_X11_sorest {l : Launch} (hl : l.stackTraces = false) {N : Nat} {R : Nat → Nat → Nat} {a0 : Nat} {a1 : Int32} {I : (Nat → Nat → Int32)} {y : ((Int32 ⊕ String) × (Nat → Nat → Int32))} (h : f_X11_sorest N R a0 a1 I = some y) : sm_E l 5 mX11_sorest [.inr (.inl a0), .inl a1] (I, R) (sm_oI y.1) (y.2, R) :=
  sm_meth (by decide) (Nat.le_of_ble_eq_true rfl) (w_X11_sorest hl N R a0 a1 I y h)
theorem ek_X11_sorest {l : Launch} (hl : l.stackTraces = false) {N : Nat} {R : Nat → Nat → Nat} {a0 : Nat} {a1 : Int32} {I : (Nat → Nat → Int32)} {r : Int32} {J : (Nat → Nat → Int32)} (h : f_X11_sorest N R a0 a1 I = some (.inl r, J)) : sm_E l 5 mX11_sorest [.inr (.inl a0), .inl a1] (I, R) (.inl (some (.inl r))) (J, R) := by
  have h1 := e_X11_sorest (l := l) hl h
  exact h1
theorem ex_X11_sorest {l : Launch} (hl : l.stackTraces = false) {N : Nat} {R : Nat → Nat → Nat} {a0 : Nat} {a1 : Int32} {I : (Nat → Nat → Int32)} {E : String} {J : (Nat → Nat → Int32)} (h : f_X11_sorest N R a0 a1 I = some (.inr E, J)) : sm_E l 5 mX11_sorest [.inr (.inl a0), .inl a1] (I, R) (.inr E) (J, R) := by
  have h1 := e_X11_sorest (l := l) hl h
  exact h1
