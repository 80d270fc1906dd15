def f_X11_free (N : Nat) (R : Nat → Nat → Nat) : Nat → Int32 → (Nat → Nat → Int32) → Option ((Int32 ⊕ String) × (Nat → Nat → Int32)) := fun a0 a1 I =>
  sm_gd (sm_kd a0 = (11, 18)) <|
  sm_gd (sm_kd (R a0 3) = (7, 9)) <|
  sm_tb (f_X11_needPupil N R a0 a1 I) fun r4 J5 =>
  sm_gd (sm_kd (R (R a0 3) 5) = (10, 4)) <|
  (f_X10_openTo N R (R (R a0 3) 5) r4 J5).bind fun p7 =>
  some (.inl p7.1, p7.2)
set_option maxHeartbeats 4000000 in
set_option maxRecDepth 100000 in
theorem w_X11_free {l : Launch} (hl : l.stackTraces = false) (N : Nat) (R : Nat → Nat → Nat) : ∀ (a0 : Nat) (a1 : Int32) (I : (Nat → Nat → Int32)) (y : ((Int32 ⊕ String) × (Nat → Nat → Int32))), f_X11_free N R a0 a1 I = some y → sm_W l 5 mX11_free 0 [(0, .inr (.inl a0)), (1, .inl a1)] [] (I, R) (sm_oI y.1) (y.2, R) := by
  intro a0 a1 I y h
  unfold f_X11_free at h
  refine sm_aload_n (q := 1) dX11_free_0 rfl rfl 0 rfl ?_
  obtain ⟨hc1, h⟩ := sm_gd_e h
  refine sm_getR (r := R a0 3) (q := 4) dX11_free_1 rfl fk_X11_20 hc1 (by decide) (by decide) rfl ?_
  obtain ⟨hc2, h⟩ := sm_gd_e h
  refine sm_getR (r := R (R a0 3) 5) (q := 7) dX11_free_4 rfl fk_X11_137 hc2 (by decide) (by decide) rfl ?_
  refine sm_aload_n (q := 8) dX11_free_7 rfl rfl 0 rfl ?_
  refine sm_iload_n (q := 9) dX11_free_8 rfl rfl 1 rfl ?_
  rcases sm_tb_e h with ⟨r4, J5, hc_p3, h⟩ | ⟨E9, J9, hc_p3, h⟩
  · refine sm_callVr (q := 12) (As := [.inl a1]) (S := [.inr (.inl (R (R a0 3) 5))]) (ek_X11_needPupil hl hc_p3) mv_X11_198 hc1 rfl (by decide) (Nat.le_of_ble_eq_true rfl) dX11_free_9 rfl ?_
    obtain ⟨hc6, h⟩ := sm_gd_e h
    obtain ⟨p7, hc_p7, h⟩ := sm_bd_e h
    refine sm_callVi (q := 15) (As := [.inr (.inl r4)]) (S := []) (e_X10_openTo hc_p7) mv_X11_271 hc6 rfl (by decide) (Nat.le_of_ble_eq_true rfl) dX11_free_12 rfl ?_
    obtain rfl := Option.some.inj h
    exact sm_iret dX11_free_15 rfl
  · obtain rfl := Option.some.inj h
    exact sm_callVX (E := E9) (As := [.inl a1]) (S := [.inr (.inl (R (R a0 3) 5))]) (ex_X11_needPupil hl hc_p3) mv_X11_198 hc1 rfl (by decide) (Nat.le_of_ble_eq_true rfl) dX11_free_9
theorem e_X11_free {l : Launch} (hl : l.stackTraces = false) {N : Nat} {R : Nat → Nat → Nat} {a0 : Nat} {a1 : Int32} {I : (Nat → Nat → Int32)} {y : ((Int32 ⊕ String) × (Nat → Nat → Int32))} (h : f_X11_free N R a0 a1 I = some y) : sm_E l 5 mX11_free [.inr (.inl a0), .inl a1] (I, R) (sm_oI y.1) (y.2, R) :=
  sm_meth (by decide) (Nat.le_of_ble_eq_true rfl) (w_X11_free hl N R a0 a1 I y h)
theorem ek_X11_free {l : Launch} (hl : l.stackTraces = false) {N : Nat} {R : Nat → Nat → Nat} {a0 : Nat} {a1 : Int32} {I : (Nat → Nat → Int32)} {r : Int32} {J : (Nat → Nat → Int32)} (h : f_X11_free N R a0 a1 I = some (.inl r, J)) : sm_E l 5 mX11_free [.inr (.inl a0), .inl a1] (I, R) (.inl (some (.inl r))) (J, R) := by
  have h1 := e_X11_free (l := l) hl h
  exact h1
theorem ex_X11_free {l : Launch} (hl : l.stackTraces = false) {N : Nat} {R : Nat → Nat → Nat} {a0 : Nat} {a1 : Int32} {I : (Nat → Nat → Int32)} {E : String} {J : (Nat → Nat → Int32)} (h : f_X11_free N R a0 a1 I = some (.inr E, J)) : sm_E l 5 mX11_free [.inr (.inl a0), .inl a1] (I, R) (.inr E) (J, R) := by
  have h1 := e_X11_free (l := l) hl h
  exact h1
