def f_X11_done (N : Nat) (R : Nat → Nat → Nat) : Nat → Int32 → (Nat → Nat → Int32) → Option ((Int32 ⊕ String) × (Nat → Nat → Int32)) := fun a0 a1 I =>
  sm_gd (sm_kd a0 = (11, 18)) <|
  sm_tb (f_X11_needPupil N R a0 a1 I) fun r3 J4 =>
  (f_X11_weeksTillDone N R a0 r3 J4).bind fun p5 =>
  some (.inl p5.1, p5.2)
set_option maxHeartbeats 4000000 in
set_option maxRecDepth 100000 in
theorem w_X11_done {l : Launch} (hl : l.stackTraces = false) (N : Nat) (R : Nat → Nat → Nat) : ∀ (a0 : Nat) (a1 : Int32) (I : (Nat → Nat → Int32)) (y : ((Int32 ⊕ String) × (Nat → Nat → Int32))), f_X11_done N R a0 a1 I = some y → sm_W l 5 mX11_done 0 [(0, .inr (.inl a0)), (1, .inl a1)] [] (I, R) (sm_oI y.1) (y.2, R) := by
  intro a0 a1 I y h
  unfold f_X11_done at h
  refine sm_aload_n (q := 1) dX11_done_0 rfl rfl 0 rfl ?_
  refine sm_aload_n (q := 2) dX11_done_1 rfl rfl 0 rfl ?_
  refine sm_iload_n (q := 3) dX11_done_2 rfl rfl 1 rfl ?_
  obtain ⟨hc1, h⟩ := sm_gd_e h
  rcases sm_tb_e h with ⟨r3, J4, hc_p2, h⟩ | ⟨E9, J9, hc_p2, h⟩
  · refine sm_callVr (q := 6) (As := [.inl a1]) (S := [.inr (.inl a0)]) (ek_X11_needPupil hl hc_p2) mv_X11_198 hc1 rfl (by decide) (Nat.le_of_ble_eq_true rfl) dX11_done_3 rfl ?_
    obtain ⟨p5, hc_p5, h⟩ := sm_bd_e h
    refine sm_callVi (q := 9) (As := [.inr (.inl r3)]) (S := []) (e_X11_weeksTillDone hc_p5) mv_X11_264 hc1 rfl (by decide) (Nat.le_of_ble_eq_true rfl) dX11_done_6 rfl ?_
    obtain rfl := Option.some.inj h
    exact sm_iret dX11_done_9 rfl
  · obtain rfl := Option.some.inj h
    exact sm_callVX (E := E9) (As := [.inl a1]) (S := [.inr (.inl a0)]) (ex_X11_needPupil hl hc_p2) mv_X11_198 hc1 rfl (by decide) (Nat.le_of_ble_eq_true rfl) dX11_done_3
theorem e_X11_done {l : Launch} (hl : l.stackTraces = false) {N : Nat} {R : Nat → Nat → Nat} {a0 : Nat} {a1 : Int32} {I : (Nat → Nat → Int32)} {y : ((Int32 ⊕ String) × (Nat → Nat → Int32))} (h : f_X11_done N R a0 a1 I = some y) : sm_E l 5 mX11_done [.inr (.inl a0), .inl a1] (I, R) (sm_oI y.1) (y.2, R) :=
  sm_meth (by decide) (Nat.le_of_ble_eq_true rfl) (w_X11_done hl N R a0 a1 I y h)
theorem ek_X11_done {l : Launch} (hl : l.stackTraces = false) {N : Nat} {R : Nat → Nat → Nat} {a0 : Nat} {a1 : Int32} {I : (Nat → Nat → Int32)} {r : Int32} {J : (Nat → Nat → Int32)} (h : f_X11_done N R a0 a1 I = some (.inl r, J)) : sm_E l 5 mX11_done [.inr (.inl a0), .inl a1] (I, R) (.inl (some (.inl r))) (J, R) := by
  have h1 := e_X11_done (l := l) hl h
  exact h1
theorem ex_X11_done {l : Launch} (hl : l.stackTraces = false) {N : Nat} {R : Nat → Nat → Nat} {a0 : Nat} {a1 : Int32} {I : (Nat → Nat → Int32)} {E : String} {J : (Nat → Nat → Int32)} (h : f_X11_done N R a0 a1 I = some (.inr E, J)) : sm_E l 5 mX11_done [.inr (.inl a0), .inl a1] (I, R) (.inr E) (J, R) := by
  have h1 := e_X11_done (l := l) hl h
  exact h1
