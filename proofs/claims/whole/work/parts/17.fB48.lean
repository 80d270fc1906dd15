def f_X11_common (N : Nat) (R : Nat → Nat → Nat) : Nat → Int32 → Int32 → (Nat → Nat → Int32) → Option ((Int32 ⊕ String) × (Nat → Nat → Int32)) := fun a0 a1 a2 I =>
  sm_gd (sm_kd a0 = (11, 18)) <|
  sm_tb (f_X11_needPiece N R a0 a1 I) fun r3 J4 =>
  sm_tb (f_X11_needPiece N R a0 a2 J4) fun r6 J7 =>
  sm_gd (sm_kd (R a0 3) = (7, 9)) <|
  (f_X7_longestCommonRow N R (R a0 3) a1 a2 J7).bind fun p9 =>
  some (.inl p9.1, p9.2)
set_option maxHeartbeats 4000000 in
set_option maxRecDepth 100000 in
theorem w_X11_common {l : Launch} (hl : l.stackTraces = false) (N : Nat) (R : Nat → Nat → Nat) : ∀ (a0 : Nat) (a1 : Int32) (a2 : Int32) (I : (Nat → Nat → Int32)) (y : ((Int32 ⊕ String) × (Nat → Nat → Int32))), f_X11_common N R a0 a1 a2 I = some y → sm_W l 2 mX11_common 0 [(0, .inr (.inl a0)), (1, .inl a1), (2, .inl a2)] [] (I, R) (sm_oI y.1) (y.2, R) := by
  intro a0 a1 a2 I y h
  unfold f_X11_common at h
  refine sm_aload_n (q := 1) dX11_common_0 rfl rfl 0 rfl ?_
  refine sm_iload_n (q := 2) dX11_common_1 rfl rfl 1 rfl ?_
  obtain ⟨hc1, h⟩ := sm_gd_e h
  rcases sm_tb_e h with ⟨r3, J4, hc_p2, h⟩ | ⟨E9, J9, hc_p2, h⟩
  · refine sm_callVv (q := 5) (As := [.inl a1]) (S := []) (ek_X11_needPiece hl hc_p2) mv_X11_178 hc1 rfl (by decide) (Nat.le_of_ble_eq_true rfl) dX11_common_2 rfl ?_
    refine sm_aload_n (q := 6) dX11_common_5 rfl rfl 0 rfl ?_
    refine sm_iload_n (q := 7) dX11_common_6 rfl rfl 2 rfl ?_
    rcases sm_tb_e h with ⟨r6, J7, hc_p5, h⟩ | ⟨E9, J9, hc_p5, h⟩
    · refine sm_callVv (q := 10) (As := [.inl a2]) (S := []) (ek_X11_needPiece hl hc_p5) mv_X11_178 hc1 rfl (by decide) (Nat.le_of_ble_eq_true rfl) dX11_common_7 rfl ?_
      refine sm_aload_n (q := 11) dX11_common_10 rfl rfl 0 rfl ?_
      refine sm_getR (r := R a0 3) (q := 14) dX11_common_11 rfl fk_X11_20 hc1 (by decide) (by decide) rfl ?_
      refine sm_iload_n (q := 15) dX11_common_14 rfl rfl 1 rfl ?_
      refine sm_iload_n (q := 16) dX11_common_15 rfl rfl 2 rfl ?_
      obtain ⟨hc8, h⟩ := sm_gd_e h
      obtain ⟨p9, hc_p9, h⟩ := sm_bd_e h
      refine sm_callVi (q := 19) (As := [.inl a1, .inl a2]) (S := []) (e_X7_longestCommonRow hc_p9) mv_X11_318 hc8 rfl (by decide) (Nat.le_of_ble_eq_true rfl) dX11_common_16 rfl ?_
      obtain rfl := Option.some.inj h
      exact sm_iret dX11_common_19 rfl
    · obtain rfl := Option.some.inj h
      exact sm_callVX (E := E9) (As := [.inl a2]) (S := []) (ex_X11_needPiece hl hc_p5) mv_X11_178 hc1 rfl (by decide) (Nat.le_of_ble_eq_true rfl) dX11_common_7
  · obtain rfl := Option.some.inj h
    exact sm_callVX (E := E9) (As := [.inl a1]) (S := []) (ex_X11_needPiece hl hc_p2) mv_X11_178 hc1 rfl (by decide) (Nat.le_of_ble_eq_true rfl) dX11_common_2
theorem e_X11_common {l : Launch} (hl : l.stackTraces = false) {N : Nat} {R : Nat → Nat → Nat} {a0 : Nat} {a1 : Int32} {a2 : Int32} {I : (Nat → Nat → Int32)} {y : ((Int32 ⊕ String) × (Nat → Nat → Int32))} (h : f_X11_common N R a0 a1 a2 I = some y) : sm_E l 2 mX11_common [.inr (.inl a0), .inl a1, .inl a2] (I, R) (sm_oI y.1) (y.2, R) :=
  sm_meth (by decide) (Nat.le_of_ble_eq_true rfl) (w_X11_common hl N R a0 a1 a2 I y h)
theorem ek_X11_common {l : Launch} (hl : l.stackTraces = false) {N : Nat} {R : Nat → Nat → Nat} {a0 : Nat} {a1 : Int32} {a2 : Int32} {I : (Nat → Nat → Int32)} {r : Int32} {J : (Nat → Nat → Int32)} (h : f_X11_common N R a0 a1 a2 I = some (.inl r, J)) : sm_E l 2 mX11_common [.inr (.inl a0), .inl a1, .inl a2] (I, R) (.inl (some (.inl r))) (J, R) := by
  have h1 := e_X11_common (l := l) hl h
  exact h1
theorem ex_X11_common {l : Launch} (hl : l.stackTraces = false) {N : Nat} {R : Nat → Nat → Nat} {a0 : Nat} {a1 : Int32} {a2 : Int32} {I : (Nat → Nat → Int32)} {E : String} {J : (Nat → Nat → Int32)} (h : f_X11_common N R a0 a1 a2 I = some (.inr E, J)) : sm_E l 2 mX11_common [.inr (.inl a0), .inl a1, .inl a2] (I, R) (.inr E) (J, R) := by
  have h1 := e_X11_common (l := l) hl h
  exact h1
