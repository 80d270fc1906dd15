def f_X11_choice_11 (N : Nat) (R : Nat → Nat → Nat) : Nat → Int32 → (Nat → Nat → Int32) → Option ((Int32 ⊕ String) × (Nat → Nat → Int32)) := fun a0 a1 I =>
  sm_gd (sm_kd a0 = (11, 18)) <|
  sm_gd (sm_kd (R a0 15) = (1, 2)) <|
  (f_X1_weigh N R (R a0 15) (R a0 3) I).bind fun p3 =>
  if a1 = (-1 : Int32) then (
    (f_X1_most N R (R a0 15) p3.2).bind fun p5 =>
    some (.inl p5.1, p5.2))
  else (
    (f_X1_pieceFor N R (R a0 15) (R a0 3) a1 p3.2).bind fun p6 =>
    some (.inl p6.1, p6.2))
def f_X11_choice (N : Nat) (R : Nat → Nat → Nat) : Nat → Int32 → (Nat → Nat → Int32) → Option ((Int32 ⊕ String) × (Nat → Nat → Int32)) := fun a0 a1 I =>
  if a1 = (-1 : Int32) then (
    f_X11_choice_11 N R a0 a1 I)
  else (
    sm_gd (sm_kd a0 = (11, 18)) <|
    sm_tb (f_X11_needPupil N R a0 a1 I) fun r4 J5 =>
    f_X11_choice_11 N R a0 a1 J5)
set_option maxHeartbeats 4000000 in
set_option maxRecDepth 100000 in
theorem w_X11_choice_11 {l : Launch} (hl : l.stackTraces = false) (N : Nat) (R : Nat → Nat → Nat) : ∀ (a0 : Nat) (a1 : Int32) (I : (Nat → Nat → Int32)) (y : ((Int32 ⊕ String) × (Nat → Nat → Int32))), f_X11_choice_11 N R a0 a1 I = some y → sm_W l 3 mX11_choice 11 [(0, .inr (.inl a0)), (1, .inl a1)] [] (I, R) (sm_oI y.1) (y.2, R) := by
  intro a0 a1 I y h
  unfold f_X11_choice_11 at h
  refine sm_aload_n (q := 12) dX11_choice_11 rfl rfl 0 rfl ?_
  obtain ⟨hc1, h⟩ := sm_gd_e h
  refine sm_getR (r := R a0 15) (q := 15) dX11_choice_12 rfl fk_X11_91 hc1 (by decide) (by decide) rfl ?_
  refine sm_aload_n (q := 16) dX11_choice_15 rfl rfl 0 rfl ?_
  refine sm_getR (r := R a0 3) (q := 19) dX11_choice_16 rfl fk_X11_20 hc1 (by decide) (by decide) rfl ?_
  obtain ⟨hc2, h⟩ := sm_gd_e h
  obtain ⟨p3, hc_p3, h⟩ := sm_bd_e h
  refine sm_callVv (q := 22) (As := [.inr (.inl (R a0 3))]) (S := []) (e_X1_weigh hc_p3) mv_X11_294 hc2 rfl (by decide) (Nat.le_of_ble_eq_true rfl) dX11_choice_19 rfl ?_
  refine sm_iload_n (q := 23) dX11_choice_22 rfl rfl 1 rfl ?_
  refine sm_iconst (v := -1) (q := 24) dX11_choice_23 rfl (by decide) ?_
  rcases sm_if_e h with ⟨hb4, h⟩ | ⟨hb4, h⟩
  · refine sm_icmp_ne (tgt := 37) (q := 27) dX11_choice_24 (by decide) rfl (fun hn => absurd hb4 hn) (fun _ => ?_)
    refine sm_aload_n (q := 28) dX11_choice_27 rfl rfl 0 rfl ?_
    refine sm_getR (r := R a0 15) (q := 31) dX11_choice_28 rfl fk_X11_91 hc1 (by decide) (by decide) rfl ?_
    obtain ⟨p5, hc_p5, h⟩ := sm_bd_e h
    refine sm_callVi (q := 34) (As := []) (S := []) (e_X1_most hc_p5) mv_X11_298 hc2 rfl (by decide) (Nat.le_of_ble_eq_true rfl) dX11_choice_31 rfl ?_
    refine sm_goto (q := 49) dX11_choice_34 (by decide) ?_
    obtain rfl := Option.some.inj h
    exact sm_iret dX11_choice_49 rfl
  · refine sm_icmp_ne (tgt := 37) (q := 27) dX11_choice_24 (by decide) rfl (fun _ => ?_) (fun he => absurd he hb4)
    refine sm_aload_n (q := 38) dX11_choice_37 rfl rfl 0 rfl ?_
    refine sm_getR (r := R a0 15) (q := 41) dX11_choice_38 rfl fk_X11_91 hc1 (by decide) (by decide) rfl ?_
    refine sm_aload_n (q := 42) dX11_choice_41 rfl rfl 0 rfl ?_
    refine sm_getR (r := R a0 3) (q := 45) dX11_choice_42 rfl fk_X11_20 hc1 (by decide) (by decide) rfl ?_
    refine sm_iload_n (q := 46) dX11_choice_45 rfl rfl 1 rfl ?_
    obtain ⟨p6, hc_p6, h⟩ := sm_bd_e h
    refine sm_callVi (q := 49) (As := [.inr (.inl (R a0 3)), .inl a1]) (S := []) (e_X1_pieceFor hc_p6) mv_X11_301 hc2 rfl (by decide) (Nat.le_of_ble_eq_true rfl) dX11_choice_46 rfl ?_
    obtain rfl := Option.some.inj h
    exact sm_iret dX11_choice_49 rfl
set_option maxHeartbeats 4000000 in
set_option maxRecDepth 100000 in
theorem w_X11_choice {l : Launch} (hl : l.stackTraces = false) (N : Nat) (R : Nat → Nat → Nat) : ∀ (a0 : Nat) (a1 : Int32) (I : (Nat → Nat → Int32)) (y : ((Int32 ⊕ String) × (Nat → Nat → Int32))), f_X11_choice N R a0 a1 I = some y → sm_W l 3 mX11_choice 0 [(0, .inr (.inl a0)), (1, .inl a1)] [] (I, R) (sm_oI y.1) (y.2, R) := by
  intro a0 a1 I y h
  unfold f_X11_choice at h
  refine sm_iload_n (q := 1) dX11_choice_0 rfl rfl 1 rfl ?_
  refine sm_iconst (v := -1) (q := 2) dX11_choice_1 rfl (by decide) ?_
  rcases sm_if_e h with ⟨hb1, h⟩ | ⟨hb1, h⟩
  · refine sm_icmp_eq (tgt := 11) (q := 5) dX11_choice_2 (by decide) rfl (fun _ => ?_) (fun hn => absurd hb1 hn)
    refine sm_pick [0, 1] rfl ?_
    exact w_X11_choice_11 hl N R _ _ _ _ h
  · refine sm_icmp_eq (tgt := 11) (q := 5) dX11_choice_2 (by decide) rfl (fun ht => absurd ht hb1) (fun _ => ?_)
    refine sm_aload_n (q := 6) dX11_choice_5 rfl rfl 0 rfl ?_
    refine sm_iload_n (q := 7) dX11_choice_6 rfl rfl 1 rfl ?_
    obtain ⟨hc2, h⟩ := sm_gd_e h
    rcases sm_tb_e h with ⟨r4, J5, hc_p3, h⟩ | ⟨E9, J9, hc_p3, h⟩
    · refine sm_callVr (q := 10) (As := [.inl a1]) (S := []) (ek_X11_needPupil hl hc_p3) mv_X11_198 hc2 rfl (by decide) (Nat.le_of_ble_eq_true rfl) dX11_choice_7 rfl ?_
      refine sm_pop (q := 11) dX11_choice_10 rfl rfl ?_
      refine sm_pick [0, 1] rfl ?_
      exact w_X11_choice_11 hl N R _ _ _ _ h
    · obtain rfl := Option.some.inj h
      exact sm_callVX (E := E9) (As := [.inl a1]) (S := []) (ex_X11_needPupil hl hc_p3) mv_X11_198 hc2 rfl (by decide) (Nat.le_of_ble_eq_true rfl) dX11_choice_7
theorem e_X11_choice {l : Launch} (hl : l.stackTraces = false) {N : Nat} {R : Nat → Nat → Nat} {a0 : Nat} {a1 : Int32} {I : (Nat → Nat → Int32)} {y : ((Int32 ⊕ String) × (Nat → Nat → Int32))} (h : f_X11_choice N R a0 a1 I = some y) : sm_E l 3 mX11_choice [.inr (.inl a0), .inl a1] (I, R) (sm_oI y.1) (y.2, R) :=
  sm_meth (by decide) (Nat.le_of_ble_eq_true rfl) (w_X11_choice hl N R a0 a1 I y h)
theorem ek_X11_choice {l : Launch} (hl : l.stackTraces = false) {N : Nat} {R : Nat → Nat → Nat} {a0 : Nat} {a1 : Int32} {I : (Nat → Nat → Int32)} {r : Int32} {J : (Nat → Nat → Int32)} (h : f_X11_choice N R a0 a1 I = some (.inl r, J)) : sm_E l 3 mX11_choice [.inr (.inl a0), .inl a1] (I, R) (.inl (some (.inl r))) (J, R) := by
  have h1 := e_X11_choice (l := l) hl h
  exact h1
theorem ex_X11_choice {l : Launch} (hl : l.stackTraces = false) {N : Nat} {R : Nat → Nat → Nat} {a0 : Nat} {a1 : Int32} {I : (Nat → Nat → Int32)} {E : String} {J : (Nat → Nat → Int32)} (h : f_X11_choice N R a0 a1 I = some (.inr E, J)) : sm_E l 3 mX11_choice [.inr (.inl a0), .inl a1] (I, R) (.inr E) (J, R) := by
  have h1 := e_X11_choice (l := l) hl h
  exact h1
