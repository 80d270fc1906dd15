def f_X11_bar (N : Nat) (R : Nat → Nat → Nat) : Nat → Int32 → Int32 → (Nat → Nat → Int32) → Option ((Int32 ⊕ String) × (Nat → Nat → Int32)) := fun a0 a1 a2 I =>
  sm_gd (sm_kd a0 = (11, 18)) <|
  sm_tb (f_X11_needPiece N R a0 a1 I) fun r3 J4 =>
  if a2 < 0 then (
    some (.inr "java/util/NoSuchElementException", J4))
  else (
    sm_gd (sm_kd (R a0 3) = (7, 9)) <|
    sm_gd ((sm_kd (R (R a0 3) 0)).1 = 13 ∧ ¬ (a1 < 0 ∨ (sm_kd (R (R a0 3) 0)).2 ≤ (a1).toNatClampNeg)) <|
    if a2 < (J4 (R (R a0 3) 0) (a1).toNatClampNeg) then (
      (f_X7_hardOf N R (R a0 3) a1 a2 J4).bind fun p9 =>
      some (.inl p9.1, p9.2))
    else (
      some (.inr "java/util/NoSuchElementException", J4)))
set_option maxHeartbeats 4000000 in
set_option maxRecDepth 100000 in
theorem w_X11_bar {l : Launch} (hl : l.stackTraces = false) (N : Nat) (R : Nat → Nat → Nat) : ∀ (a0 : Nat) (a1 : Int32) (a2 : Int32) (I : (Nat → Nat → Int32)) (y : ((Int32 ⊕ String) × (Nat → Nat → Int32))), f_X11_bar N R a0 a1 a2 I = some y → sm_W l 1 mX11_bar 0 [(0, .inr (.inl a0)), (1, .inl a1), (2, .inl a2)] [] (I, R) (sm_oI y.1) (y.2, R) := by
  intro a0 a1 a2 I y h
  unfold f_X11_bar at h
  refine sm_aload_n (q := 1) dX11_bar_0 rfl rfl 0 rfl ?_
  refine sm_iload_n (q := 2) dX11_bar_1 rfl rfl 1 rfl ?_
  obtain ⟨hc1, h⟩ := sm_gd_e h
  rcases sm_tb_e h with ⟨r3, J4, hc_p2, h⟩ | ⟨E9, J9, hc_p2, h⟩
  · refine sm_callVv (q := 5) (As := [.inl a1]) (S := []) (ek_X11_needPiece hl hc_p2) mv_X11_178 hc1 rfl (by decide) (Nat.le_of_ble_eq_true rfl) dX11_bar_2 rfl ?_
    refine sm_iload_n (q := 6) dX11_bar_5 rfl rfl 2 rfl ?_
    rcases sm_if_e h with ⟨hb5, h⟩ | ⟨hb5, h⟩
    · refine sm_if_lt (tgt := 22) (q := 9) dX11_bar_6 (by decide) rfl (fun _ => ?_) (fun hn => absurd hb5 hn)
      obtain rfl := Option.some.inj h
      exact sm_throw (tx := "no such bar") (j := 19) hl (by decide +kernel) (by decide +kernel) (by decide) cl_X11_165 in_NSE (List.mem_of_getElem? (i := 19) rfl) th_X11_169 tg_X11_165_169 (Nat.le_of_ble_eq_true rfl) dX11_bar_22 dX11_bar_25 dX11_bar_26 dX11_bar_28 dX11_bar_31
    · refine sm_if_lt (tgt := 22) (q := 9) dX11_bar_6 (by decide) rfl (fun ht => absurd ht hb5) (fun _ => ?_)
      refine sm_iload_n (q := 10) dX11_bar_9 rfl rfl 2 rfl ?_
      refine sm_aload_n (q := 11) dX11_bar_10 rfl rfl 0 rfl ?_
      refine sm_getR (r := R a0 3) (q := 14) dX11_bar_11 rfl fk_X11_20 hc1 (by decide) (by decide) rfl ?_
      obtain ⟨hc6, h⟩ := sm_gd_e h
      refine sm_getR (r := R (R a0 3) 0) (q := 17) dX11_bar_14 rfl fk_X11_181 hc6 (by decide) (by decide) rfl ?_
      refine sm_iload_n (q := 18) dX11_bar_17 rfl rfl 1 rfl ?_
      obtain ⟨hc7, h⟩ := sm_gd_e h
      refine sm_iald (n := (sm_kd (R (R a0 3) 0)).2) (q := 19) dX11_bar_18 rfl (Prod.ext hc7.1 rfl) hc7.2 ?_
      rcases sm_if_e h with ⟨hb8, h⟩ | ⟨hb8, h⟩
      · refine sm_icmp_lt (tgt := 32) (q := 22) dX11_bar_19 (by decide) rfl (fun _ => ?_) (fun hn => absurd hb8 hn)
        refine sm_aload_n (q := 33) dX11_bar_32 rfl rfl 0 rfl ?_
        refine sm_getR (r := R a0 3) (q := 36) dX11_bar_33 rfl fk_X11_20 hc1 (by decide) (by decide) rfl ?_
        refine sm_iload_n (q := 37) dX11_bar_36 rfl rfl 1 rfl ?_
        refine sm_iload_n (q := 38) dX11_bar_37 rfl rfl 2 rfl ?_
        obtain ⟨p9, hc_p9, h⟩ := sm_bd_e h
        refine sm_callVi (q := 41) (As := [.inl a1, .inl a2]) (S := []) (e_X7_hardOf hc_p9) mv_X11_194 hc6 rfl (by decide) (Nat.le_of_ble_eq_true rfl) dX11_bar_38 rfl ?_
        obtain rfl := Option.some.inj h
        exact sm_iret dX11_bar_41 rfl
      · refine sm_icmp_lt (tgt := 32) (q := 22) dX11_bar_19 (by decide) rfl (fun ht => absurd ht hb8) (fun _ => ?_)
        obtain rfl := Option.some.inj h
        exact sm_throw (tx := "no such bar") (j := 19) hl (by decide +kernel) (by decide +kernel) (by decide) cl_X11_165 in_NSE (List.mem_of_getElem? (i := 19) rfl) th_X11_169 tg_X11_165_169 (Nat.le_of_ble_eq_true rfl) dX11_bar_22 dX11_bar_25 dX11_bar_26 dX11_bar_28 dX11_bar_31
  · obtain rfl := Option.some.inj h
    exact sm_callVX (E := E9) (As := [.inl a1]) (S := []) (ex_X11_needPiece hl hc_p2) mv_X11_178 hc1 rfl (by decide) (Nat.le_of_ble_eq_true rfl) dX11_bar_2
theorem e_X11_bar {l : Launch} (hl : l.stackTraces = false) {N : Nat} {R : Nat → Nat → Nat} {a0 : Nat} {a1 : Int32} {a2 : Int32} {I : (Nat → Nat → Int32)} {y : ((Int32 ⊕ String) × (Nat → Nat → Int32))} (h : f_X11_bar N R a0 a1 a2 I = some y) : sm_E l 1 mX11_bar [.inr (.inl a0), .inl a1, .inl a2] (I, R) (sm_oI y.1) (y.2, R) :=
  sm_meth (by decide) (Nat.le_of_ble_eq_true rfl) (w_X11_bar hl N R a0 a1 a2 I y h)
theorem ek_X11_bar {l : Launch} (hl : l.stackTraces = false) {N : Nat} {R : Nat → Nat → Nat} {a0 : Nat} {a1 : Int32} {a2 : Int32} {I : (Nat → Nat → Int32)} {r : Int32} {J : (Nat → Nat → Int32)} (h : f_X11_bar N R a0 a1 a2 I = some (.inl r, J)) : sm_E l 1 mX11_bar [.inr (.inl a0), .inl a1, .inl a2] (I, R) (.inl (some (.inl r))) (J, R) := by
  have h1 := e_X11_bar (l := l) hl h
  exact h1
theorem ex_X11_bar {l : Launch} (hl : l.stackTraces = false) {N : Nat} {R : Nat → Nat → Nat} {a0 : Nat} {a1 : Int32} {a2 : Int32} {I : (Nat → Nat → Int32)} {E : String} {J : (Nat → Nat → Int32)} (h : f_X11_bar N R a0 a1 a2 I = some (.inr E, J)) : sm_E l 1 mX11_bar [.inr (.inl a0), .inl a1, .inl a2] (I, R) (.inr E) (J, R) := by
  have h1 := e_X11_bar (l := l) hl h
  exact h1
