def f_X11_piece (N : Nat) (R : Nat → Nat → Nat) : Nat → Int32 → Int32 → (Nat → Nat → Int32) → Option ((Int32 ⊕ String) × (Nat → Nat → Int32)) := fun a0 a1 a2 I =>
  sm_gd (sm_kd a0 = (11, 18)) <|
  sm_tb (f_X11_needPiece N R a0 a1 I) fun r3 J4 =>
  if a2 = 0 then (
    sm_gd (sm_kd (R a0 3) = (7, 9)) <|
    sm_gd ((sm_kd (R (R a0 3) 0)).1 = 13 ∧ ¬ (a1 < 0 ∨ (sm_kd (R (R a0 3) 0)).2 ≤ (a1).toNatClampNeg)) <|
    some (.inl (J4 (R (R a0 3) 0) (a1).toNatClampNeg), J4))
  else (
    if a2 = 1 then (
      sm_gd (sm_kd (R a0 3) = (7, 9)) <|
      sm_gd ((sm_kd (R (R a0 3) 1)).1 = 13 ∧ ¬ (a1 < 0 ∨ (sm_kd (R (R a0 3) 1)).2 ≤ (a1).toNatClampNeg)) <|
      some (.inl (J4 (R (R a0 3) 1) (a1).toNatClampNeg), J4))
    else (
      if a2 = 2 then (
        sm_gd (sm_kd (R a0 3) = (7, 9)) <|
        (f_X7_steps N R (R a0 3) a1 J4).bind fun p13 =>
        some (.inl p13.1, p13.2))
      else (
        some (.inr "java/util/NoSuchElementException", J4))))
set_option maxHeartbeats 4000000 in
set_option maxRecDepth 100000 in
theorem w_X11_piece {l : Launch} (hl : l.stackTraces = false) (N : Nat) (R : Nat → Nat → Nat) : ∀ (a0 : Nat) (a1 : Int32) (a2 : Int32) (I : (Nat → Nat → Int32)) (y : ((Int32 ⊕ String) × (Nat → Nat → Int32))), f_X11_piece N R a0 a1 a2 I = some y → sm_W l 2 mX11_piece 0 [(0, .inr (.inl a0)), (1, .inl a1), (2, .inl a2)] [] (I, R) (sm_oI y.1) (y.2, R) := by
  intro a0 a1 a2 I y h
  unfold f_X11_piece at h
  refine sm_aload_n (q := 1) dX11_piece_0 rfl rfl 0 rfl ?_
  refine sm_iload_n (q := 2) dX11_piece_1 rfl rfl 1 rfl ?_
  obtain ⟨hc1, h⟩ := sm_gd_e h
  rcases sm_tb_e h with ⟨r3, J4, hc_p2, h⟩ | ⟨E9, J9, hc_p2, h⟩
  · refine sm_callVv (q := 5) (As := [.inl a1]) (S := []) (ek_X11_needPiece hl hc_p2) mv_X11_178 hc1 rfl (by decide) (Nat.le_of_ble_eq_true rfl) dX11_piece_2 rfl ?_
    refine sm_iload_n (q := 6) dX11_piece_5 rfl rfl 2 rfl ?_
    rcases sm_if_e h with ⟨hb5, h⟩ | ⟨hb5, h⟩
    · refine sm_tableIn (q := 32) (off := 26) dX11_piece_6 (by rw [hb5]; decide) (by rw [hb5]; decide) (by rw [hb5]; decide) (by decide) ?_
      refine sm_aload_n (q := 33) dX11_piece_32 rfl rfl 0 rfl ?_
      refine sm_getR (r := R a0 3) (q := 36) dX11_piece_33 rfl fk_X11_20 hc1 (by decide) (by decide) rfl ?_
      obtain ⟨hc6, h⟩ := sm_gd_e h
      refine sm_getR (r := R (R a0 3) 0) (q := 39) dX11_piece_36 rfl fk_X11_181 hc6 (by decide) (by decide) rfl ?_
      refine sm_iload_n (q := 40) dX11_piece_39 rfl rfl 1 rfl ?_
      obtain ⟨hc7, h⟩ := sm_gd_e h
      refine sm_iald (n := (sm_kd (R (R a0 3) 0)).2) (q := 41) dX11_piece_40 rfl (Prod.ext hc7.1 rfl) hc7.2 ?_
      obtain rfl := Option.some.inj h
      exact sm_iret dX11_piece_41 rfl
    · rcases sm_if_e h with ⟨hb8, h⟩ | ⟨hb8, h⟩
      · refine sm_tableIn (q := 42) (off := 36) dX11_piece_6 (by rw [hb8]; decide) (by rw [hb8]; decide) (by rw [hb8]; decide) (by decide) ?_
        refine sm_aload_n (q := 43) dX11_piece_42 rfl rfl 0 rfl ?_
        refine sm_getR (r := R a0 3) (q := 46) dX11_piece_43 rfl fk_X11_20 hc1 (by decide) (by decide) rfl ?_
        obtain ⟨hc9, h⟩ := sm_gd_e h
        refine sm_getR (r := R (R a0 3) 1) (q := 49) dX11_piece_46 rfl fk_X11_184 hc9 (by decide) (by decide) rfl ?_
        refine sm_iload_n (q := 50) dX11_piece_49 rfl rfl 1 rfl ?_
        obtain ⟨hc10, h⟩ := sm_gd_e h
        refine sm_iald (n := (sm_kd (R (R a0 3) 1)).2) (q := 51) dX11_piece_50 rfl (Prod.ext hc10.1 rfl) hc10.2 ?_
        obtain rfl := Option.some.inj h
        exact sm_iret dX11_piece_51 rfl
      · rcases sm_if_e h with ⟨hb11, h⟩ | ⟨hb11, h⟩
        · refine sm_tableIn (q := 52) (off := 46) dX11_piece_6 (by rw [hb11]; decide) (by rw [hb11]; decide) (by rw [hb11]; decide) (by decide) ?_
          refine sm_aload_n (q := 53) dX11_piece_52 rfl rfl 0 rfl ?_
          refine sm_getR (r := R a0 3) (q := 56) dX11_piece_53 rfl fk_X11_20 hc1 (by decide) (by decide) rfl ?_
          refine sm_iload_n (q := 57) dX11_piece_56 rfl rfl 1 rfl ?_
          obtain ⟨hc12, h⟩ := sm_gd_e h
          obtain ⟨p13, hc_p13, h⟩ := sm_bd_e h
          refine sm_callVi (q := 60) (As := [.inl a1]) (S := []) (e_X7_steps hc_p13) mv_X11_187 hc12 rfl (by decide) (Nat.le_of_ble_eq_true rfl) dX11_piece_57 rfl ?_
          obtain rfl := Option.some.inj h
          exact sm_iret dX11_piece_60 rfl
        · refine sm_tableOut (q := 61) dX11_piece_6 (sm_sw (fun v h1 h2 he => (fun e => e.elim (fun e => hb5 (he.trans ((congrArg Int32.ofInt e).trans (by decide)))) (fun e => e.elim (fun e => hb8 (he.trans ((congrArg Int32.ofInt e).trans (by decide)))) (fun e => hb11 (he.trans ((congrArg Int32.ofInt e).trans (by decide)))))) (show v = 0 ∨ v = 1 ∨ v = 2 by omega))) (by decide) ?_
          obtain rfl := Option.some.inj h
          exact sm_throw (tx := "no such what of a piece") (j := 18) hl (by decide +kernel) (by decide +kernel) (by decide) cl_X11_165 in_NSE (List.mem_of_getElem? (i := 18) rfl) th_X11_169 tg_X11_165_169 (Nat.le_of_ble_eq_true rfl) dX11_piece_61 dX11_piece_64 dX11_piece_65 dX11_piece_67 dX11_piece_70
  · obtain rfl := Option.some.inj h
    exact sm_callVX (E := E9) (As := [.inl a1]) (S := []) (ex_X11_needPiece hl hc_p2) mv_X11_178 hc1 rfl (by decide) (Nat.le_of_ble_eq_true rfl) dX11_piece_2
theorem e_X11_piece {l : Launch} (hl : l.stackTraces = false) {N : Nat} {R : Nat → Nat → Nat} {a0 : Nat} {a1 : Int32} {a2 : Int32} {I : (Nat → Nat → Int32)} {y : ((Int32 ⊕ String) × (Nat → Nat → Int32))} (h : f_X11_piece N R a0 a1 a2 I = some y) : sm_E l 2 mX11_piece [.inr (.inl a0), .inl a1, .inl a2] (I, R) (sm_oI y.1) (y.2, R) :=
  sm_meth (by decide) (Nat.le_of_ble_eq_true rfl) (w_X11_piece hl N R a0 a1 a2 I y h)
theorem ek_X11_piece {l : Launch} (hl : l.stackTraces = false) {N : Nat} {R : Nat → Nat → Nat} {a0 : Nat} {a1 : Int32} {a2 : Int32} {I : (Nat → Nat → Int32)} {r : Int32} {J : (Nat → Nat → Int32)} (h : f_X11_piece N R a0 a1 a2 I = some (.inl r, J)) : sm_E l 2 mX11_piece [.inr (.inl a0), .inl a1, .inl a2] (I, R) (.inl (some (.inl r))) (J, R) := by
  have h1 := e_X11_piece (l := l) hl h
  exact h1
theorem ex_X11_piece {l : Launch} (hl : l.stackTraces = false) {N : Nat} {R : Nat → Nat → Nat} {a0 : Nat} {a1 : Int32} {a2 : Int32} {I : (Nat → Nat → Int32)} {E : String} {J : (Nat → Nat → Int32)} (h : f_X11_piece N R a0 a1 a2 I = some (.inr E, J)) : sm_E l 2 mX11_piece [.inr (.inl a0), .inl a1, .inl a2] (I, R) (.inr E) (J, R) := by
  have h1 := e_X11_piece (l := l) hl h
  exact h1
