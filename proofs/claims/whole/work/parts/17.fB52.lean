def f_X11_been (N : Nat) (R : Nat → Nat → Nat) : Nat → Int32 → (Nat → Nat → Int32) → Option ((Int32 ⊕ String) × (Nat → Nat → Int32)) := fun a0 a1 I =>
  sm_tb (f_X11_needWhat N R a1 (2 : Int32) I) fun r2 J3 =>
  sm_gd (sm_kd a0 = (11, 18)) <|
  sm_gd (sm_kd (R a0 14) = (8, 5)) <|
  (f_X8_look N R (R a0 14) (R a0 3) (R a0 7) J3).bind fun p6 =>
  if a1 = 0 then (
    (f_X8_howMany N R (R a0 14) p6.2).bind fun p8 =>
    some (.inl p8.1, p8.2))
  else (
    if a1 = (1 : Int32) then (
      (f_X8_first N R (R a0 14) p6.2).bind fun p10 =>
      some (.inl p10.1, p10.2))
    else (
      if (p6.2 (R a0 14) 2) = 0 then (
        some (.inl (1 : Int32), p6.2))
      else (
        some (.inl (0 : Int32), p6.2))))
set_option maxHeartbeats 4000000 in
set_option maxRecDepth 100000 in
theorem w_X11_been {l : Launch} (hl : l.stackTraces = false) (N : Nat) (R : Nat → Nat → Nat) : ∀ (a0 : Nat) (a1 : Int32) (I : (Nat → Nat → Int32)) (y : ((Int32 ⊕ String) × (Nat → Nat → Int32))), f_X11_been N R a0 a1 I = some y → sm_W l 7 mX11_been 0 [(0, .inr (.inl a0)), (1, .inl a1)] [] (I, R) (sm_oI y.1) (y.2, R) := by
  intro a0 a1 I y h
  unfold f_X11_been at h
  refine sm_iload_n (q := 1) dX11_been_0 rfl rfl 1 rfl ?_
  refine sm_iconst (v := 2) (q := 2) dX11_been_1 rfl (by decide) ?_
  rcases sm_tb_e h with ⟨r2, J3, hc_p1, h⟩ | ⟨E9, J9, hc_p1, h⟩
  · refine sm_callSv (q := 5) (As := [.inl a1, .inl (2 : Int32)]) (S := []) (ek_X11_needWhat hl hc_p1) ms_X11_256 rfl (by decide) (Nat.le_of_ble_eq_true rfl) dX11_been_2 rfl ?_
    refine sm_aload_n (q := 6) dX11_been_5 rfl rfl 0 rfl ?_
    obtain ⟨hc4, h⟩ := sm_gd_e h
    refine sm_getR (r := R a0 14) (q := 9) dX11_been_6 rfl fk_X11_84 hc4 (by decide) (by decide) rfl ?_
    refine sm_aload_n (q := 10) dX11_been_9 rfl rfl 0 rfl ?_
    refine sm_getR (r := R a0 3) (q := 13) dX11_been_10 rfl fk_X11_20 hc4 (by decide) (by decide) rfl ?_
    refine sm_aload_n (q := 14) dX11_been_13 rfl rfl 0 rfl ?_
    refine sm_getR (r := R a0 7) (q := 17) dX11_been_14 rfl fk_X11_46 hc4 (by decide) (by decide) rfl ?_
    obtain ⟨hc5, h⟩ := sm_gd_e h
    obtain ⟨p6, hc_p6, h⟩ := sm_bd_e h
    refine sm_callVv (q := 20) (As := [.inr (.inl (R a0 3)), .inr (.inl (R a0 7))]) (S := []) (e_X8_look hc_p6) mv_X11_324 hc5 rfl (by decide) (Nat.le_of_ble_eq_true rfl) dX11_been_17 rfl ?_
    refine sm_iload_n (q := 21) dX11_been_20 rfl rfl 1 rfl ?_
    rcases sm_if_e h with ⟨hb7, h⟩ | ⟨hb7, h⟩
    · refine sm_if_ne (tgt := 32) (q := 24) dX11_been_21 (by decide) rfl (fun hn => absurd hb7 hn) (fun _ => ?_)
      refine sm_aload_n (q := 25) dX11_been_24 rfl rfl 0 rfl ?_
      refine sm_getR (r := R a0 14) (q := 28) dX11_been_25 rfl fk_X11_84 hc4 (by decide) (by decide) rfl ?_
      obtain ⟨p8, hc_p8, h⟩ := sm_bd_e h
      refine sm_callVi (q := 31) (As := []) (S := []) (e_X8_howMany hc_p8) mv_X11_328 hc5 rfl (by decide) (Nat.le_of_ble_eq_true rfl) dX11_been_28 rfl ?_
      obtain rfl := Option.some.inj h
      exact sm_iret dX11_been_31 rfl
    · refine sm_if_ne (tgt := 32) (q := 24) dX11_been_21 (by decide) rfl (fun _ => ?_) (fun he => absurd he hb7)
      refine sm_iload_n (q := 33) dX11_been_32 rfl rfl 1 rfl ?_
      refine sm_iconst (v := 1) (q := 34) dX11_been_33 rfl (by decide) ?_
      rcases sm_if_e h with ⟨hb9, h⟩ | ⟨hb9, h⟩
      · refine sm_icmp_ne (tgt := 45) (q := 37) dX11_been_34 (by decide) rfl (fun hn => absurd hb9 hn) (fun _ => ?_)
        refine sm_aload_n (q := 38) dX11_been_37 rfl rfl 0 rfl ?_
        refine sm_getR (r := R a0 14) (q := 41) dX11_been_38 rfl fk_X11_84 hc4 (by decide) (by decide) rfl ?_
        obtain ⟨p10, hc_p10, h⟩ := sm_bd_e h
        refine sm_callVi (q := 44) (As := []) (S := []) (e_X8_first hc_p10) mv_X11_331 hc5 rfl (by decide) (Nat.le_of_ble_eq_true rfl) dX11_been_41 rfl ?_
        obtain rfl := Option.some.inj h
        exact sm_iret dX11_been_44 rfl
      · refine sm_icmp_ne (tgt := 45) (q := 37) dX11_been_34 (by decide) rfl (fun _ => ?_) (fun he => absurd he hb9)
        refine sm_aload_n (q := 46) dX11_been_45 rfl rfl 0 rfl ?_
        refine sm_getR (r := R a0 14) (q := 49) dX11_been_46 rfl fk_X11_84 hc4 (by decide) (by decide) rfl ?_
        refine sm_getI (q := 52) dX11_been_49 rfl fk_X11_334 hc5 (by decide) (by decide) ?_
        rcases sm_if_e h with ⟨hb11, h⟩ | ⟨hb11, h⟩
        · refine sm_if_ne (tgt := 59) (q := 55) dX11_been_52 (by decide) rfl (fun hn => absurd hb11 hn) (fun _ => ?_)
          refine sm_iconst (v := 1) (q := 56) dX11_been_55 rfl (by decide) ?_
          refine sm_goto (q := 60) dX11_been_56 (by decide) ?_
          obtain rfl := Option.some.inj h
          exact sm_iret dX11_been_60 rfl
        · refine sm_if_ne (tgt := 59) (q := 55) dX11_been_52 (by decide) rfl (fun _ => ?_) (fun he => absurd he hb11)
          refine sm_iconst (v := 0) (q := 60) dX11_been_59 rfl (by decide) ?_
          obtain rfl := Option.some.inj h
          exact sm_iret dX11_been_60 rfl
  · obtain rfl := Option.some.inj h
    exact sm_callSX (E := E9) (As := [.inl a1, .inl (2 : Int32)]) (S := []) (ex_X11_needWhat hl hc_p1) ms_X11_256 rfl (by decide) (Nat.le_of_ble_eq_true rfl) dX11_been_2
theorem e_X11_been {l : Launch} (hl : l.stackTraces = false) {N : Nat} {R : Nat → Nat → Nat} {a0 : Nat} {a1 : Int32} {I : (Nat → Nat → Int32)} {y : ((Int32 ⊕ String) × (Nat → Nat → Int32))} (h : f_X11_been N R a0 a1 I = some y) : sm_E l 7 mX11_been [.inr (.inl a0), .inl a1] (I, R) (sm_oI y.1) (y.2, R) :=
  sm_meth (by decide) (Nat.le_of_ble_eq_true rfl) (w_X11_been hl N R a0 a1 I y h)
theorem ek_X11_been {l : Launch} (hl : l.stackTraces = false) {N : Nat} {R : Nat → Nat → Nat} {a0 : Nat} {a1 : Int32} {I : (Nat → Nat → Int32)} {r : Int32} {J : (Nat → Nat → Int32)} (h : f_X11_been N R a0 a1 I = some (.inl r, J)) : sm_E l 7 mX11_been [.inr (.inl a0), .inl a1] (I, R) (.inl (some (.inl r))) (J, R) := by
  have h1 := e_X11_been (l := l) hl h
  exact h1
theorem ex_X11_been {l : Launch} (hl : l.stackTraces = false) {N : Nat} {R : Nat → Nat → Nat} {a0 : Nat} {a1 : Int32} {I : (Nat → Nat → Int32)} {E : String} {J : (Nat → Nat → Int32)} (h : f_X11_been N R a0 a1 I = some (.inr E, J)) : sm_E l 7 mX11_been [.inr (.inl a0), .inl a1] (I, R) (.inr E) (J, R) := by
  have h1 := e_X11_been (l := l) hl h
  exact h1
