def f_X11_then (N : Nat) (R : Nat → Nat → Nat) : Nat → Int32 → Int32 → Int32 → (Nat → Nat → Int32) → Option ((Int32 ⊕ String) × (Nat → Nat → Int32)) := fun a0 a1 a2 a3 I =>
  sm_gd (sm_kd a0 = (11, 18)) <|
  sm_tb (f_X11_needPupil N R a0 a1 I) fun r3 J4 =>
  sm_tb (f_X11_needWhat N R a3 (2 : Int32) J4) fun r6 J7 =>
  sm_tb (f_X11_needBetween N R a2 (0 : Int32) (60 : Int32) J7) fun r9 J10 =>
  sm_gd (sm_kd (R a0 10) = (4, 6)) <|
  (f_X4_become N R (R a0 10) r3 J10).bind fun p12 =>
  sm_gd (sm_kd (R a0 3) = (7, 9)) <|
  (f_X7_passWeeks N R (R a0 3) (R a0 10) a2 p12.2).bind fun p14 =>
  if a3 = 0 then (
    some (.inl (p14.2 (R a0 10) 0), p14.2))
  else (
    if a3 = (1 : Int32) then (
      some (.inl (p14.2 (R a0 10) 3), p14.2))
    else (
      some (.inl (p14.2 (R a0 10) 1), p14.2)))
set_option maxHeartbeats 4000000 in
set_option maxRecDepth 100000 in
theorem w_X11_then {l : Launch} (hl : l.stackTraces = false) (N : Nat) (R : Nat → Nat → Nat) : ∀ (a0 : Nat) (a1 : Int32) (a2 : Int32) (a3 : Int32) (I : (Nat → Nat → Int32)) (y : ((Int32 ⊕ String) × (Nat → Nat → Int32))), f_X11_then N R a0 a1 a2 a3 I = some y → sm_W l 4 mX11_then 0 [(0, .inr (.inl a0)), (1, .inl a1), (2, .inl a2), (3, .inl a3)] [] (I, R) (sm_oI y.1) (y.2, R) := by
  intro a0 a1 a2 a3 I y h
  unfold f_X11_then at h
  refine sm_aload_n (q := 1) dX11_then_0 rfl rfl 0 rfl ?_
  refine sm_iload_n (q := 2) dX11_then_1 rfl rfl 1 rfl ?_
  obtain ⟨hc1, h⟩ := sm_gd_e h
  rcases sm_tb_e h with ⟨r3, J4, hc_p2, h⟩ | ⟨E9, J9, hc_p2, h⟩
  · refine sm_callVr (q := 5) (As := [.inl a1]) (S := []) (ek_X11_needPupil hl hc_p2) mv_X11_198 hc1 rfl (by decide) (Nat.le_of_ble_eq_true rfl) dX11_then_2 rfl ?_
    refine sm_astore (L' := [(4, .inr (.inl r3)), (0, .inr (.inl a0)), (1, .inl a1), (2, .inl a2), (3, .inl a3)]) (q := 7) dX11_then_5 rfl (by decide) rfl ?_
    refine sm_iload_n (q := 8) dX11_then_7 rfl rfl 4 rfl ?_
    refine sm_iconst (v := 2) (q := 9) dX11_then_8 rfl (by decide) ?_
    rcases sm_tb_e h with ⟨r6, J7, hc_p5, h⟩ | ⟨E9, J9, hc_p5, h⟩
    · refine sm_callSv (q := 12) (As := [.inl a3, .inl (2 : Int32)]) (S := []) (ek_X11_needWhat hl hc_p5) ms_X11_256 rfl (by decide) (Nat.le_of_ble_eq_true rfl) dX11_then_9 rfl ?_
      refine sm_iload_n (q := 13) dX11_then_12 rfl rfl 3 rfl ?_
      refine sm_iconst (v := 0) (q := 14) dX11_then_13 rfl (by decide) ?_
      refine sm_bipush (v := 60) (q := 16) dX11_then_14 rfl (by decide) ?_
      rcases sm_tb_e h with ⟨r9, J10, hc_p8, h⟩ | ⟨E9, J9, hc_p8, h⟩
      · refine sm_callSv (q := 19) (As := [.inl a2, .inl (0 : Int32), .inl (60 : Int32)]) (S := []) (ek_X11_needBetween hl hc_p8) ms_X11_260 rfl (by decide) (Nat.le_of_ble_eq_true rfl) dX11_then_16 rfl ?_
        refine sm_aload_n (q := 20) dX11_then_19 rfl rfl 1 rfl ?_
        refine sm_getR (r := R a0 10) (q := 23) dX11_then_20 rfl fk_X11_64 hc1 (by decide) (by decide) rfl ?_
        refine sm_aload (q := 25) dX11_then_23 rfl 0 rfl ?_
        obtain ⟨hc11, h⟩ := sm_gd_e h
        obtain ⟨p12, hc_p12, h⟩ := sm_bd_e h
        refine sm_callVv (q := 28) (As := [.inr (.inl r3)]) (S := []) (e_X4_become hc_p12) mv_X11_225 hc11 rfl (by decide) (Nat.le_of_ble_eq_true rfl) dX11_then_25 rfl ?_
        refine sm_aload_n (q := 29) dX11_then_28 rfl rfl 1 rfl ?_
        refine sm_getR (r := R a0 3) (q := 32) dX11_then_29 rfl fk_X11_20 hc1 (by decide) (by decide) rfl ?_
        refine sm_aload_n (q := 33) dX11_then_32 rfl rfl 1 rfl ?_
        refine sm_getR (r := R a0 10) (q := 36) dX11_then_33 rfl fk_X11_64 hc1 (by decide) (by decide) rfl ?_
        refine sm_iload_n (q := 37) dX11_then_36 rfl rfl 3 rfl ?_
        obtain ⟨hc13, h⟩ := sm_gd_e h
        obtain ⟨p14, hc_p14, h⟩ := sm_bd_e h
        refine sm_callVv (q := 40) (As := [.inr (.inl (R a0 10)), .inl a2]) (S := []) (e_X7_passWeeks hc_p14) mv_X11_239 hc13 rfl (by decide) (Nat.le_of_ble_eq_true rfl) dX11_then_37 rfl ?_
        refine sm_iload_n (q := 41) dX11_then_40 rfl rfl 4 rfl ?_
        rcases sm_if_e h with ⟨hb15, h⟩ | ⟨hb15, h⟩
        · refine sm_if_ne (tgt := 52) (q := 44) dX11_then_41 (by decide) rfl (fun hn => absurd hb15 hn) (fun _ => ?_)
          refine sm_aload_n (q := 45) dX11_then_44 rfl rfl 1 rfl ?_
          refine sm_getR (r := R a0 10) (q := 48) dX11_then_45 rfl fk_X11_64 hc1 (by decide) (by decide) rfl ?_
          refine sm_getI (q := 51) dX11_then_48 rfl fk_X11_202 hc11 (by decide) (by decide) ?_
          obtain rfl := Option.some.inj h
          exact sm_iret dX11_then_51 rfl
        · refine sm_if_ne (tgt := 52) (q := 44) dX11_then_41 (by decide) rfl (fun _ => ?_) (fun he => absurd he hb15)
          refine sm_iload_n (q := 53) dX11_then_52 rfl rfl 4 rfl ?_
          refine sm_iconst (v := 1) (q := 54) dX11_then_53 rfl (by decide) ?_
          rcases sm_if_e h with ⟨hb16, h⟩ | ⟨hb16, h⟩
          · refine sm_icmp_ne (tgt := 67) (q := 57) dX11_then_54 (by decide) rfl (fun hn => absurd hb16 hn) (fun _ => ?_)
            refine sm_aload_n (q := 58) dX11_then_57 rfl rfl 1 rfl ?_
            refine sm_getR (r := R a0 10) (q := 61) dX11_then_58 rfl fk_X11_64 hc1 (by decide) (by decide) rfl ?_
            refine sm_getI (q := 64) dX11_then_61 rfl fk_X11_211 hc11 (by decide) (by decide) ?_
            refine sm_goto (q := 74) dX11_then_64 (by decide) ?_
            obtain rfl := Option.some.inj h
            exact sm_iret dX11_then_74 rfl
          · refine sm_icmp_ne (tgt := 67) (q := 57) dX11_then_54 (by decide) rfl (fun _ => ?_) (fun he => absurd he hb16)
            refine sm_aload_n (q := 68) dX11_then_67 rfl rfl 1 rfl ?_
            refine sm_getR (r := R a0 10) (q := 71) dX11_then_68 rfl fk_X11_64 hc1 (by decide) (by decide) rfl ?_
            refine sm_getI (q := 74) dX11_then_71 rfl fk_X11_205 hc11 (by decide) (by decide) ?_
            obtain rfl := Option.some.inj h
            exact sm_iret dX11_then_74 rfl
      · obtain rfl := Option.some.inj h
        exact sm_callSX (E := E9) (As := [.inl a2, .inl (0 : Int32), .inl (60 : Int32)]) (S := []) (ex_X11_needBetween hl hc_p8) ms_X11_260 rfl (by decide) (Nat.le_of_ble_eq_true rfl) dX11_then_16
    · obtain rfl := Option.some.inj h
      exact sm_callSX (E := E9) (As := [.inl a3, .inl (2 : Int32)]) (S := []) (ex_X11_needWhat hl hc_p5) ms_X11_256 rfl (by decide) (Nat.le_of_ble_eq_true rfl) dX11_then_9
  · obtain rfl := Option.some.inj h
    exact sm_callVX (E := E9) (As := [.inl a1]) (S := []) (ex_X11_needPupil hl hc_p2) mv_X11_198 hc1 rfl (by decide) (Nat.le_of_ble_eq_true rfl) dX11_then_2
theorem e_X11_then {l : Launch} (hl : l.stackTraces = false) {N : Nat} {R : Nat → Nat → Nat} {a0 : Nat} {a1 : Int32} {a2 : Int32} {a3 : Int32} {I : (Nat → Nat → Int32)} {y : ((Int32 ⊕ String) × (Nat → Nat → Int32))} (h : f_X11_then N R a0 a1 a2 a3 I = some y) : sm_E l 4 mX11_then [.inr (.inl a0), .inl a1, .inl a2, .inl a3] (I, R) (sm_oI y.1) (y.2, R) :=
  sm_meth (by decide) (Nat.le_of_ble_eq_true rfl) (w_X11_then hl N R a0 a1 a2 a3 I y h)
theorem ek_X11_then {l : Launch} (hl : l.stackTraces = false) {N : Nat} {R : Nat → Nat → Nat} {a0 : Nat} {a1 : Int32} {a2 : Int32} {a3 : Int32} {I : (Nat → Nat → Int32)} {r : Int32} {J : (Nat → Nat → Int32)} (h : f_X11_then N R a0 a1 a2 a3 I = some (.inl r, J)) : sm_E l 4 mX11_then [.inr (.inl a0), .inl a1, .inl a2, .inl a3] (I, R) (.inl (some (.inl r))) (J, R) := by
  have h1 := e_X11_then (l := l) hl h
  exact h1
theorem ex_X11_then {l : Launch} (hl : l.stackTraces = false) {N : Nat} {R : Nat → Nat → Nat} {a0 : Nat} {a1 : Int32} {a2 : Int32} {a3 : Int32} {I : (Nat → Nat → Int32)} {E : String} {J : (Nat → Nat → Int32)} (h : f_X11_then N R a0 a1 a2 a3 I = some (.inr E, J)) : sm_E l 4 mX11_then [.inr (.inl a0), .inl a1, .inl a2, .inl a3] (I, R) (.inr E) (J, R) := by
  have h1 := e_X11_then (l := l) hl h
  exact h1
