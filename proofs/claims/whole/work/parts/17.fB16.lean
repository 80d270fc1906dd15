def f_X11_begin (N : Nat) (R : Nat → Nat → Nat) : Nat → Int32 → Int32 → (Nat → Nat → Int32) → Option ((Int32 ⊕ String) × (Nat → Nat → Int32)) := fun a0 a1 a2 I =>
  sm_gd (sm_kd a0 = (11, 18)) <|
  sm_tb (f_X11_needPupil N R a0 a1 I) fun r3 J4 =>
  sm_tb (f_X11_needPiece N R a0 a2 J4) fun r6 J7 =>
  sm_gd (sm_kd r3 = (4, 6)) <|
  if (J7 r3 2) = a2 then (
    (f_X11_refuse N R a0 (1 : Int32) J7).bind fun p10 =>
    some (.inl p10.1, p10.2))
  else (
    sm_gd (sm_kd (R a0 3) = (7, 9)) <|
    sm_gd (sm_kd (R a0 6) = (0, 3)) <|
    (f_X0_keep N R (R a0 6) (R (R a0 3) 5) J7).bind fun p13 =>
    sm_lt (sm_up p13.2 r3 (sm_up (p13.2 r3) 2 a2)) fun I14 =>
    sm_lt (sm_up I14 r3 (sm_up (I14 r3) 3 (0 : Int32))) fun I15 =>
    some (.inl (p13.2 r3 2), I15))
set_option maxHeartbeats 4000000 in
set_option maxRecDepth 100000 in
theorem w_X11_begin {l : Launch} (hl : l.stackTraces = false) (N : Nat) (R : Nat → Nat → Nat) : ∀ (a0 : Nat) (a1 : Int32) (a2 : Int32) (I : (Nat → Nat → Int32)) (y : ((Int32 ⊕ String) × (Nat → Nat → Int32))), f_X11_begin N R a0 a1 a2 I = some y → sm_W l 3 mX11_begin 0 [(0, .inr (.inl a0)), (1, .inl a1), (2, .inl a2)] [] (I, R) (sm_oI y.1) (y.2, R) := by
  intro a0 a1 a2 I y h
  unfold f_X11_begin at h
  refine sm_aload_n (q := 1) dX11_begin_0 rfl rfl 0 rfl ?_
  refine sm_iload_n (q := 2) dX11_begin_1 rfl rfl 1 rfl ?_
  obtain ⟨hc1, h⟩ := sm_gd_e h
  rcases sm_tb_e h with ⟨r3, J4, hc_p2, h⟩ | ⟨E9, J9, hc_p2, h⟩
  · refine sm_callVr (q := 5) (As := [.inl a1]) (S := []) (ek_X11_needPupil hl hc_p2) mv_X11_198 hc1 rfl (by decide) (Nat.le_of_ble_eq_true rfl) dX11_begin_2 rfl ?_
    refine sm_astore_n (L' := [(3, .inr (.inl r3)), (0, .inr (.inl a0)), (1, .inl a1), (2, .inl a2)]) (q := 6) dX11_begin_5 rfl rfl (by decide) rfl ?_
    refine sm_aload_n (q := 7) dX11_begin_6 rfl rfl 1 rfl ?_
    refine sm_iload_n (q := 8) dX11_begin_7 rfl rfl 3 rfl ?_
    rcases sm_tb_e h with ⟨r6, J7, hc_p5, h⟩ | ⟨E9, J9, hc_p5, h⟩
    · refine sm_callVv (q := 11) (As := [.inl a2]) (S := []) (ek_X11_needPiece hl hc_p5) mv_X11_178 hc1 rfl (by decide) (Nat.le_of_ble_eq_true rfl) dX11_begin_8 rfl ?_
      refine sm_aload_n (q := 12) dX11_begin_11 rfl rfl 0 rfl ?_
      obtain ⟨hc8, h⟩ := sm_gd_e h
      refine sm_getI (q := 15) dX11_begin_12 rfl fk_X11_208 hc8 (by decide) (by decide) ?_
      refine sm_iload_n (q := 16) dX11_begin_15 rfl rfl 3 rfl ?_
      rcases sm_if_e h with ⟨hb9, h⟩ | ⟨hb9, h⟩
      · refine sm_icmp_ne (tgt := 25) (q := 19) dX11_begin_16 (by decide) rfl (fun hn => absurd hb9 hn) (fun _ => ?_)
        refine sm_aload_n (q := 20) dX11_begin_19 rfl rfl 1 rfl ?_
        refine sm_iconst (v := 1) (q := 21) dX11_begin_20 rfl (by decide) ?_
        obtain ⟨p10, hc_p10, h⟩ := sm_bd_e h
        refine sm_callVi (q := 24) (As := [.inl (1 : Int32)]) (S := []) (e_X11_refuse hc_p10) mv_X11_232 hc1 rfl (by decide) (Nat.le_of_ble_eq_true rfl) dX11_begin_21 rfl ?_
        obtain rfl := Option.some.inj h
        exact sm_iret dX11_begin_24 rfl
      · refine sm_icmp_ne (tgt := 25) (q := 19) dX11_begin_16 (by decide) rfl (fun _ => ?_) (fun he => absurd he hb9)
        refine sm_aload_n (q := 26) dX11_begin_25 rfl rfl 1 rfl ?_
        refine sm_getR (r := R a0 6) (q := 29) dX11_begin_26 rfl fk_X11_39 hc1 (by decide) (by decide) rfl ?_
        refine sm_aload_n (q := 30) dX11_begin_29 rfl rfl 1 rfl ?_
        refine sm_getR (r := R a0 3) (q := 33) dX11_begin_30 rfl fk_X11_20 hc1 (by decide) (by decide) rfl ?_
        obtain ⟨hc11, h⟩ := sm_gd_e h
        refine sm_getR (r := R (R a0 3) 5) (q := 36) dX11_begin_33 rfl fk_X11_137 hc11 (by decide) (by decide) rfl ?_
        obtain ⟨hc12, h⟩ := sm_gd_e h
        obtain ⟨p13, hc_p13, h⟩ := sm_bd_e h
        refine sm_callVv (q := 39) (As := [.inr (.inl (R (R a0 3) 5))]) (S := []) (e_X0_keep hc_p13) mv_X11_235 hc12 rfl (by decide) (Nat.le_of_ble_eq_true rfl) dX11_begin_36 rfl ?_
        refine sm_aload_n (q := 40) dX11_begin_39 rfl rfl 0 rfl ?_
        refine sm_getI (q := 43) dX11_begin_40 rfl fk_X11_208 hc8 (by decide) (by decide) ?_
        refine sm_istore (L' := [(4, .inl (p13.2 r3 2)), (3, .inr (.inl r3)), (0, .inr (.inl a0)), (1, .inl a1), (2, .inl a2)]) (q := 45) dX11_begin_43 rfl (by decide) rfl ?_
        refine sm_aload_n (q := 46) dX11_begin_45 rfl rfl 1 rfl ?_
        refine sm_iload_n (q := 47) dX11_begin_46 rfl rfl 4 rfl ?_
        obtain ⟨I14, hI14, h⟩ := sm_lt_e h
        refine sm_putI (q := 50) dX11_begin_47 rfl fk_X11_208 hc8 (by decide) (by decide) ?_
        refine sm_memI hI14 ?_
        refine sm_aload_n (q := 51) dX11_begin_50 rfl rfl 1 rfl ?_
        refine sm_iconst (v := 0) (q := 52) dX11_begin_51 rfl (by decide) ?_
        obtain ⟨I15, hI15, h⟩ := sm_lt_e h
        refine sm_putI (q := 55) dX11_begin_52 rfl fk_X11_211 hc8 (by decide) (by decide) ?_
        refine sm_memI hI15 ?_
        refine sm_iload (q := 57) dX11_begin_55 rfl 0 rfl ?_
        obtain rfl := Option.some.inj h
        exact sm_iret dX11_begin_57 rfl
    · obtain rfl := Option.some.inj h
      exact sm_callVX (E := E9) (As := [.inl a2]) (S := []) (ex_X11_needPiece hl hc_p5) mv_X11_178 hc1 rfl (by decide) (Nat.le_of_ble_eq_true rfl) dX11_begin_8
  · obtain rfl := Option.some.inj h
    exact sm_callVX (E := E9) (As := [.inl a1]) (S := []) (ex_X11_needPupil hl hc_p2) mv_X11_198 hc1 rfl (by decide) (Nat.le_of_ble_eq_true rfl) dX11_begin_2
theorem e_X11_begin {l : Launch} (hl : l.stackTraces = false) {N : Nat} {R : Nat → Nat → Nat} {a0 : Nat} {a1 : Int32} {a2 : Int32} {I : (Nat → Nat → Int32)} {y : ((Int32 ⊕ String) × (Nat → Nat → Int32))} (h : f_X11_begin N R a0 a1 a2 I = some y) : sm_E l 3 mX11_begin [.inr (.inl a0), .inl a1, .inl a2] (I, R) (sm_oI y.1) (y.2, R) :=
  sm_meth (by decide) (Nat.le_of_ble_eq_true rfl) (w_X11_begin hl N R a0 a1 a2 I y h)
theorem ek_X11_begin {l : Launch} (hl : l.stackTraces = false) {N : Nat} {R : Nat → Nat → Nat} {a0 : Nat} {a1 : Int32} {a2 : Int32} {I : (Nat → Nat → Int32)} {r : Int32} {J : (Nat → Nat → Int32)} (h : f_X11_begin N R a0 a1 a2 I = some (.inl r, J)) : sm_E l 3 mX11_begin [.inr (.inl a0), .inl a1, .inl a2] (I, R) (.inl (some (.inl r))) (J, R) := by
  have h1 := e_X11_begin (l := l) hl h
  exact h1
theorem ex_X11_begin {l : Launch} (hl : l.stackTraces = false) {N : Nat} {R : Nat → Nat → Nat} {a0 : Nat} {a1 : Int32} {a2 : Int32} {I : (Nat → Nat → Int32)} {E : String} {J : (Nat → Nat → Int32)} (h : f_X11_begin N R a0 a1 a2 I = some (.inr E, J)) : sm_E l 3 mX11_begin [.inr (.inl a0), .inl a1, .inl a2] (I, R) (.inr E) (J, R) := by
  have h1 := e_X11_begin (l := l) hl h
  exact h1
