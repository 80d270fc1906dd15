def f_X11_door (N : Nat) (R : Nat → Nat → Nat) : Nat → Int32 → Int32 → (Nat → Nat → Int32) → Option ((Int32 ⊕ String) × (Nat → Nat → Int32)) := fun a0 a1 a2 I =>
  sm_gd (sm_kd a0 = (11, 18)) <|
  sm_tb (f_X11_needPupil N R a0 a1 I) fun r3 J4 =>
  sm_gd (sm_kd (R a0 3) = (7, 9)) <|
  sm_gd (sm_kd (R (R a0 3) 5) = (10, 4)) <|
  (f_X10_couldGo N R (R (R a0 3) 5) r3 a2 J4).bind fun p7 =>
  if p7.1 = 0 then (
    (f_X11_refuse N R a0 (1 : Int32) p7.2).bind fun p9 =>
    some (.inl p9.1, p9.2))
  else (
    sm_gd (sm_kd (R a0 6) = (0, 3)) <|
    (f_X0_keep N R (R a0 6) (R (R a0 3) 5) p7.2).bind fun p11 =>
    (f_X7_goThrough N R (R a0 3) r3 a2 p11.2).bind fun p12 =>
    sm_gd (sm_kd r3 = (4, 6)) <|
    some (.inl (p12.2 r3 0), p12.2))
set_option maxHeartbeats 4000000 in
set_option maxRecDepth 100000 in
theorem w_X11_door {l : Launch} (hl : l.stackTraces = false) (N : Nat) (R : Nat → Nat → Nat) : ∀ (a0 : Nat) (a1 : Int32) (a2 : Int32) (I : (Nat → Nat → Int32)) (y : ((Int32 ⊕ String) × (Nat → Nat → Int32))), f_X11_door N R a0 a1 a2 I = some y → sm_W l 4 mX11_door 0 [(0, .inr (.inl a0)), (1, .inl a1), (2, .inl a2)] [] (I, R) (sm_oI y.1) (y.2, R) := by
  intro a0 a1 a2 I y h
  unfold f_X11_door at h
  refine sm_aload_n (q := 1) dX11_door_0 rfl rfl 0 rfl ?_
  refine sm_iload_n (q := 2) dX11_door_1 rfl rfl 1 rfl ?_
  obtain ⟨hc1, h⟩ := sm_gd_e h
  rcases sm_tb_e h with ⟨r3, J4, hc_p2, h⟩ | ⟨E9, J9, hc_p2, h⟩
  · refine sm_callVr (q := 5) (As := [.inl a1]) (S := []) (ek_X11_needPupil hl hc_p2) mv_X11_198 hc1 rfl (by decide) (Nat.le_of_ble_eq_true rfl) dX11_door_2 rfl ?_
    refine sm_astore_n (L' := [(3, .inr (.inl r3)), (0, .inr (.inl a0)), (1, .inl a1), (2, .inl a2)]) (q := 6) dX11_door_5 rfl rfl (by decide) rfl ?_
    refine sm_aload_n (q := 7) dX11_door_6 rfl rfl 1 rfl ?_
    refine sm_getR (r := R a0 3) (q := 10) dX11_door_7 rfl fk_X11_20 hc1 (by decide) (by decide) rfl ?_
    obtain ⟨hc5, h⟩ := sm_gd_e h
    refine sm_getR (r := R (R a0 3) 5) (q := 13) dX11_door_10 rfl fk_X11_137 hc5 (by decide) (by decide) rfl ?_
    refine sm_aload_n (q := 14) dX11_door_13 rfl rfl 0 rfl ?_
    refine sm_iload_n (q := 15) dX11_door_14 rfl rfl 3 rfl ?_
    obtain ⟨hc6, h⟩ := sm_gd_e h
    obtain ⟨p7, hc_p7, h⟩ := sm_bd_e h
    refine sm_callVi (q := 18) (As := [.inr (.inl r3), .inl a2]) (S := []) (e_X10_couldGo hc_p7) mv_X11_243 hc6 rfl (by decide) (Nat.le_of_ble_eq_true rfl) dX11_door_15 rfl ?_
    rcases sm_if_e h with ⟨hb8, h⟩ | ⟨hb8, h⟩
    · refine sm_if_ne (tgt := 27) (q := 21) dX11_door_18 (by decide) rfl (fun hn => absurd hb8 hn) (fun _ => ?_)
      refine sm_aload_n (q := 22) dX11_door_21 rfl rfl 1 rfl ?_
      refine sm_iconst (v := 1) (q := 23) dX11_door_22 rfl (by decide) ?_
      obtain ⟨p9, hc_p9, h⟩ := sm_bd_e h
      refine sm_callVi (q := 26) (As := [.inl (1 : Int32)]) (S := []) (e_X11_refuse hc_p9) mv_X11_232 hc1 rfl (by decide) (Nat.le_of_ble_eq_true rfl) dX11_door_23 rfl ?_
      obtain rfl := Option.some.inj h
      exact sm_iret dX11_door_26 rfl
    · refine sm_if_ne (tgt := 27) (q := 21) dX11_door_18 (by decide) rfl (fun _ => ?_) (fun he => absurd he hb8)
      refine sm_aload_n (q := 28) dX11_door_27 rfl rfl 1 rfl ?_
      refine sm_getR (r := R a0 6) (q := 31) dX11_door_28 rfl fk_X11_39 hc1 (by decide) (by decide) rfl ?_
      refine sm_aload_n (q := 32) dX11_door_31 rfl rfl 1 rfl ?_
      refine sm_getR (r := R a0 3) (q := 35) dX11_door_32 rfl fk_X11_20 hc1 (by decide) (by decide) rfl ?_
      refine sm_getR (r := R (R a0 3) 5) (q := 38) dX11_door_35 rfl fk_X11_137 hc5 (by decide) (by decide) rfl ?_
      obtain ⟨hc10, h⟩ := sm_gd_e h
      obtain ⟨p11, hc_p11, h⟩ := sm_bd_e h
      refine sm_callVv (q := 41) (As := [.inr (.inl (R (R a0 3) 5))]) (S := []) (e_X0_keep hc_p11) mv_X11_235 hc10 rfl (by decide) (Nat.le_of_ble_eq_true rfl) dX11_door_38 rfl ?_
      refine sm_aload_n (q := 42) dX11_door_41 rfl rfl 1 rfl ?_
      refine sm_getR (r := R a0 3) (q := 45) dX11_door_42 rfl fk_X11_20 hc1 (by decide) (by decide) rfl ?_
      refine sm_aload_n (q := 46) dX11_door_45 rfl rfl 0 rfl ?_
      refine sm_iload_n (q := 47) dX11_door_46 rfl rfl 3 rfl ?_
      obtain ⟨p12, hc_p12, h⟩ := sm_bd_e h
      refine sm_callVv (q := 50) (As := [.inr (.inl r3), .inl a2]) (S := []) (e_X7_goThrough hc_p12) mv_X11_247 hc5 rfl (by decide) (Nat.le_of_ble_eq_true rfl) dX11_door_47 rfl ?_
      refine sm_aload_n (q := 51) dX11_door_50 rfl rfl 0 rfl ?_
      obtain ⟨hc13, h⟩ := sm_gd_e h
      refine sm_getI (q := 54) dX11_door_51 rfl fk_X11_202 hc13 (by decide) (by decide) ?_
      obtain rfl := Option.some.inj h
      exact sm_iret dX11_door_54 rfl
  · obtain rfl := Option.some.inj h
    exact sm_callVX (E := E9) (As := [.inl a1]) (S := []) (ex_X11_needPupil hl hc_p2) mv_X11_198 hc1 rfl (by decide) (Nat.le_of_ble_eq_true rfl) dX11_door_2
theorem e_X11_door {l : Launch} (hl : l.stackTraces = false) {N : Nat} {R : Nat → Nat → Nat} {a0 : Nat} {a1 : Int32} {a2 : Int32} {I : (Nat → Nat → Int32)} {y : ((Int32 ⊕ String) × (Nat → Nat → Int32))} (h : f_X11_door N R a0 a1 a2 I = some y) : sm_E l 4 mX11_door [.inr (.inl a0), .inl a1, .inl a2] (I, R) (sm_oI y.1) (y.2, R) :=
  sm_meth (by decide) (Nat.le_of_ble_eq_true rfl) (w_X11_door hl N R a0 a1 a2 I y h)
theorem ek_X11_door {l : Launch} (hl : l.stackTraces = false) {N : Nat} {R : Nat → Nat → Nat} {a0 : Nat} {a1 : Int32} {a2 : Int32} {I : (Nat → Nat → Int32)} {r : Int32} {J : (Nat → Nat → Int32)} (h : f_X11_door N R a0 a1 a2 I = some (.inl r, J)) : sm_E l 4 mX11_door [.inr (.inl a0), .inl a1, .inl a2] (I, R) (.inl (some (.inl r))) (J, R) := by
  have h1 := e_X11_door (l := l) hl h
  exact h1
theorem ex_X11_door {l : Launch} (hl : l.stackTraces = false) {N : Nat} {R : Nat → Nat → Nat} {a0 : Nat} {a1 : Int32} {a2 : Int32} {I : (Nat → Nat → Int32)} {E : String} {J : (Nat → Nat → Int32)} (h : f_X11_door N R a0 a1 a2 I = some (.inr E, J)) : sm_E l 4 mX11_door [.inr (.inl a0), .inl a1, .inl a2] (I, R) (.inr E) (J, R) := by
  have h1 := e_X11_door (l := l) hl h
  exact h1
