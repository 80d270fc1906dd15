def f_X11_gloves (N : Nat) (R : Nat → Nat → Nat) : Nat → Int32 → Int32 → (Nat → Nat → Int32) → Option ((Int32 ⊕ String) × (Nat → Nat → Int32)) := fun a0 a1 a2 I =>
  sm_gd (sm_kd a0 = (11, 18)) <|
  sm_tb (f_X11_needPupil N R a0 a1 I) fun r3 J4 =>
  if a2 < (1 : Int32) then (
    (f_X11_refuse N R a0 (1 : Int32) J4).bind fun p6 =>
    some (.inl p6.1, p6.2))
  else (
    if a2 ≤ (9 : Int32) then (
      sm_gd (sm_kd (R a0 3) = (7, 9)) <|
      sm_gd (sm_kd (R a0 6) = (0, 3)) <|
      (f_X0_keep N R (R a0 6) (R (R a0 3) 5) J4).bind fun p10 =>
      sm_gd (sm_kd r3 = (4, 6)) <|
      (f_X4_addSore N R r3 (-a2) p10.2).bind fun p12 =>
      some (.inl (p12.2 r3 1), p12.2))
    else (
      (f_X11_refuse N R a0 (1 : Int32) J4).bind fun p13 =>
      some (.inl p13.1, p13.2)))
set_option maxHeartbeats 4000000 in
set_option maxRecDepth 100000 in
theorem w_X11_gloves {l : Launch} (hl : l.stackTraces = false) (N : Nat) (R : Nat → Nat → Nat) : ∀ (a0 : Nat) (a1 : Int32) (a2 : Int32) (I : (Nat → Nat → Int32)) (y : ((Int32 ⊕ String) × (Nat → Nat → Int32))), f_X11_gloves N R a0 a1 a2 I = some y → sm_W l 3 mX11_gloves 0 [(0, .inr (.inl a0)), (1, .inl a1), (2, .inl a2)] [] (I, R) (sm_oI y.1) (y.2, R) := by
  intro a0 a1 a2 I y h
  unfold f_X11_gloves at h
  refine sm_aload_n (q := 1) dX11_gloves_0 rfl rfl 0 rfl ?_
  refine sm_iload_n (q := 2) dX11_gloves_1 rfl rfl 1 rfl ?_
  obtain ⟨hc1, h⟩ := sm_gd_e h
  rcases sm_tb_e h with ⟨r3, J4, hc_p2, h⟩ | ⟨E9, J9, hc_p2, h⟩
  · refine sm_callVr (q := 5) (As := [.inl a1]) (S := []) (ek_X11_needPupil hl hc_p2) mv_X11_198 hc1 rfl (by decide) (Nat.le_of_ble_eq_true rfl) dX11_gloves_2 rfl ?_
    refine sm_astore_n (L' := [(3, .inr (.inl r3)), (0, .inr (.inl a0)), (1, .inl a1), (2, .inl a2)]) (q := 6) dX11_gloves_5 rfl rfl (by decide) rfl ?_
    refine sm_iload_n (q := 7) dX11_gloves_6 rfl rfl 3 rfl ?_
    refine sm_iconst (v := 1) (q := 8) dX11_gloves_7 rfl (by decide) ?_
    rcases sm_if_e h with ⟨hb5, h⟩ | ⟨hb5, h⟩
    · refine sm_icmp_lt (tgt := 17) (q := 11) dX11_gloves_8 (by decide) rfl (fun _ => ?_) (fun hn => absurd hb5 hn)
      refine sm_aload_n (q := 18) dX11_gloves_17 rfl rfl 1 rfl ?_
      refine sm_iconst (v := 1) (q := 19) dX11_gloves_18 rfl (by decide) ?_
      obtain ⟨p6, hc_p6, h⟩ := sm_bd_e h
      refine sm_callVi (q := 22) (As := [.inl (1 : Int32)]) (S := []) (e_X11_refuse hc_p6) mv_X11_232 hc1 rfl (by decide) (Nat.le_of_ble_eq_true rfl) dX11_gloves_19 rfl ?_
      obtain rfl := Option.some.inj h
      exact sm_iret dX11_gloves_22 rfl
    · refine sm_icmp_lt (tgt := 17) (q := 11) dX11_gloves_8 (by decide) rfl (fun ht => absurd ht hb5) (fun _ => ?_)
      refine sm_iload_n (q := 12) dX11_gloves_11 rfl rfl 3 rfl ?_
      refine sm_bipush (v := 9) (q := 14) dX11_gloves_12 rfl (by decide) ?_
      rcases sm_if_e h with ⟨hb7, h⟩ | ⟨hb7, h⟩
      · refine sm_icmp_le (tgt := 23) (q := 17) dX11_gloves_14 (by decide) rfl (fun _ => ?_) (fun hn => absurd hb7 hn)
        refine sm_aload_n (q := 24) dX11_gloves_23 rfl rfl 1 rfl ?_
        refine sm_getR (r := R a0 6) (q := 27) dX11_gloves_24 rfl fk_X11_39 hc1 (by decide) (by decide) rfl ?_
        refine sm_aload_n (q := 28) dX11_gloves_27 rfl rfl 1 rfl ?_
        refine sm_getR (r := R a0 3) (q := 31) dX11_gloves_28 rfl fk_X11_20 hc1 (by decide) (by decide) rfl ?_
        obtain ⟨hc8, h⟩ := sm_gd_e h
        refine sm_getR (r := R (R a0 3) 5) (q := 34) dX11_gloves_31 rfl fk_X11_137 hc8 (by decide) (by decide) rfl ?_
        obtain ⟨hc9, h⟩ := sm_gd_e h
        obtain ⟨p10, hc_p10, h⟩ := sm_bd_e h
        refine sm_callVv (q := 37) (As := [.inr (.inl (R (R a0 3) 5))]) (S := []) (e_X0_keep hc_p10) mv_X11_235 hc9 rfl (by decide) (Nat.le_of_ble_eq_true rfl) dX11_gloves_34 rfl ?_
        refine sm_aload_n (q := 38) dX11_gloves_37 rfl rfl 0 rfl ?_
        refine sm_iload_n (q := 39) dX11_gloves_38 rfl rfl 3 rfl ?_
        refine sm_ineg (q := 40) dX11_gloves_39 rfl ?_
        obtain ⟨hc11, h⟩ := sm_gd_e h
        obtain ⟨p12, hc_p12, h⟩ := sm_bd_e h
        refine sm_callVv (q := 43) (As := [.inl (-a2)]) (S := []) (e_X4_addSore hc_p12) mv_X11_250 hc11 rfl (by decide) (Nat.le_of_ble_eq_true rfl) dX11_gloves_40 rfl ?_
        refine sm_aload_n (q := 44) dX11_gloves_43 rfl rfl 0 rfl ?_
        refine sm_getI (q := 47) dX11_gloves_44 rfl fk_X11_205 hc11 (by decide) (by decide) ?_
        obtain rfl := Option.some.inj h
        exact sm_iret dX11_gloves_47 rfl
      · refine sm_icmp_le (tgt := 23) (q := 17) dX11_gloves_14 (by decide) rfl (fun ht => absurd ht hb7) (fun _ => ?_)
        refine sm_aload_n (q := 18) dX11_gloves_17 rfl rfl 1 rfl ?_
        refine sm_iconst (v := 1) (q := 19) dX11_gloves_18 rfl (by decide) ?_
        obtain ⟨p13, hc_p13, h⟩ := sm_bd_e h
        refine sm_callVi (q := 22) (As := [.inl (1 : Int32)]) (S := []) (e_X11_refuse hc_p13) mv_X11_232 hc1 rfl (by decide) (Nat.le_of_ble_eq_true rfl) dX11_gloves_19 rfl ?_
        obtain rfl := Option.some.inj h
        exact sm_iret dX11_gloves_22 rfl
  · obtain rfl := Option.some.inj h
    exact sm_callVX (E := E9) (As := [.inl a1]) (S := []) (ex_X11_needPupil hl hc_p2) mv_X11_198 hc1 rfl (by decide) (Nat.le_of_ble_eq_true rfl) dX11_gloves_2
theorem e_X11_gloves {l : Launch} (hl : l.stackTraces = false) {N : Nat} {R : Nat → Nat → Nat} {a0 : Nat} {a1 : Int32} {a2 : Int32} {I : (Nat → Nat → Int32)} {y : ((Int32 ⊕ String) × (Nat → Nat → Int32))} (h : f_X11_gloves N R a0 a1 a2 I = some y) : sm_E l 3 mX11_gloves [.inr (.inl a0), .inl a1, .inl a2] (I, R) (sm_oI y.1) (y.2, R) :=
  sm_meth (by decide) (Nat.le_of_ble_eq_true rfl) (w_X11_gloves hl N R a0 a1 a2 I y h)
theorem ek_X11_gloves {l : Launch} (hl : l.stackTraces = false) {N : Nat} {R : Nat → Nat → Nat} {a0 : Nat} {a1 : Int32} {a2 : Int32} {I : (Nat → Nat → Int32)} {r : Int32} {J : (Nat → Nat → Int32)} (h : f_X11_gloves N R a0 a1 a2 I = some (.inl r, J)) : sm_E l 3 mX11_gloves [.inr (.inl a0), .inl a1, .inl a2] (I, R) (.inl (some (.inl r))) (J, R) := by
  have h1 := e_X11_gloves (l := l) hl h
  exact h1
theorem ex_X11_gloves {l : Launch} (hl : l.stackTraces = false) {N : Nat} {R : Nat → Nat → Nat} {a0 : Nat} {a1 : Int32} {a2 : Int32} {I : (Nat → Nat → Int32)} {E : String} {J : (Nat → Nat → Int32)} (h : f_X11_gloves N R a0 a1 a2 I = some (.inr E, J)) : sm_E l 3 mX11_gloves [.inr (.inl a0), .inl a1, .inl a2] (I, R) (.inr E) (J, R) := by
  have h1 := e_X11_gloves (l := l) hl h
  exact h1
