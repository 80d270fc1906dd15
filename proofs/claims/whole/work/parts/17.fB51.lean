def f_X11_see_32 (N : Nat) (R : Nat → Nat → Nat) : Nat → Int32 → Int32 → Int32 → Int32 → (Nat → Nat → Int32) → Option ((Int32 ⊕ String) × (Nat → Nat → Int32)) := fun a0 a1 a2 a3 b0 I =>
  if b0 = 0 then (
    sm_gd (sm_kd a0 = (11, 18)) <|
    (f_X11_refuse N R a0 (2 : Int32) I).bind fun p3 =>
    some (.inl p3.1, p3.2))
  else (
    sm_gd (sm_kd a0 = (11, 18)) <|
    sm_gd (sm_kd (R a0 7) = (9, 4)) <|
    if (I (R a0 7) 3) < (8 : Int32) then (
      (f_X9_add N R (R a0 7) a1 a2 a3 I).bind fun p7 =>
      some (.inl (p7.2 (R a0 7) 3), p7.2))
    else (
      (f_X11_refuse N R a0 (2 : Int32) I).bind fun p8 =>
      some (.inl p8.1, p8.2)))
def f_X11_see (N : Nat) (R : Nat → Nat → Nat) : Nat → Int32 → Int32 → Int32 → (Nat → Nat → Int32) → Option ((Int32 ⊕ String) × (Nat → Nat → Int32)) := fun a0 a1 a2 a3 I =>
  sm_gd (sm_kd a0 = (11, 18)) <|
  sm_tb (f_X11_needPupil N R a0 a1 I) fun r3 J4 =>
  if a2 < (1 : Int32) then (
    f_X11_see_32 N R a0 a1 a2 a3 (0 : Int32) J4)
  else (
    if (20 : Int32) < a2 then (
      f_X11_see_32 N R a0 a1 a2 a3 (0 : Int32) J4)
    else (
      if a3 < 0 then (
        f_X11_see_32 N R a0 a1 a2 a3 (0 : Int32) J4)
      else (
        if (8 : Int32) < a3 then (
          f_X11_see_32 N R a0 a1 a2 a3 (0 : Int32) J4)
        else (
          f_X11_see_32 N R a0 a1 a2 a3 (1 : Int32) J4))))
set_option maxHeartbeats 4000000 in
set_option maxRecDepth 100000 in
theorem w_X11_see_32 {l : Launch} (hl : l.stackTraces = false) (N : Nat) (R : Nat → Nat → Nat) : ∀ (a0 : Nat) (a1 : Int32) (a2 : Int32) (a3 : Int32) (b0 : Int32) (I : (Nat → Nat → Int32)) (y : ((Int32 ⊕ String) × (Nat → Nat → Int32))), f_X11_see_32 N R a0 a1 a2 a3 b0 I = some y → sm_W l 1 mX11_see 32 [(0, .inr (.inl a0)), (1, .inl a1), (2, .inl a2), (3, .inl a3)] [.inl b0] (I, R) (sm_oI y.1) (y.2, R) := by
  intro a0 a1 a2 a3 b0 I y h
  unfold f_X11_see_32 at h
  refine sm_istore (L' := [(4, .inl b0), (0, .inr (.inl a0)), (1, .inl a1), (2, .inl a2), (3, .inl a3)]) (q := 34) dX11_see_32 rfl (by decide) rfl ?_
  refine sm_iload (q := 36) dX11_see_34 rfl 0 rfl ?_
  rcases sm_if_e h with ⟨hb1, h⟩ | ⟨hb1, h⟩
  · refine sm_if_eq (tgt := 51) (q := 39) dX11_see_36 (by decide) rfl (fun _ => ?_) (fun hn => absurd hb1 hn)
    refine sm_aload_n (q := 52) dX11_see_51 rfl rfl 1 rfl ?_
    refine sm_iconst (v := 2) (q := 53) dX11_see_52 rfl (by decide) ?_
    obtain ⟨hc2, h⟩ := sm_gd_e h
    obtain ⟨p3, hc_p3, h⟩ := sm_bd_e h
    refine sm_callVi (q := 56) (As := [.inl (2 : Int32)]) (S := []) (e_X11_refuse hc_p3) mv_X11_232 hc2 rfl (by decide) (Nat.le_of_ble_eq_true rfl) dX11_see_53 rfl ?_
    obtain rfl := Option.some.inj h
    exact sm_iret dX11_see_56 rfl
  · refine sm_if_eq (tgt := 51) (q := 39) dX11_see_36 (by decide) rfl (fun ht => absurd ht hb1) (fun _ => ?_)
    refine sm_aload_n (q := 40) dX11_see_39 rfl rfl 1 rfl ?_
    obtain ⟨hc4, h⟩ := sm_gd_e h
    refine sm_getR (r := R a0 7) (q := 43) dX11_see_40 rfl fk_X11_46 hc4 (by decide) (by decide) rfl ?_
    obtain ⟨hc5, h⟩ := sm_gd_e h
    refine sm_getI (q := 46) dX11_see_43 rfl fk_X11_162 hc5 (by decide) (by decide) ?_
    refine sm_bipush (v := 8) (q := 48) dX11_see_46 rfl (by decide) ?_
    rcases sm_if_e h with ⟨hb6, h⟩ | ⟨hb6, h⟩
    · refine sm_icmp_lt (tgt := 57) (q := 51) dX11_see_48 (by decide) rfl (fun _ => ?_) (fun hn => absurd hb6 hn)
      refine sm_aload_n (q := 58) dX11_see_57 rfl rfl 1 rfl ?_
      refine sm_getR (r := R a0 7) (q := 61) dX11_see_58 rfl fk_X11_46 hc4 (by decide) (by decide) rfl ?_
      refine sm_iload_n (q := 62) dX11_see_61 rfl rfl 2 rfl ?_
      refine sm_iload_n (q := 63) dX11_see_62 rfl rfl 3 rfl ?_
      refine sm_iload_n (q := 64) dX11_see_63 rfl rfl 4 rfl ?_
      obtain ⟨p7, hc_p7, h⟩ := sm_bd_e h
      refine sm_callVv (q := 67) (As := [.inl a1, .inl a2, .inl a3]) (S := []) (e_X9_add hc_p7) mv_X11_321 hc5 rfl (by decide) (Nat.le_of_ble_eq_true rfl) dX11_see_64 rfl ?_
      refine sm_aload_n (q := 68) dX11_see_67 rfl rfl 1 rfl ?_
      refine sm_getR (r := R a0 7) (q := 71) dX11_see_68 rfl fk_X11_46 hc4 (by decide) (by decide) rfl ?_
      refine sm_getI (q := 74) dX11_see_71 rfl fk_X11_162 hc5 (by decide) (by decide) ?_
      obtain rfl := Option.some.inj h
      exact sm_iret dX11_see_74 rfl
    · refine sm_icmp_lt (tgt := 57) (q := 51) dX11_see_48 (by decide) rfl (fun ht => absurd ht hb6) (fun _ => ?_)
      refine sm_aload_n (q := 52) dX11_see_51 rfl rfl 1 rfl ?_
      refine sm_iconst (v := 2) (q := 53) dX11_see_52 rfl (by decide) ?_
      obtain ⟨p8, hc_p8, h⟩ := sm_bd_e h
      refine sm_callVi (q := 56) (As := [.inl (2 : Int32)]) (S := []) (e_X11_refuse hc_p8) mv_X11_232 hc4 rfl (by decide) (Nat.le_of_ble_eq_true rfl) dX11_see_53 rfl ?_
      obtain rfl := Option.some.inj h
      exact sm_iret dX11_see_56 rfl
set_option maxHeartbeats 4000000 in
set_option maxRecDepth 100000 in
theorem w_X11_see {l : Launch} (hl : l.stackTraces = false) (N : Nat) (R : Nat → Nat → Nat) : ∀ (a0 : Nat) (a1 : Int32) (a2 : Int32) (a3 : Int32) (I : (Nat → Nat → Int32)) (y : ((Int32 ⊕ String) × (Nat → Nat → Int32))), f_X11_see N R a0 a1 a2 a3 I = some y → sm_W l 1 mX11_see 0 [(0, .inr (.inl a0)), (1, .inl a1), (2, .inl a2), (3, .inl a3)] [] (I, R) (sm_oI y.1) (y.2, R) := by
  intro a0 a1 a2 a3 I y h
  unfold f_X11_see at h
  refine sm_aload_n (q := 1) dX11_see_0 rfl rfl 0 rfl ?_
  refine sm_iload_n (q := 2) dX11_see_1 rfl rfl 1 rfl ?_
  obtain ⟨hc1, h⟩ := sm_gd_e h
  rcases sm_tb_e h with ⟨r3, J4, hc_p2, h⟩ | ⟨E9, J9, hc_p2, h⟩
  · refine sm_callVr (q := 5) (As := [.inl a1]) (S := []) (ek_X11_needPupil hl hc_p2) mv_X11_198 hc1 rfl (by decide) (Nat.le_of_ble_eq_true rfl) dX11_see_2 rfl ?_
    refine sm_pop (q := 6) dX11_see_5 rfl rfl ?_
    refine sm_iload_n (q := 7) dX11_see_6 rfl rfl 2 rfl ?_
    refine sm_iconst (v := 1) (q := 8) dX11_see_7 rfl (by decide) ?_
    rcases sm_if_e h with ⟨hb5, h⟩ | ⟨hb5, h⟩
    · refine sm_icmp_lt (tgt := 31) (q := 11) dX11_see_8 (by decide) rfl (fun _ => ?_) (fun hn => absurd hb5 hn)
      refine sm_iconst (v := 0) (q := 32) dX11_see_31 rfl (by decide) ?_
      refine sm_pick [0, 1, 2, 3] rfl ?_
      exact w_X11_see_32 hl N R _ _ _ _ _ _ _ h
    · refine sm_icmp_lt (tgt := 31) (q := 11) dX11_see_8 (by decide) rfl (fun ht => absurd ht hb5) (fun _ => ?_)
      refine sm_iload_n (q := 12) dX11_see_11 rfl rfl 2 rfl ?_
      refine sm_bipush (v := 20) (q := 14) dX11_see_12 rfl (by decide) ?_
      rcases sm_if_e h with ⟨hb6, h⟩ | ⟨hb6, h⟩
      · refine sm_icmp_gt (tgt := 31) (q := 17) dX11_see_14 (by decide) rfl (fun _ => ?_) (fun hn => absurd hb6 hn)
        refine sm_iconst (v := 0) (q := 32) dX11_see_31 rfl (by decide) ?_
        refine sm_pick [0, 1, 2, 3] rfl ?_
        exact w_X11_see_32 hl N R _ _ _ _ _ _ _ h
      · refine sm_icmp_gt (tgt := 31) (q := 17) dX11_see_14 (by decide) rfl (fun ht => absurd ht hb6) (fun _ => ?_)
        refine sm_iload_n (q := 18) dX11_see_17 rfl rfl 3 rfl ?_
        rcases sm_if_e h with ⟨hb7, h⟩ | ⟨hb7, h⟩
        · refine sm_if_lt (tgt := 31) (q := 21) dX11_see_18 (by decide) rfl (fun _ => ?_) (fun hn => absurd hb7 hn)
          refine sm_iconst (v := 0) (q := 32) dX11_see_31 rfl (by decide) ?_
          refine sm_pick [0, 1, 2, 3] rfl ?_
          exact w_X11_see_32 hl N R _ _ _ _ _ _ _ h
        · refine sm_if_lt (tgt := 31) (q := 21) dX11_see_18 (by decide) rfl (fun ht => absurd ht hb7) (fun _ => ?_)
          refine sm_iload_n (q := 22) dX11_see_21 rfl rfl 3 rfl ?_
          refine sm_bipush (v := 8) (q := 24) dX11_see_22 rfl (by decide) ?_
          rcases sm_if_e h with ⟨hb8, h⟩ | ⟨hb8, h⟩
          · refine sm_icmp_gt (tgt := 31) (q := 27) dX11_see_24 (by decide) rfl (fun _ => ?_) (fun hn => absurd hb8 hn)
            refine sm_iconst (v := 0) (q := 32) dX11_see_31 rfl (by decide) ?_
            refine sm_pick [0, 1, 2, 3] rfl ?_
            exact w_X11_see_32 hl N R _ _ _ _ _ _ _ h
          · refine sm_icmp_gt (tgt := 31) (q := 27) dX11_see_24 (by decide) rfl (fun ht => absurd ht hb8) (fun _ => ?_)
            refine sm_iconst (v := 1) (q := 28) dX11_see_27 rfl (by decide) ?_
            refine sm_goto (q := 32) dX11_see_28 (by decide) ?_
            refine sm_pick [0, 1, 2, 3] rfl ?_
            exact w_X11_see_32 hl N R _ _ _ _ _ _ _ h
  · obtain rfl := Option.some.inj h
    exact sm_callVX (E := E9) (As := [.inl a1]) (S := []) (ex_X11_needPupil hl hc_p2) mv_X11_198 hc1 rfl (by decide) (Nat.le_of_ble_eq_true rfl) dX11_see_2
theorem e_X11_see {l : Launch} (hl : l.stackTraces = false) {N : Nat} {R : Nat → Nat → Nat} {a0 : Nat} {a1 : Int32} {a2 : Int32} {a3 : Int32} {I : (Nat → Nat → Int32)} {y : ((Int32 ⊕ String) × (Nat → Nat → Int32))} (h : f_X11_see N R a0 a1 a2 a3 I = some y) : sm_E l 1 mX11_see [.inr (.inl a0), .inl a1, .inl a2, .inl a3] (I, R) (sm_oI y.1) (y.2, R) :=
  sm_meth (by decide) (Nat.le_of_ble_eq_true rfl) (w_X11_see hl N R a0 a1 a2 a3 I y h)
theorem ek_X11_see {l : Launch} (hl : l.stackTraces = false) {N : Nat} {R : Nat → Nat → Nat} {a0 : Nat} {a1 : Int32} {a2 : Int32} {a3 : Int32} {I : (Nat → Nat → Int32)} {r : Int32} {J : (Nat → Nat → Int32)} (h : f_X11_see N R a0 a1 a2 a3 I = some (.inl r, J)) : sm_E l 1 mX11_see [.inr (.inl a0), .inl a1, .inl a2, .inl a3] (I, R) (.inl (some (.inl r))) (J, R) := by
  have h1 := e_X11_see (l := l) hl h
  exact h1
theorem ex_X11_see {l : Launch} (hl : l.stackTraces = false) {N : Nat} {R : Nat → Nat → Nat} {a0 : Nat} {a1 : Int32} {a2 : Int32} {a3 : Int32} {I : (Nat → Nat → Int32)} {E : String} {J : (Nat → Nat → Int32)} (h : f_X11_see N R a0 a1 a2 a3 I = some (.inr E, J)) : sm_E l 1 mX11_see [.inr (.inl a0), .inl a1, .inl a2, .inl a3] (I, R) (.inr E) (J, R) := by
  have h1 := e_X11_see (l := l) hl h
  exact h1
