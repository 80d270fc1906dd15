def f_X11_through_29 (N : Nat) (R : Nat → Nat → Nat) : Nat → Nat → Int32 → Int32 → (Nat → Nat → Int32) → Option ((Int32 ⊕ String) × (Nat → Nat → Int32))
  | 0, _, _, _, _ => none
  | n + 1, a0, a3, a4, I =>
    if (30 : Int32) < a4 then (
      some (.inl (-1 : Int32), I))
    else (
      sm_gd (sm_kd a0 = (11, 18)) <|
      sm_gd (sm_kd (R a0 10) = (4, 6)) <|
      sm_gd (sm_kd (R a0 3) = (7, 9)) <|
      (f_X7_nextHard N R (R a0 3) (R a0 10) I).bind fun p5 =>
      if (I (R a0 10) 0) < p5.1 then (
        if a3 = 0 then (
          some (.inl (-1 : Int32), p5.2))
        else (
          (f_X11_goToLast N R a0 a3 p5.2).bind fun p8 =>
          f_X11_through_29 N R n a0 p8.1 (a4 + 1) p8.2))
      else (
        some (.inl a4, p5.2)))
def f_X11_through (N : Nat) (R : Nat → Nat → Nat) : Nat → Int32 → (Nat → Nat → Int32) → Option ((Int32 ⊕ String) × (Nat → Nat → Int32)) := fun a0 a1 I =>
  sm_gd (sm_kd a0 = (11, 18)) <|
  sm_tb (f_X11_needPupil N R a0 a1 I) fun r3 J4 =>
  sm_gd (sm_kd (R a0 3) = (7, 9)) <|
  sm_gd (sm_kd (R (R a0 3) 5) = (10, 4)) <|
  (f_X10_openTo N R (R (R a0 3) 5) r3 J4).bind fun p7 =>
  sm_gd (sm_kd (R a0 10) = (4, 6)) <|
  (f_X4_become N R (R a0 10) r3 p7.2).bind fun p9 =>
  f_X11_through_29 N R N a0 p7.1 (0 : Int32) p9.2
set_option maxHeartbeats 4000000 in
set_option maxRecDepth 100000 in
theorem w_X11_through_29 {l : Launch} (hl : l.stackTraces = false) (N : Nat) (R : Nat → Nat → Nat) : ∀ (n : Nat) (a0 : Nat) (a3 : Int32) (a4 : Int32) (I : (Nat → Nat → Int32)) (y : ((Int32 ⊕ String) × (Nat → Nat → Int32))), f_X11_through_29 N R n a0 a3 a4 I = some y → sm_W l 5 mX11_through 29 [(0, .inr (.inl a0)), (3, .inl a3), (4, .inl a4)] [] (I, R) (sm_oI y.1) (y.2, R) := by
  intro n
  induction n with
  | zero => intro a0 a3 a4 I y h; cases h
  | succ n ih =>
    intro a0 a3 a4 I y h
    rw [f_X11_through_29] at h
    refine sm_iload (q := 31) dX11_through_29 rfl 2 rfl ?_
    refine sm_bipush (v := 30) (q := 33) dX11_through_31 rfl (by decide) ?_
    rcases sm_if_e h with ⟨hb1, h⟩ | ⟨hb1, h⟩
    · refine sm_icmp_gt (tgt := 78) (q := 36) dX11_through_33 (by decide) rfl (fun _ => ?_) (fun hn => absurd hb1 hn)
      refine sm_iconst (v := -1) (q := 79) dX11_through_78 rfl (by decide) ?_
      obtain rfl := Option.some.inj h
      exact sm_iret dX11_through_79 rfl
    · refine sm_icmp_gt (tgt := 78) (q := 36) dX11_through_33 (by decide) rfl (fun ht => absurd ht hb1) (fun _ => ?_)
      refine sm_aload_n (q := 37) dX11_through_36 rfl rfl 0 rfl ?_
      obtain ⟨hc2, h⟩ := sm_gd_e h
      refine sm_getR (r := R a0 10) (q := 40) dX11_through_37 rfl fk_X11_64 hc2 (by decide) (by decide) rfl ?_
      obtain ⟨hc3, h⟩ := sm_gd_e h
      refine sm_getI (q := 43) dX11_through_40 rfl fk_X11_202 hc3 (by decide) (by decide) ?_
      refine sm_aload_n (q := 44) dX11_through_43 rfl rfl 0 rfl ?_
      refine sm_getR (r := R a0 3) (q := 47) dX11_through_44 rfl fk_X11_20 hc2 (by decide) (by decide) rfl ?_
      refine sm_aload_n (q := 48) dX11_through_47 rfl rfl 0 rfl ?_
      refine sm_getR (r := R a0 10) (q := 51) dX11_through_48 rfl fk_X11_64 hc2 (by decide) (by decide) rfl ?_
      obtain ⟨hc4, h⟩ := sm_gd_e h
      obtain ⟨p5, hc_p5, h⟩ := sm_bd_e h
      refine sm_callVi (q := 54) (As := [.inr (.inl (R a0 10))]) (S := [.inl (I (R a0 10) 0)]) (e_X7_nextHard hc_p5) mv_X11_277 hc4 rfl (by decide) (Nat.le_of_ble_eq_true rfl) dX11_through_51 rfl ?_
      rcases sm_if_e h with ⟨hb6, h⟩ | ⟨hb6, h⟩
      · refine sm_icmp_lt (tgt := 60) (q := 57) dX11_through_54 (by decide) rfl (fun _ => ?_) (fun hn => absurd hb6 hn)
        refine sm_iload_n (q := 61) dX11_through_60 rfl rfl 1 rfl ?_
        rcases sm_if_e h with ⟨hb7, h⟩ | ⟨hb7, h⟩
        · refine sm_if_ne (tgt := 66) (q := 64) dX11_through_61 (by decide) rfl (fun hn => absurd hb7 hn) (fun _ => ?_)
          refine sm_iconst (v := -1) (q := 65) dX11_through_64 rfl (by decide) ?_
          obtain rfl := Option.some.inj h
          exact sm_iret dX11_through_65 rfl
        · refine sm_if_ne (tgt := 66) (q := 64) dX11_through_61 (by decide) rfl (fun _ => ?_) (fun he => absurd he hb7)
          refine sm_aload_n (q := 67) dX11_through_66 rfl rfl 0 rfl ?_
          refine sm_iload_n (q := 68) dX11_through_67 rfl rfl 1 rfl ?_
          obtain ⟨p8, hc_p8, h⟩ := sm_bd_e h
          refine sm_callVi (q := 71) (As := [.inl a3]) (S := []) (e_X11_goToLast hc_p8) mv_X11_280 hc2 rfl (by decide) (Nat.le_of_ble_eq_true rfl) dX11_through_68 rfl ?_
          refine sm_istore_n (L' := [(3, .inl p8.1), (0, .inr (.inl a0)), (4, .inl a4)]) (q := 72) dX11_through_71 rfl rfl (by decide) rfl ?_
          refine sm_iinc (v := (a4 + 1)) (L' := [(4, .inl (a4 + 1)), (3, .inl p8.1), (0, .inr (.inl a0))]) (q := 75) dX11_through_72 rfl 2 rfl rfl (by decide) rfl ?_
          refine sm_goto (q := 29) dX11_through_75 (by decide) ?_
          refine sm_pick [2, 1, 0] rfl ?_
          exact ih _ _ _ _ _ h
      · refine sm_icmp_lt (tgt := 60) (q := 57) dX11_through_54 (by decide) rfl (fun ht => absurd ht hb6) (fun _ => ?_)
        refine sm_iload (q := 59) dX11_through_57 rfl 2 rfl ?_
        obtain rfl := Option.some.inj h
        exact sm_iret dX11_through_59 rfl
set_option maxHeartbeats 4000000 in
set_option maxRecDepth 100000 in
theorem w_X11_through {l : Launch} (hl : l.stackTraces = false) (N : Nat) (R : Nat → Nat → Nat) : ∀ (a0 : Nat) (a1 : Int32) (I : (Nat → Nat → Int32)) (y : ((Int32 ⊕ String) × (Nat → Nat → Int32))), f_X11_through N R a0 a1 I = some y → sm_W l 5 mX11_through 0 [(0, .inr (.inl a0)), (1, .inl a1)] [] (I, R) (sm_oI y.1) (y.2, R) := by
  intro a0 a1 I y h
  unfold f_X11_through at h
  refine sm_aload_n (q := 1) dX11_through_0 rfl rfl 0 rfl ?_
  refine sm_iload_n (q := 2) dX11_through_1 rfl rfl 1 rfl ?_
  obtain ⟨hc1, h⟩ := sm_gd_e h
  rcases sm_tb_e h with ⟨r3, J4, hc_p2, h⟩ | ⟨E9, J9, hc_p2, h⟩
  · refine sm_callVr (q := 5) (As := [.inl a1]) (S := []) (ek_X11_needPupil hl hc_p2) mv_X11_198 hc1 rfl (by decide) (Nat.le_of_ble_eq_true rfl) dX11_through_2 rfl ?_
    refine sm_astore_n (L' := [(2, .inr (.inl r3)), (0, .inr (.inl a0)), (1, .inl a1)]) (q := 6) dX11_through_5 rfl rfl (by decide) rfl ?_
    refine sm_aload_n (q := 7) dX11_through_6 rfl rfl 1 rfl ?_
    refine sm_getR (r := R a0 3) (q := 10) dX11_through_7 rfl fk_X11_20 hc1 (by decide) (by decide) rfl ?_
    obtain ⟨hc5, h⟩ := sm_gd_e h
    refine sm_getR (r := R (R a0 3) 5) (q := 13) dX11_through_10 rfl fk_X11_137 hc5 (by decide) (by decide) rfl ?_
    refine sm_aload_n (q := 14) dX11_through_13 rfl rfl 0 rfl ?_
    obtain ⟨hc6, h⟩ := sm_gd_e h
    obtain ⟨p7, hc_p7, h⟩ := sm_bd_e h
    refine sm_callVi (q := 17) (As := [.inr (.inl r3)]) (S := []) (e_X10_openTo hc_p7) mv_X11_271 hc6 rfl (by decide) (Nat.le_of_ble_eq_true rfl) dX11_through_14 rfl ?_
    refine sm_istore_n (L' := [(3, .inl p7.1), (2, .inr (.inl r3)), (0, .inr (.inl a0)), (1, .inl a1)]) (q := 18) dX11_through_17 rfl rfl (by decide) rfl ?_
    refine sm_aload_n (q := 19) dX11_through_18 rfl rfl 2 rfl ?_
    refine sm_getR (r := R a0 10) (q := 22) dX11_through_19 rfl fk_X11_64 hc1 (by decide) (by decide) rfl ?_
    refine sm_aload_n (q := 23) dX11_through_22 rfl rfl 1 rfl ?_
    obtain ⟨hc8, h⟩ := sm_gd_e h
    obtain ⟨p9, hc_p9, h⟩ := sm_bd_e h
    refine sm_callVv (q := 26) (As := [.inr (.inl r3)]) (S := []) (e_X4_become hc_p9) mv_X11_225 hc8 rfl (by decide) (Nat.le_of_ble_eq_true rfl) dX11_through_23 rfl ?_
    refine sm_iconst (v := 0) (q := 27) dX11_through_26 rfl (by decide) ?_
    refine sm_istore (L' := [(4, .inl (0 : Int32)), (3, .inl p7.1), (2, .inr (.inl r3)), (0, .inr (.inl a0)), (1, .inl a1)]) (q := 29) dX11_through_27 rfl (by decide) rfl ?_
    refine sm_pick [3, 1, 0] rfl ?_
    exact w_X11_through_29 hl N R N _ _ _ _ _ h
  · obtain rfl := Option.some.inj h
    exact sm_callVX (E := E9) (As := [.inl a1]) (S := []) (ex_X11_needPupil hl hc_p2) mv_X11_198 hc1 rfl (by decide) (Nat.le_of_ble_eq_true rfl) dX11_through_2
theorem e_X11_through {l : Launch} (hl : l.stackTraces = false) {N : Nat} {R : Nat → Nat → Nat} {a0 : Nat} {a1 : Int32} {I : (Nat → Nat → Int32)} {y : ((Int32 ⊕ String) × (Nat → Nat → Int32))} (h : f_X11_through N R a0 a1 I = some y) : sm_E l 5 mX11_through [.inr (.inl a0), .inl a1] (I, R) (sm_oI y.1) (y.2, R) :=
  sm_meth (by decide) (Nat.le_of_ble_eq_true rfl) (w_X11_through hl N R a0 a1 I y h)
theorem ek_X11_through {l : Launch} (hl : l.stackTraces = false) {N : Nat} {R : Nat → Nat → Nat} {a0 : Nat} {a1 : Int32} {I : (Nat → Nat → Int32)} {r : Int32} {J : (Nat → Nat → Int32)} (h : f_X11_through N R a0 a1 I = some (.inl r, J)) : sm_E l 5 mX11_through [.inr (.inl a0), .inl a1] (I, R) (.inl (some (.inl r))) (J, R) := by
  have h1 := e_X11_through (l := l) hl h
  exact h1
theorem ex_X11_through {l : Launch} (hl : l.stackTraces = false) {N : Nat} {R : Nat → Nat → Nat} {a0 : Nat} {a1 : Int32} {I : (Nat → Nat → Int32)} {E : String} {J : (Nat → Nat → Int32)} (h : f_X11_through N R a0 a1 I = some (.inr E, J)) : sm_E l 5 mX11_through [.inr (.inl a0), .inl a1] (I, R) (.inr E) (J, R) := by
  have h1 := e_X11_through (l := l) hl h
  exact h1
