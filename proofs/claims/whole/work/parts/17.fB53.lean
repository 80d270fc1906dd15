def f_X11_listen_27 (N : Nat) (R : Nat → Nat → Nat) : Nat → Nat → Int32 → Int32 → Int32 → Int32 → (Nat → Nat → Int32) → Option ((Int32 ⊕ String) × (Nat → Nat → Int32))
  | 0, _, _, _, _, _, _ => none
  | n + 1, a0, a1, a2, a3, a4, I =>
    sm_gd (sm_kd a0 = (11, 18)) <|
    sm_gd (sm_kd (R a0 3) = (7, 9)) <|
    sm_gd (sm_kd (R (R a0 3) 5) = (10, 4)) <|
    if (I (R (R a0 3) 5) 1) ≤ a4 then (
      if a1 = 0 then (
        some (.inl a2, I))
      else (
        some (.inl a3, I)))
    else (
      sm_gd (sm_kd (R a0 14) = (8, 5)) <|
      (f_X8_unlikeSkills N R (R a0 14) (R a0 3) a4 I).bind fun p7 =>
      if p7.1 ≤ a3 then (
        f_X11_listen_27 N R n a0 a1 a2 a3 (a4 + 1) p7.2)
      else (
        f_X11_listen_27 N R n a0 a1 a4 p7.1 (a4 + 1) p7.2))
def f_X11_listen (N : Nat) (R : Nat → Nat → Nat) : Nat → Int32 → (Nat → Nat → Int32) → Option ((Int32 ⊕ String) × (Nat → Nat → Int32)) := fun a0 a1 I =>
  sm_tb (f_X11_needWhat N R a1 (1 : Int32) I) fun r2 J3 =>
  sm_gd (sm_kd a0 = (11, 18)) <|
  sm_gd (sm_kd (R a0 14) = (8, 5)) <|
  (f_X8_look N R (R a0 14) (R a0 3) (R a0 7) J3).bind fun p6 =>
  f_X11_listen_27 N R N a0 a1 (-1 : Int32) (0 : Int32) (0 : Int32) p6.2
set_option maxHeartbeats 4000000 in
set_option maxRecDepth 100000 in
theorem w_X11_listen_27 {l : Launch} (hl : l.stackTraces = false) (N : Nat) (R : Nat → Nat → Nat) : ∀ (n : Nat) (a0 : Nat) (a1 : Int32) (a2 : Int32) (a3 : Int32) (a4 : Int32) (I : (Nat → Nat → Int32)) (y : ((Int32 ⊕ String) × (Nat → Nat → Int32))), f_X11_listen_27 N R n a0 a1 a2 a3 a4 I = some y → sm_W l 7 mX11_listen 27 [(0, .inr (.inl a0)), (1, .inl a1), (2, .inl a2), (3, .inl a3), (4, .inl a4)] [] (I, R) (sm_oI y.1) (y.2, R) := by
  intro n
  induction n with
  | zero => intro a0 a1 a2 a3 a4 I y h; cases h
  | succ n ih =>
    intro a0 a1 a2 a3 a4 I y h
    rw [f_X11_listen_27] at h
    refine sm_iload (q := 29) dX11_listen_27 rfl 4 rfl ?_
    refine sm_aload_n (q := 30) dX11_listen_29 rfl rfl 0 rfl ?_
    obtain ⟨hc1, h⟩ := sm_gd_e h
    refine sm_getR (r := R a0 3) (q := 33) dX11_listen_30 rfl fk_X11_20 hc1 (by decide) (by decide) rfl ?_
    obtain ⟨hc2, h⟩ := sm_gd_e h
    refine sm_getR (r := R (R a0 3) 5) (q := 36) dX11_listen_33 rfl fk_X11_137 hc2 (by decide) (by decide) rfl ?_
    obtain ⟨hc3, h⟩ := sm_gd_e h
    refine sm_getI (q := 39) dX11_listen_36 rfl fk_X11_140 hc3 (by decide) (by decide) ?_
    rcases sm_if_e h with ⟨hb4, h⟩ | ⟨hb4, h⟩
    · refine sm_icmp_ge (tgt := 75) (q := 42) dX11_listen_39 (by decide) rfl (fun _ => ?_) (fun hn => absurd hb4 hn)
      refine sm_iload_n (q := 76) dX11_listen_75 rfl rfl 1 rfl ?_
      rcases sm_if_e h with ⟨hb5, h⟩ | ⟨hb5, h⟩
      · refine sm_if_ne (tgt := 83) (q := 79) dX11_listen_76 (by decide) rfl (fun hn => absurd hb5 hn) (fun _ => ?_)
        refine sm_iload_n (q := 80) dX11_listen_79 rfl rfl 2 rfl ?_
        refine sm_goto (q := 84) dX11_listen_80 (by decide) ?_
        obtain rfl := Option.some.inj h
        exact sm_iret dX11_listen_84 rfl
      · refine sm_if_ne (tgt := 83) (q := 79) dX11_listen_76 (by decide) rfl (fun _ => ?_) (fun he => absurd he hb5)
        refine sm_iload_n (q := 84) dX11_listen_83 rfl rfl 3 rfl ?_
        obtain rfl := Option.some.inj h
        exact sm_iret dX11_listen_84 rfl
    · refine sm_icmp_ge (tgt := 75) (q := 42) dX11_listen_39 (by decide) rfl (fun ht => absurd ht hb4) (fun _ => ?_)
      refine sm_aload_n (q := 43) dX11_listen_42 rfl rfl 0 rfl ?_
      refine sm_getR (r := R a0 14) (q := 46) dX11_listen_43 rfl fk_X11_84 hc1 (by decide) (by decide) rfl ?_
      refine sm_aload_n (q := 47) dX11_listen_46 rfl rfl 0 rfl ?_
      refine sm_getR (r := R a0 3) (q := 50) dX11_listen_47 rfl fk_X11_20 hc1 (by decide) (by decide) rfl ?_
      refine sm_iload (q := 52) dX11_listen_50 rfl 4 rfl ?_
      obtain ⟨hc6, h⟩ := sm_gd_e h
      obtain ⟨p7, hc_p7, h⟩ := sm_bd_e h
      refine sm_callVi (q := 55) (As := [.inr (.inl (R a0 3)), .inl a4]) (S := []) (e_X8_unlikeSkills hc_p7) mv_X11_337 hc6 rfl (by decide) (Nat.le_of_ble_eq_true rfl) dX11_listen_52 rfl ?_
      refine sm_istore (L' := [(5, .inl p7.1), (0, .inr (.inl a0)), (1, .inl a1), (2, .inl a2), (3, .inl a3), (4, .inl a4)]) (q := 57) dX11_listen_55 rfl (by decide) rfl ?_
      refine sm_iload (q := 59) dX11_listen_57 rfl 0 rfl ?_
      refine sm_iload_n (q := 60) dX11_listen_59 rfl rfl 4 rfl ?_
      rcases sm_if_e h with ⟨hb8, h⟩ | ⟨hb8, h⟩
      · refine sm_icmp_le (tgt := 69) (q := 63) dX11_listen_60 (by decide) rfl (fun _ => ?_) (fun hn => absurd hb8 hn)
        refine sm_iinc (v := (a4 + 1)) (L' := [(4, .inl (a4 + 1)), (5, .inl p7.1), (0, .inr (.inl a0)), (1, .inl a1), (2, .inl a2), (3, .inl a3)]) (q := 72) dX11_listen_69 rfl 5 rfl rfl (by decide) rfl ?_
        refine sm_goto (q := 27) dX11_listen_72 (by decide) ?_
        refine sm_pick [2, 3, 4, 5, 0] rfl ?_
        exact ih _ _ _ _ _ _ _ h
      · refine sm_icmp_le (tgt := 69) (q := 63) dX11_listen_60 (by decide) rfl (fun ht => absurd ht hb8) (fun _ => ?_)
        refine sm_iload (q := 65) dX11_listen_63 rfl 0 rfl ?_
        refine sm_istore_n (L' := [(3, .inl p7.1), (5, .inl p7.1), (0, .inr (.inl a0)), (1, .inl a1), (2, .inl a2), (4, .inl a4)]) (q := 66) dX11_listen_65 rfl rfl (by decide) rfl ?_
        refine sm_iload (q := 68) dX11_listen_66 rfl 5 rfl ?_
        refine sm_istore_n (L' := [(2, .inl a4), (3, .inl p7.1), (5, .inl p7.1), (0, .inr (.inl a0)), (1, .inl a1), (4, .inl a4)]) (q := 69) dX11_listen_68 rfl rfl (by decide) rfl ?_
        refine sm_iinc (v := (a4 + 1)) (L' := [(4, .inl (a4 + 1)), (2, .inl a4), (3, .inl p7.1), (5, .inl p7.1), (0, .inr (.inl a0)), (1, .inl a1)]) (q := 72) dX11_listen_69 rfl 5 rfl rfl (by decide) rfl ?_
        refine sm_goto (q := 27) dX11_listen_72 (by decide) ?_
        refine sm_pick [4, 5, 1, 2, 0] rfl ?_
        exact ih _ _ _ _ _ _ _ h
set_option maxHeartbeats 4000000 in
set_option maxRecDepth 100000 in
theorem w_X11_listen {l : Launch} (hl : l.stackTraces = false) (N : Nat) (R : Nat → Nat → Nat) : ∀ (a0 : Nat) (a1 : Int32) (I : (Nat → Nat → Int32)) (y : ((Int32 ⊕ String) × (Nat → Nat → Int32))), f_X11_listen N R a0 a1 I = some y → sm_W l 7 mX11_listen 0 [(0, .inr (.inl a0)), (1, .inl a1)] [] (I, R) (sm_oI y.1) (y.2, R) := by
  intro a0 a1 I y h
  unfold f_X11_listen at h
  refine sm_iload_n (q := 1) dX11_listen_0 rfl rfl 1 rfl ?_
  refine sm_iconst (v := 1) (q := 2) dX11_listen_1 rfl (by decide) ?_
  rcases sm_tb_e h with ⟨r2, J3, hc_p1, h⟩ | ⟨E9, J9, hc_p1, h⟩
  · refine sm_callSv (q := 5) (As := [.inl a1, .inl (1 : Int32)]) (S := []) (ek_X11_needWhat hl hc_p1) ms_X11_256 rfl (by decide) (Nat.le_of_ble_eq_true rfl) dX11_listen_2 rfl ?_
    refine sm_aload_n (q := 6) dX11_listen_5 rfl rfl 0 rfl ?_
    obtain ⟨hc4, h⟩ := sm_gd_e h
    refine sm_getR (r := R a0 14) (q := 9) dX11_listen_6 rfl fk_X11_84 hc4 (by decide) (by decide) rfl ?_
    refine sm_aload_n (q := 10) dX11_listen_9 rfl rfl 0 rfl ?_
    refine sm_getR (r := R a0 3) (q := 13) dX11_listen_10 rfl fk_X11_20 hc4 (by decide) (by decide) rfl ?_
    refine sm_aload_n (q := 14) dX11_listen_13 rfl rfl 0 rfl ?_
    refine sm_getR (r := R a0 7) (q := 17) dX11_listen_14 rfl fk_X11_46 hc4 (by decide) (by decide) rfl ?_
    obtain ⟨hc5, h⟩ := sm_gd_e h
    obtain ⟨p6, hc_p6, h⟩ := sm_bd_e h
    refine sm_callVv (q := 20) (As := [.inr (.inl (R a0 3)), .inr (.inl (R a0 7))]) (S := []) (e_X8_look hc_p6) mv_X11_324 hc5 rfl (by decide) (Nat.le_of_ble_eq_true rfl) dX11_listen_17 rfl ?_
    refine sm_iconst (v := -1) (q := 21) dX11_listen_20 rfl (by decide) ?_
    refine sm_istore_n (L' := [(2, .inl (-1 : Int32)), (0, .inr (.inl a0)), (1, .inl a1)]) (q := 22) dX11_listen_21 rfl rfl (by decide) rfl ?_
    refine sm_iconst (v := 0) (q := 23) dX11_listen_22 rfl (by decide) ?_
    refine sm_istore_n (L' := [(3, .inl (0 : Int32)), (2, .inl (-1 : Int32)), (0, .inr (.inl a0)), (1, .inl a1)]) (q := 24) dX11_listen_23 rfl rfl (by decide) rfl ?_
    refine sm_iconst (v := 0) (q := 25) dX11_listen_24 rfl (by decide) ?_
    refine sm_istore (L' := [(4, .inl (0 : Int32)), (3, .inl (0 : Int32)), (2, .inl (-1 : Int32)), (0, .inr (.inl a0)), (1, .inl a1)]) (q := 27) dX11_listen_25 rfl (by decide) rfl ?_
    refine sm_pick [3, 4, 2, 1, 0] rfl ?_
    exact w_X11_listen_27 hl N R N _ _ _ _ _ _ _ h
  · obtain rfl := Option.some.inj h
    exact sm_callSX (E := E9) (As := [.inl a1, .inl (1 : Int32)]) (S := []) (ex_X11_needWhat hl hc_p1) ms_X11_256 rfl (by decide) (Nat.le_of_ble_eq_true rfl) dX11_listen_2
theorem e_X11_listen {l : Launch} (hl : l.stackTraces = false) {N : Nat} {R : Nat → Nat → Nat} {a0 : Nat} {a1 : Int32} {I : (Nat → Nat → Int32)} {y : ((Int32 ⊕ String) × (Nat → Nat → Int32))} (h : f_X11_listen N R a0 a1 I = some y) : sm_E l 7 mX11_listen [.inr (.inl a0), .inl a1] (I, R) (sm_oI y.1) (y.2, R) :=
  sm_meth (by decide) (Nat.le_of_ble_eq_true rfl) (w_X11_listen hl N R a0 a1 I y h)
theorem ek_X11_listen {l : Launch} (hl : l.stackTraces = false) {N : Nat} {R : Nat → Nat → Nat} {a0 : Nat} {a1 : Int32} {I : (Nat → Nat → Int32)} {r : Int32} {J : (Nat → Nat → Int32)} (h : f_X11_listen N R a0 a1 I = some (.inl r, J)) : sm_E l 7 mX11_listen [.inr (.inl a0), .inl a1] (I, R) (.inl (some (.inl r))) (J, R) := by
  have h1 := e_X11_listen (l := l) hl h
  exact h1
theorem ex_X11_listen {l : Launch} (hl : l.stackTraces = false) {N : Nat} {R : Nat → Nat → Nat} {a0 : Nat} {a1 : Int32} {I : (Nat → Nat → Int32)} {E : String} {J : (Nat → Nat → Int32)} (h : f_X11_listen N R a0 a1 I = some (.inr E, J)) : sm_E l 7 mX11_listen [.inr (.inl a0), .inl a1] (I, R) (.inr E) (J, R) := by
  have h1 := e_X11_listen (l := l) hl h
  exact h1
