def f_X11_concert_53 (N : Nat) (R : Nat → Nat → Nat) : Nat → Nat → Int32 → Int32 → Int32 → (Nat → Nat → Int32) → Option ((Int32 ⊕ String) × (Nat → Nat → Int32))
  | 0, _, _, _, _, _ => none
  | n + 1, a0, a2, a3, a4, I =>
    sm_gd (sm_kd a0 = (11, 18)) <|
    sm_gd (sm_kd (R a0 3) = (7, 9)) <|
    sm_gd (sm_kd (R (R a0 3) 5) = (10, 4)) <|
    if (I (R (R a0 3) 5) 1) ≤ a4 then (
      some (.inl (-1 : Int32), I))
    else (
      if ((a3 >>> (a4 &&& 31)) &&& (1 : Int32)) = (1 : Int32) then (
        (f_X11_playAhead N R a0 a4 a3 I).bind fun p6 =>
        if p6.1 = a2 then (
          some (.inl a4, p6.2))
        else (
          f_X11_concert_53 N R n a0 a2 a3 (a4 + 1) p6.2))
      else (
        f_X11_concert_53 N R n a0 a2 a3 (a4 + 1) I))
def f_X11_concert (N : Nat) (R : Nat → Nat → Nat) : Nat → Int32 → Int32 → (Nat → Nat → Int32) → Option ((Int32 ⊕ String) × (Nat → Nat → Int32)) := fun a0 a1 a2 I =>
  if a2 < 0 then (
    some (.inr "java/lang/IllegalArgumentException", I))
  else (
    if a1 < 0 then (
      some (.inr "java/lang/IllegalArgumentException", I))
    else (
      if a1 ≤ (1 : Int32) then (
        if a1 = 0 then (
          sm_gd (sm_kd a0 = (11, 18)) <|
          (f_X11_whoseIsDone N R a0 I).bind fun p6 =>
          f_X11_concert_53 N R N a0 a2 p6.1 (0 : Int32) p6.2)
        else (
          sm_gd (sm_kd a0 = (11, 18)) <|
          sm_gd (sm_kd (R a0 3) = (7, 9)) <|
          sm_gd (sm_kd (R (R a0 3) 5) = (10, 4)) <|
          f_X11_concert_53 N R N a0 a2 (((1 : Int32) <<< ((I (R (R a0 3) 5) 1) &&& 31)) - (1 : Int32)) (0 : Int32) I))
      else (
        some (.inr "java/lang/IllegalArgumentException", I))))
set_option maxHeartbeats 4000000 in
set_option maxRecDepth 100000 in
theorem w_X11_concert_53 {l : Launch} (hl : l.stackTraces = false) (N : Nat) (R : Nat → Nat → Nat) : ∀ (n : Nat) (a0 : Nat) (a2 : Int32) (a3 : Int32) (a4 : Int32) (I : (Nat → Nat → Int32)) (y : ((Int32 ⊕ String) × (Nat → Nat → Int32))), f_X11_concert_53 N R n a0 a2 a3 a4 I = some y → sm_W l 3 mX11_concert 53 [(0, .inr (.inl a0)), (2, .inl a2), (3, .inl a3), (4, .inl a4)] [] (I, R) (sm_oI y.1) (y.2, R) := by
  intro n
  induction n with
  | zero => intro a0 a2 a3 a4 I y h; cases h
  | succ n ih =>
    intro a0 a2 a3 a4 I y h
    rw [f_X11_concert_53] at h
    refine sm_iload (q := 55) dX11_concert_53 rfl 3 rfl ?_
    refine sm_aload_n (q := 56) dX11_concert_55 rfl rfl 0 rfl ?_
    obtain ⟨hc1, h⟩ := sm_gd_e h
    refine sm_getR (r := R a0 3) (q := 59) dX11_concert_56 rfl fk_X11_20 hc1 (by decide) (by decide) rfl ?_
    obtain ⟨hc2, h⟩ := sm_gd_e h
    refine sm_getR (r := R (R a0 3) 5) (q := 62) dX11_concert_59 rfl fk_X11_137 hc2 (by decide) (by decide) rfl ?_
    obtain ⟨hc3, h⟩ := sm_gd_e h
    refine sm_getI (q := 65) dX11_concert_62 rfl fk_X11_140 hc3 (by decide) (by decide) ?_
    rcases sm_if_e h with ⟨hb4, h⟩ | ⟨hb4, h⟩
    · refine sm_icmp_ge (tgt := 98) (q := 68) dX11_concert_65 (by decide) rfl (fun _ => ?_) (fun hn => absurd hb4 hn)
      refine sm_iconst (v := -1) (q := 99) dX11_concert_98 rfl (by decide) ?_
      obtain rfl := Option.some.inj h
      exact sm_iret dX11_concert_99 rfl
    · refine sm_icmp_ge (tgt := 98) (q := 68) dX11_concert_65 (by decide) rfl (fun ht => absurd ht hb4) (fun _ => ?_)
      refine sm_iload_n (q := 69) dX11_concert_68 rfl rfl 2 rfl ?_
      refine sm_iload (q := 71) dX11_concert_69 rfl 3 rfl ?_
      refine sm_ishr (q := 72) dX11_concert_71 rfl ?_
      refine sm_iconst (v := 1) (q := 73) dX11_concert_72 rfl (by decide) ?_
      refine sm_iand (q := 74) dX11_concert_73 rfl ?_
      refine sm_iconst (v := 1) (q := 75) dX11_concert_74 rfl (by decide) ?_
      rcases sm_if_e h with ⟨hb5, h⟩ | ⟨hb5, h⟩
      · refine sm_icmp_ne (tgt := 92) (q := 78) dX11_concert_75 (by decide) rfl (fun hn => absurd hb5 hn) (fun _ => ?_)
        refine sm_aload_n (q := 79) dX11_concert_78 rfl rfl 0 rfl ?_
        refine sm_iload (q := 81) dX11_concert_79 rfl 3 rfl ?_
        refine sm_iload_n (q := 82) dX11_concert_81 rfl rfl 2 rfl ?_
        obtain ⟨p6, hc_p6, h⟩ := sm_bd_e h
        refine sm_callVi (q := 85) (As := [.inl a4, .inl a3]) (S := []) (e_X11_playAhead hc_p6) mv_X11_307 hc1 rfl (by decide) (Nat.le_of_ble_eq_true rfl) dX11_concert_82 rfl ?_
        refine sm_iload_n (q := 86) dX11_concert_85 rfl rfl 1 rfl ?_
        rcases sm_if_e h with ⟨hb7, h⟩ | ⟨hb7, h⟩
        · refine sm_icmp_ne (tgt := 92) (q := 89) dX11_concert_86 (by decide) rfl (fun hn => absurd hb7 hn) (fun _ => ?_)
          refine sm_iload (q := 91) dX11_concert_89 rfl 3 rfl ?_
          obtain rfl := Option.some.inj h
          exact sm_iret dX11_concert_91 rfl
        · refine sm_icmp_ne (tgt := 92) (q := 89) dX11_concert_86 (by decide) rfl (fun _ => ?_) (fun he => absurd he hb7)
          refine sm_iinc (v := (a4 + 1)) (L' := [(4, .inl (a4 + 1)), (0, .inr (.inl a0)), (2, .inl a2), (3, .inl a3)]) (q := 95) dX11_concert_92 rfl 3 rfl rfl (by decide) rfl ?_
          refine sm_goto (q := 53) dX11_concert_95 (by decide) ?_
          refine sm_pick [1, 2, 3, 0] rfl ?_
          exact ih _ _ _ _ _ _ h
      · refine sm_icmp_ne (tgt := 92) (q := 78) dX11_concert_75 (by decide) rfl (fun _ => ?_) (fun he => absurd he hb5)
        refine sm_iinc (v := (a4 + 1)) (L' := [(4, .inl (a4 + 1)), (0, .inr (.inl a0)), (2, .inl a2), (3, .inl a3)]) (q := 95) dX11_concert_92 rfl 3 rfl rfl (by decide) rfl ?_
        refine sm_goto (q := 53) dX11_concert_95 (by decide) ?_
        refine sm_pick [1, 2, 3, 0] rfl ?_
        exact ih _ _ _ _ _ _ h
set_option maxHeartbeats 4000000 in
set_option maxRecDepth 100000 in
theorem w_X11_concert {l : Launch} (hl : l.stackTraces = false) (N : Nat) (R : Nat → Nat → Nat) : ∀ (a0 : Nat) (a1 : Int32) (a2 : Int32) (I : (Nat → Nat → Int32)) (y : ((Int32 ⊕ String) × (Nat → Nat → Int32))), f_X11_concert N R a0 a1 a2 I = some y → sm_W l 3 mX11_concert 0 [(0, .inr (.inl a0)), (1, .inl a1), (2, .inl a2)] [] (I, R) (sm_oI y.1) (y.2, R) := by
  intro a0 a1 a2 I y h
  unfold f_X11_concert at h
  refine sm_iload_n (q := 1) dX11_concert_0 rfl rfl 2 rfl ?_
  rcases sm_if_e h with ⟨hb1, h⟩ | ⟨hb1, h⟩
  · refine sm_if_lt (tgt := 13) (q := 4) dX11_concert_1 (by decide) rfl (fun _ => ?_) (fun hn => absurd hb1 hn)
    obtain rfl := Option.some.inj h
    exact sm_throwW (tx := "no such concert") (j := 24) hl (by decide +kernel) (by decide +kernel) (by decide) cl_X11_109 in_IAE (List.mem_of_getElem? (i := 24) rfl) th_X11_113 tg_X11_109_113 (Nat.le_of_ble_eq_true rfl) dX11_concert_13 dX11_concert_16 dX11_concert_17 dX11_concert_20 dX11_concert_23
  · refine sm_if_lt (tgt := 13) (q := 4) dX11_concert_1 (by decide) rfl (fun ht => absurd ht hb1) (fun _ => ?_)
    refine sm_iload_n (q := 5) dX11_concert_4 rfl rfl 1 rfl ?_
    rcases sm_if_e h with ⟨hb2, h⟩ | ⟨hb2, h⟩
    · refine sm_if_lt (tgt := 13) (q := 8) dX11_concert_5 (by decide) rfl (fun _ => ?_) (fun hn => absurd hb2 hn)
      obtain rfl := Option.some.inj h
      exact sm_throwW (tx := "no such concert") (j := 24) hl (by decide +kernel) (by decide +kernel) (by decide) cl_X11_109 in_IAE (List.mem_of_getElem? (i := 24) rfl) th_X11_113 tg_X11_109_113 (Nat.le_of_ble_eq_true rfl) dX11_concert_13 dX11_concert_16 dX11_concert_17 dX11_concert_20 dX11_concert_23
    · refine sm_if_lt (tgt := 13) (q := 8) dX11_concert_5 (by decide) rfl (fun ht => absurd ht hb2) (fun _ => ?_)
      refine sm_iload_n (q := 9) dX11_concert_8 rfl rfl 1 rfl ?_
      refine sm_iconst (v := 1) (q := 10) dX11_concert_9 rfl (by decide) ?_
      rcases sm_if_e h with ⟨hb3, h⟩ | ⟨hb3, h⟩
      · refine sm_icmp_le (tgt := 24) (q := 13) dX11_concert_10 (by decide) rfl (fun _ => ?_) (fun hn => absurd hb3 hn)
        refine sm_iload_n (q := 25) dX11_concert_24 rfl rfl 1 rfl ?_
        rcases sm_if_e h with ⟨hb4, h⟩ | ⟨hb4, h⟩
        · refine sm_if_ne (tgt := 35) (q := 28) dX11_concert_25 (by decide) rfl (fun hn => absurd hb4 hn) (fun _ => ?_)
          refine sm_aload_n (q := 29) dX11_concert_28 rfl rfl 0 rfl ?_
          obtain ⟨hc5, h⟩ := sm_gd_e h
          obtain ⟨p6, hc_p6, h⟩ := sm_bd_e h
          refine sm_callVi (q := 32) (As := []) (S := []) (e_X11_whoseIsDone hc_p6) mv_X11_153 hc5 rfl (by decide) (Nat.le_of_ble_eq_true rfl) dX11_concert_29 rfl ?_
          refine sm_goto (q := 49) dX11_concert_32 (by decide) ?_
          refine sm_istore_n (L' := [(3, .inl p6.1), (0, .inr (.inl a0)), (1, .inl a1), (2, .inl a2)]) (q := 50) dX11_concert_49 rfl rfl (by decide) rfl ?_
          refine sm_iconst (v := 0) (q := 51) dX11_concert_50 rfl (by decide) ?_
          refine sm_istore (L' := [(4, .inl (0 : Int32)), (3, .inl p6.1), (0, .inr (.inl a0)), (1, .inl a1), (2, .inl a2)]) (q := 53) dX11_concert_51 rfl (by decide) rfl ?_
          refine sm_pick [2, 4, 1, 0] rfl ?_
          exact w_X11_concert_53 hl N R N _ _ _ _ _ _ h
        · refine sm_if_ne (tgt := 35) (q := 28) dX11_concert_25 (by decide) rfl (fun _ => ?_) (fun he => absurd he hb4)
          refine sm_iconst (v := 1) (q := 36) dX11_concert_35 rfl (by decide) ?_
          refine sm_aload_n (q := 37) dX11_concert_36 rfl rfl 0 rfl ?_
          obtain ⟨hc7, h⟩ := sm_gd_e h
          refine sm_getR (r := R a0 3) (q := 40) dX11_concert_37 rfl fk_X11_20 hc7 (by decide) (by decide) rfl ?_
          obtain ⟨hc8, h⟩ := sm_gd_e h
          refine sm_getR (r := R (R a0 3) 5) (q := 43) dX11_concert_40 rfl fk_X11_137 hc8 (by decide) (by decide) rfl ?_
          obtain ⟨hc9, h⟩ := sm_gd_e h
          refine sm_getI (q := 46) dX11_concert_43 rfl fk_X11_140 hc9 (by decide) (by decide) ?_
          refine sm_ishl (q := 47) dX11_concert_46 rfl ?_
          refine sm_iconst (v := 1) (q := 48) dX11_concert_47 rfl (by decide) ?_
          refine sm_isub (q := 49) dX11_concert_48 rfl ?_
          refine sm_istore_n (L' := [(3, .inl (((1 : Int32) <<< ((I (R (R a0 3) 5) 1) &&& 31)) - (1 : Int32))), (0, .inr (.inl a0)), (1, .inl a1), (2, .inl a2)]) (q := 50) dX11_concert_49 rfl rfl (by decide) rfl ?_
          refine sm_iconst (v := 0) (q := 51) dX11_concert_50 rfl (by decide) ?_
          refine sm_istore (L' := [(4, .inl (0 : Int32)), (3, .inl (((1 : Int32) <<< ((I (R (R a0 3) 5) 1) &&& 31)) - (1 : Int32))), (0, .inr (.inl a0)), (1, .inl a1), (2, .inl a2)]) (q := 53) dX11_concert_51 rfl (by decide) rfl ?_
          refine sm_pick [2, 4, 1, 0] rfl ?_
          exact w_X11_concert_53 hl N R N _ _ _ _ _ _ h
      · refine sm_icmp_le (tgt := 24) (q := 13) dX11_concert_10 (by decide) rfl (fun ht => absurd ht hb3) (fun _ => ?_)
        obtain rfl := Option.some.inj h
        exact sm_throwW (tx := "no such concert") (j := 24) hl (by decide +kernel) (by decide +kernel) (by decide) cl_X11_109 in_IAE (List.mem_of_getElem? (i := 24) rfl) th_X11_113 tg_X11_109_113 (Nat.le_of_ble_eq_true rfl) dX11_concert_13 dX11_concert_16 dX11_concert_17 dX11_concert_20 dX11_concert_23
theorem e_X11_concert {l : Launch} (hl : l.stackTraces = false) {N : Nat} {R : Nat → Nat → Nat} {a0 : Nat} {a1 : Int32} {a2 : Int32} {I : (Nat → Nat → Int32)} {y : ((Int32 ⊕ String) × (Nat → Nat → Int32))} (h : f_X11_concert N R a0 a1 a2 I = some y) : sm_E l 3 mX11_concert [.inr (.inl a0), .inl a1, .inl a2] (I, R) (sm_oI y.1) (y.2, R) :=
  sm_meth (by decide) (Nat.le_of_ble_eq_true rfl) (w_X11_concert hl N R a0 a1 a2 I y h)
theorem ek_X11_concert {l : Launch} (hl : l.stackTraces = false) {N : Nat} {R : Nat → Nat → Nat} {a0 : Nat} {a1 : Int32} {a2 : Int32} {I : (Nat → Nat → Int32)} {r : Int32} {J : (Nat → Nat → Int32)} (h : f_X11_concert N R a0 a1 a2 I = some (.inl r, J)) : sm_E l 3 mX11_concert [.inr (.inl a0), .inl a1, .inl a2] (I, R) (.inl (some (.inl r))) (J, R) := by
  have h1 := e_X11_concert (l := l) hl h
  exact h1
theorem ex_X11_concert {l : Launch} (hl : l.stackTraces = false) {N : Nat} {R : Nat → Nat → Nat} {a0 : Nat} {a1 : Int32} {a2 : Int32} {I : (Nat → Nat → Int32)} {E : String} {J : (Nat → Nat → Int32)} (h : f_X11_concert N R a0 a1 a2 I = some (.inr E, J)) : sm_E l 3 mX11_concert [.inr (.inl a0), .inl a1, .inl a2] (I, R) (.inr E) (J, R) := by
  have h1 := e_X11_concert (l := l) hl h
  exact h1
