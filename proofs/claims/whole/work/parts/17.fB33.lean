def f_X11_toBeDone_37 (N : Nat) (R : Nat → Nat → Nat) : Nat → Nat → Int32 → Int32 → Int32 → (Nat → Nat → Int32) → Option ((Int32 ⊕ String) × (Nat → Nat → Int32))
  | 0, _, _, _, _, _ => none
  | n + 1, a0, a2, a4, a5, I =>
    if (30 : Int32) < a5 then (
      some (.inl (-1 : Int32), I))
    else (
      sm_gd (sm_kd a0 = (11, 18)) <|
      sm_gd (sm_kd (R a0 11) = (4, 6)) <|
      (f_X4_become N R (R a0 11) (R a0 10) I).bind fun p4 =>
      sm_gd (sm_kd (R a0 3) = (7, 9)) <|
      (f_X7_passWeeks N R (R a0 3) (R a0 11) a2 p4.2).bind fun p6 =>
      (f_X7_isDone N R (R a0 3) (R a0 11) p6.2).bind fun p7 =>
      if p7.1 = 0 then (
        if a4 = 0 then (
          some (.inl (-1 : Int32), p7.2))
        else (
          (f_X11_goToLast N R a0 a4 p7.2).bind fun p10 =>
          f_X11_toBeDone_37 N R n a0 a2 p10.1 (a5 + 1) p10.2))
      else (
        some (.inl a5, p7.2)))
def f_X11_toBeDone (N : Nat) (R : Nat → Nat → Nat) : Nat → Int32 → Int32 → (Nat → Nat → Int32) → Option ((Int32 ⊕ String) × (Nat → Nat → Int32)) := fun a0 a1 a2 I =>
  sm_gd (sm_kd a0 = (11, 18)) <|
  sm_tb (f_X11_needPupil N R a0 a1 I) fun r3 J4 =>
  sm_tb (f_X11_needBetween N R a2 (0 : Int32) (30 : Int32) J4) fun r6 J7 =>
  sm_gd (sm_kd (R a0 3) = (7, 9)) <|
  sm_gd (sm_kd (R (R a0 3) 5) = (10, 4)) <|
  (f_X10_openTo N R (R (R a0 3) 5) r3 J7).bind fun p10 =>
  sm_gd (sm_kd (R a0 10) = (4, 6)) <|
  (f_X4_become N R (R a0 10) r3 p10.2).bind fun p12 =>
  f_X11_toBeDone_37 N R N a0 a2 p10.1 (0 : Int32) p12.2
set_option maxHeartbeats 4000000 in
set_option maxRecDepth 100000 in
theorem w_X11_toBeDone_37 {l : Launch} (hl : l.stackTraces = false) (N : Nat) (R : Nat → Nat → Nat) : ∀ (n : Nat) (a0 : Nat) (a2 : Int32) (a4 : Int32) (a5 : Int32) (I : (Nat → Nat → Int32)) (y : ((Int32 ⊕ String) × (Nat → Nat → Int32))), f_X11_toBeDone_37 N R n a0 a2 a4 a5 I = some y → sm_W l 5 mX11_toBeDone 37 [(0, .inr (.inl a0)), (2, .inl a2), (4, .inl a4), (5, .inl a5)] [] (I, R) (sm_oI y.1) (y.2, R) := by
  intro n
  induction n with
  | zero => intro a0 a2 a4 a5 I y h; cases h
  | succ n ih =>
    intro a0 a2 a4 a5 I y h
    rw [f_X11_toBeDone_37] at h
    refine sm_iload (q := 39) dX11_toBeDone_37 rfl 3 rfl ?_
    refine sm_bipush (v := 30) (q := 41) dX11_toBeDone_39 rfl (by decide) ?_
    rcases sm_if_e h with ⟨hb1, h⟩ | ⟨hb1, h⟩
    · refine sm_icmp_gt (tgt := 105) (q := 44) dX11_toBeDone_41 (by decide) rfl (fun _ => ?_) (fun hn => absurd hb1 hn)
      refine sm_iconst (v := -1) (q := 106) dX11_toBeDone_105 rfl (by decide) ?_
      obtain rfl := Option.some.inj h
      exact sm_iret dX11_toBeDone_106 rfl
    · refine sm_icmp_gt (tgt := 105) (q := 44) dX11_toBeDone_41 (by decide) rfl (fun ht => absurd ht hb1) (fun _ => ?_)
      refine sm_aload_n (q := 45) dX11_toBeDone_44 rfl rfl 0 rfl ?_
      obtain ⟨hc2, h⟩ := sm_gd_e h
      refine sm_getR (r := R a0 11) (q := 48) dX11_toBeDone_45 rfl fk_X11_68 hc2 (by decide) (by decide) rfl ?_
      refine sm_aload_n (q := 49) dX11_toBeDone_48 rfl rfl 0 rfl ?_
      refine sm_getR (r := R a0 10) (q := 52) dX11_toBeDone_49 rfl fk_X11_64 hc2 (by decide) (by decide) rfl ?_
      obtain ⟨hc3, h⟩ := sm_gd_e h
      obtain ⟨p4, hc_p4, h⟩ := sm_bd_e h
      refine sm_callVv (q := 55) (As := [.inr (.inl (R a0 10))]) (S := []) (e_X4_become hc_p4) mv_X11_225 hc3 rfl (by decide) (Nat.le_of_ble_eq_true rfl) dX11_toBeDone_52 rfl ?_
      refine sm_aload_n (q := 56) dX11_toBeDone_55 rfl rfl 0 rfl ?_
      refine sm_getR (r := R a0 3) (q := 59) dX11_toBeDone_56 rfl fk_X11_20 hc2 (by decide) (by decide) rfl ?_
      refine sm_aload_n (q := 60) dX11_toBeDone_59 rfl rfl 0 rfl ?_
      refine sm_getR (r := R a0 11) (q := 63) dX11_toBeDone_60 rfl fk_X11_68 hc2 (by decide) (by decide) rfl ?_
      refine sm_iload_n (q := 64) dX11_toBeDone_63 rfl rfl 1 rfl ?_
      obtain ⟨hc5, h⟩ := sm_gd_e h
      obtain ⟨p6, hc_p6, h⟩ := sm_bd_e h
      refine sm_callVv (q := 67) (As := [.inr (.inl (R a0 11)), .inl a2]) (S := []) (e_X7_passWeeks hc_p6) mv_X11_239 hc5 rfl (by decide) (Nat.le_of_ble_eq_true rfl) dX11_toBeDone_64 rfl ?_
      refine sm_aload_n (q := 68) dX11_toBeDone_67 rfl rfl 0 rfl ?_
      refine sm_getR (r := R a0 3) (q := 71) dX11_toBeDone_68 rfl fk_X11_20 hc2 (by decide) (by decide) rfl ?_
      refine sm_aload_n (q := 72) dX11_toBeDone_71 rfl rfl 0 rfl ?_
      refine sm_getR (r := R a0 11) (q := 75) dX11_toBeDone_72 rfl fk_X11_68 hc2 (by decide) (by decide) rfl ?_
      obtain ⟨p7, hc_p7, h⟩ := sm_bd_e h
      refine sm_callVi (q := 78) (As := [.inr (.inl (R a0 11))]) (S := []) (e_X7_isDone hc_p7) mv_X11_174 hc5 rfl (by decide) (Nat.le_of_ble_eq_true rfl) dX11_toBeDone_75 rfl ?_
      rcases sm_if_e h with ⟨hb8, h⟩ | ⟨hb8, h⟩
      · refine sm_if_eq (tgt := 84) (q := 81) dX11_toBeDone_78 (by decide) rfl (fun _ => ?_) (fun hn => absurd hb8 hn)
        refine sm_iload (q := 86) dX11_toBeDone_84 rfl 2 rfl ?_
        rcases sm_if_e h with ⟨hb9, h⟩ | ⟨hb9, h⟩
        · refine sm_if_ne (tgt := 91) (q := 89) dX11_toBeDone_86 (by decide) rfl (fun hn => absurd hb9 hn) (fun _ => ?_)
          refine sm_iconst (v := -1) (q := 90) dX11_toBeDone_89 rfl (by decide) ?_
          obtain rfl := Option.some.inj h
          exact sm_iret dX11_toBeDone_90 rfl
        · refine sm_if_ne (tgt := 91) (q := 89) dX11_toBeDone_86 (by decide) rfl (fun _ => ?_) (fun he => absurd he hb9)
          refine sm_aload_n (q := 92) dX11_toBeDone_91 rfl rfl 0 rfl ?_
          refine sm_iload (q := 94) dX11_toBeDone_92 rfl 2 rfl ?_
          obtain ⟨p10, hc_p10, h⟩ := sm_bd_e h
          refine sm_callVi (q := 97) (As := [.inl a4]) (S := []) (e_X11_goToLast hc_p10) mv_X11_280 hc2 rfl (by decide) (Nat.le_of_ble_eq_true rfl) dX11_toBeDone_94 rfl ?_
          refine sm_istore (L' := [(4, .inl p10.1), (0, .inr (.inl a0)), (2, .inl a2), (5, .inl a5)]) (q := 99) dX11_toBeDone_97 rfl (by decide) rfl ?_
          refine sm_iinc (v := (a5 + 1)) (L' := [(5, .inl (a5 + 1)), (4, .inl p10.1), (0, .inr (.inl a0)), (2, .inl a2)]) (q := 102) dX11_toBeDone_99 rfl 3 rfl rfl (by decide) rfl ?_
          refine sm_goto (q := 37) dX11_toBeDone_102 (by decide) ?_
          refine sm_pick [2, 3, 1, 0] rfl ?_
          exact ih _ _ _ _ _ _ h
      · refine sm_if_eq (tgt := 84) (q := 81) dX11_toBeDone_78 (by decide) rfl (fun ht => absurd ht hb8) (fun _ => ?_)
        refine sm_iload (q := 83) dX11_toBeDone_81 rfl 3 rfl ?_
        obtain rfl := Option.some.inj h
        exact sm_iret dX11_toBeDone_83 rfl
set_option maxHeartbeats 4000000 in
set_option maxRecDepth 100000 in
theorem w_X11_toBeDone {l : Launch} (hl : l.stackTraces = false) (N : Nat) (R : Nat → Nat → Nat) : ∀ (a0 : Nat) (a1 : Int32) (a2 : Int32) (I : (Nat → Nat → Int32)) (y : ((Int32 ⊕ String) × (Nat → Nat → Int32))), f_X11_toBeDone N R a0 a1 a2 I = some y → sm_W l 5 mX11_toBeDone 0 [(0, .inr (.inl a0)), (1, .inl a1), (2, .inl a2)] [] (I, R) (sm_oI y.1) (y.2, R) := by
  intro a0 a1 a2 I y h
  unfold f_X11_toBeDone at h
  refine sm_aload_n (q := 1) dX11_toBeDone_0 rfl rfl 0 rfl ?_
  refine sm_iload_n (q := 2) dX11_toBeDone_1 rfl rfl 1 rfl ?_
  obtain ⟨hc1, h⟩ := sm_gd_e h
  rcases sm_tb_e h with ⟨r3, J4, hc_p2, h⟩ | ⟨E9, J9, hc_p2, h⟩
  · refine sm_callVr (q := 5) (As := [.inl a1]) (S := []) (ek_X11_needPupil hl hc_p2) mv_X11_198 hc1 rfl (by decide) (Nat.le_of_ble_eq_true rfl) dX11_toBeDone_2 rfl ?_
    refine sm_astore_n (L' := [(3, .inr (.inl r3)), (0, .inr (.inl a0)), (1, .inl a1), (2, .inl a2)]) (q := 6) dX11_toBeDone_5 rfl rfl (by decide) rfl ?_
    refine sm_iload_n (q := 7) dX11_toBeDone_6 rfl rfl 3 rfl ?_
    refine sm_iconst (v := 0) (q := 8) dX11_toBeDone_7 rfl (by decide) ?_
    refine sm_bipush (v := 30) (q := 10) dX11_toBeDone_8 rfl (by decide) ?_
    rcases sm_tb_e h with ⟨r6, J7, hc_p5, h⟩ | ⟨E9, J9, hc_p5, h⟩
    · refine sm_callSv (q := 13) (As := [.inl a2, .inl (0 : Int32), .inl (30 : Int32)]) (S := []) (ek_X11_needBetween hl hc_p5) ms_X11_260 rfl (by decide) (Nat.le_of_ble_eq_true rfl) dX11_toBeDone_10 rfl ?_
      refine sm_aload_n (q := 14) dX11_toBeDone_13 rfl rfl 1 rfl ?_
      refine sm_getR (r := R a0 3) (q := 17) dX11_toBeDone_14 rfl fk_X11_20 hc1 (by decide) (by decide) rfl ?_
      obtain ⟨hc8, h⟩ := sm_gd_e h
      refine sm_getR (r := R (R a0 3) 5) (q := 20) dX11_toBeDone_17 rfl fk_X11_137 hc8 (by decide) (by decide) rfl ?_
      refine sm_aload_n (q := 21) dX11_toBeDone_20 rfl rfl 0 rfl ?_
      obtain ⟨hc9, h⟩ := sm_gd_e h
      obtain ⟨p10, hc_p10, h⟩ := sm_bd_e h
      refine sm_callVi (q := 24) (As := [.inr (.inl r3)]) (S := []) (e_X10_openTo hc_p10) mv_X11_271 hc9 rfl (by decide) (Nat.le_of_ble_eq_true rfl) dX11_toBeDone_21 rfl ?_
      refine sm_istore (L' := [(4, .inl p10.1), (3, .inr (.inl r3)), (0, .inr (.inl a0)), (1, .inl a1), (2, .inl a2)]) (q := 26) dX11_toBeDone_24 rfl (by decide) rfl ?_
      refine sm_aload_n (q := 27) dX11_toBeDone_26 rfl rfl 2 rfl ?_
      refine sm_getR (r := R a0 10) (q := 30) dX11_toBeDone_27 rfl fk_X11_64 hc1 (by decide) (by decide) rfl ?_
      refine sm_aload_n (q := 31) dX11_toBeDone_30 rfl rfl 1 rfl ?_
      obtain ⟨hc11, h⟩ := sm_gd_e h
      obtain ⟨p12, hc_p12, h⟩ := sm_bd_e h
      refine sm_callVv (q := 34) (As := [.inr (.inl r3)]) (S := []) (e_X4_become hc_p12) mv_X11_225 hc11 rfl (by decide) (Nat.le_of_ble_eq_true rfl) dX11_toBeDone_31 rfl ?_
      refine sm_iconst (v := 0) (q := 35) dX11_toBeDone_34 rfl (by decide) ?_
      refine sm_istore (L' := [(5, .inl (0 : Int32)), (4, .inl p10.1), (3, .inr (.inl r3)), (0, .inr (.inl a0)), (1, .inl a1), (2, .inl a2)]) (q := 37) dX11_toBeDone_35 rfl (by decide) rfl ?_
      refine sm_pick [3, 5, 1, 0] rfl ?_
      exact w_X11_toBeDone_37 hl N R N _ _ _ _ _ _ h
    · obtain rfl := Option.some.inj h
      exact sm_callSX (E := E9) (As := [.inl a2, .inl (0 : Int32), .inl (30 : Int32)]) (S := []) (ex_X11_needBetween hl hc_p5) ms_X11_260 rfl (by decide) (Nat.le_of_ble_eq_true rfl) dX11_toBeDone_10
  · obtain rfl := Option.some.inj h
    exact sm_callVX (E := E9) (As := [.inl a1]) (S := []) (ex_X11_needPupil hl hc_p2) mv_X11_198 hc1 rfl (by decide) (Nat.le_of_ble_eq_true rfl) dX11_toBeDone_2
theorem e_X11_toBeDone {l : Launch} (hl : l.stackTraces = false) {N : Nat} {R : Nat → Nat → Nat} {a0 : Nat} {a1 : Int32} {a2 : Int32} {I : (Nat → Nat → Int32)} {y : ((Int32 ⊕ String) × (Nat → Nat → Int32))} (h : f_X11_toBeDone N R a0 a1 a2 I = some y) : sm_E l 5 mX11_toBeDone [.inr (.inl a0), .inl a1, .inl a2] (I, R) (sm_oI y.1) (y.2, R) :=
  sm_meth (by decide) (Nat.le_of_ble_eq_true rfl) (w_X11_toBeDone hl N R a0 a1 a2 I y h)
theorem ek_X11_toBeDone {l : Launch} (hl : l.stackTraces = false) {N : Nat} {R : Nat → Nat → Nat} {a0 : Nat} {a1 : Int32} {a2 : Int32} {I : (Nat → Nat → Int32)} {r : Int32} {J : (Nat → Nat → Int32)} (h : f_X11_toBeDone N R a0 a1 a2 I = some (.inl r, J)) : sm_E l 5 mX11_toBeDone [.inr (.inl a0), .inl a1, .inl a2] (I, R) (.inl (some (.inl r))) (J, R) := by
  have h1 := e_X11_toBeDone (l := l) hl h
  exact h1
theorem ex_X11_toBeDone {l : Launch} (hl : l.stackTraces = false) {N : Nat} {R : Nat → Nat → Nat} {a0 : Nat} {a1 : Int32} {a2 : Int32} {I : (Nat → Nat → Int32)} {E : String} {J : (Nat → Nat → Int32)} (h : f_X11_toBeDone N R a0 a1 a2 I = some (.inr E, J)) : sm_E l 5 mX11_toBeDone [.inr (.inl a0), .inl a1, .inl a2] (I, R) (.inr E) (J, R) := by
  have h1 := e_X11_toBeDone (l := l) hl h
  exact h1
