def f_X11_game_55 (N : Nat) (R : Nat → Nat → Nat) : Nat → Nat → Int32 → Int32 → Int32 → Int32 → (Nat → Nat → Int32) → Option ((Int32 ⊕ String) × (Nat → Nat → Int32))
  | 0, _, _, _, _, _, _ => none
  | n + 1, a0, a3, a4, a5, a6, I =>
    if (4 : Int32) ≤ a6 then (
      if a3 = 0 then (
        some (.inl a4, I))
      else (
        some (.inl a5, I)))
    else (
      sm_gd (sm_kd a0 = (11, 18)) <|
      sm_gd (sm_kd (R a0 16) = (2, 3)) <|
      (f_X2_isAtRest N R (R a0 16) (a6 >>> ((1 : Int32) &&& 31)) (a6 &&& (1 : Int32)) I).bind fun p5 =>
      if p5.1 = 0 then (
        f_X11_game_55 N R n a0 a3 a4 a5 (a6 + 1) p5.2)
      else (
        if a4 = 0 then (
          f_X11_game_55 N R n a0 a3 (a4 + 1) (((10 : Int32) * (a6 >>> ((1 : Int32) &&& 31))) + (a6 &&& (1 : Int32))) (a6 + 1) p5.2)
        else (
          f_X11_game_55 N R n a0 a3 (a4 + 1) a5 (a6 + 1) p5.2)))
def f_X11_game (N : Nat) (R : Nat → Nat → Nat) : Nat → Int32 → Int32 → Int32 → (Nat → Nat → Int32) → Option ((Int32 ⊕ String) × (Nat → Nat → Int32)) := fun a0 a1 a2 a3 I =>
  sm_gd (sm_kd a0 = (11, 18)) <|
  sm_tb (f_X11_needPupil N R a0 a1 I) fun r3 J4 =>
  sm_tb (f_X11_needPupil N R a0 a2 J4) fun r6 J7 =>
  sm_tb (f_X11_needWhat N R a3 (1 : Int32) J7) fun r9 J10 =>
  if a1 = a2 then (
    some (.inr "java/lang/IllegalArgumentException", J10))
  else (
    sm_gd (sm_kd (R a0 16) = (2, 3)) <|
    (f_X2_weigh N R (R a0 16) (R a0 3) a1 a2 J10).bind fun p13 =>
    f_X11_game_55 N R N a0 a3 (0 : Int32) (-1 : Int32) (0 : Int32) p13.2)
set_option maxHeartbeats 4000000 in
set_option maxRecDepth 100000 in
theorem w_X11_game_55 {l : Launch} (hl : l.stackTraces = false) (N : Nat) (R : Nat → Nat → Nat) : ∀ (n : Nat) (a0 : Nat) (a3 : Int32) (a4 : Int32) (a5 : Int32) (a6 : Int32) (I : (Nat → Nat → Int32)) (y : ((Int32 ⊕ String) × (Nat → Nat → Int32))), f_X11_game_55 N R n a0 a3 a4 a5 a6 I = some y → sm_W l 7 mX11_game 55 [(0, .inr (.inl a0)), (3, .inl a3), (4, .inl a4), (5, .inl a5), (6, .inl a6)] [] (I, R) (sm_oI y.1) (y.2, R) := by
  intro n
  induction n with
  | zero => intro a0 a3 a4 a5 a6 I y h; cases h
  | succ n ih =>
    intro a0 a3 a4 a5 a6 I y h
    rw [f_X11_game_55] at h
    refine sm_iload (q := 57) dX11_game_55 rfl 4 rfl ?_
    refine sm_iconst (v := 4) (q := 58) dX11_game_57 rfl (by decide) ?_
    rcases sm_if_e h with ⟨hb1, h⟩ | ⟨hb1, h⟩
    · refine sm_icmp_ge (tgt := 116) (q := 61) dX11_game_58 (by decide) rfl (fun _ => ?_) (fun hn => absurd hb1 hn)
      refine sm_iload_n (q := 117) dX11_game_116 rfl rfl 1 rfl ?_
      rcases sm_if_e h with ⟨hb2, h⟩ | ⟨hb2, h⟩
      · refine sm_if_ne (tgt := 125) (q := 120) dX11_game_117 (by decide) rfl (fun hn => absurd hb2 hn) (fun _ => ?_)
        refine sm_iload (q := 122) dX11_game_120 rfl 2 rfl ?_
        refine sm_goto (q := 127) dX11_game_122 (by decide) ?_
        obtain rfl := Option.some.inj h
        exact sm_iret dX11_game_127 rfl
      · refine sm_if_ne (tgt := 125) (q := 120) dX11_game_117 (by decide) rfl (fun _ => ?_) (fun he => absurd he hb2)
        refine sm_iload (q := 127) dX11_game_125 rfl 3 rfl ?_
        obtain rfl := Option.some.inj h
        exact sm_iret dX11_game_127 rfl
    · refine sm_icmp_ge (tgt := 116) (q := 61) dX11_game_58 (by decide) rfl (fun ht => absurd ht hb1) (fun _ => ?_)
      refine sm_iload (q := 63) dX11_game_61 rfl 4 rfl ?_
      refine sm_iconst (v := 1) (q := 64) dX11_game_63 rfl (by decide) ?_
      refine sm_ishr (q := 65) dX11_game_64 rfl ?_
      refine sm_istore (L' := [(7, .inl (a6 >>> ((1 : Int32) &&& 31))), (0, .inr (.inl a0)), (3, .inl a3), (4, .inl a4), (5, .inl a5), (6, .inl a6)]) (q := 67) dX11_game_65 rfl (by decide) rfl ?_
      refine sm_iload (q := 69) dX11_game_67 rfl 5 rfl ?_
      refine sm_iconst (v := 1) (q := 70) dX11_game_69 rfl (by decide) ?_
      refine sm_iand (q := 71) dX11_game_70 rfl ?_
      refine sm_istore (L' := [(8, .inl (a6 &&& (1 : Int32))), (7, .inl (a6 >>> ((1 : Int32) &&& 31))), (0, .inr (.inl a0)), (3, .inl a3), (4, .inl a4), (5, .inl a5), (6, .inl a6)]) (q := 73) dX11_game_71 rfl (by decide) rfl ?_
      refine sm_aload_n (q := 74) dX11_game_73 rfl rfl 2 rfl ?_
      obtain ⟨hc3, h⟩ := sm_gd_e h
      refine sm_getR (r := R a0 16) (q := 77) dX11_game_74 rfl fk_X11_98 hc3 (by decide) (by decide) rfl ?_
      refine sm_iload (q := 79) dX11_game_77 rfl 1 rfl ?_
      refine sm_iload (q := 81) dX11_game_79 rfl 0 rfl ?_
      obtain ⟨hc4, h⟩ := sm_gd_e h
      obtain ⟨p5, hc_p5, h⟩ := sm_bd_e h
      refine sm_callVi (q := 84) (As := [.inl (a6 >>> ((1 : Int32) &&& 31)), .inl (a6 &&& (1 : Int32))]) (S := []) (e_X2_isAtRest hc_p5) mv_X11_345 hc4 rfl (by decide) (Nat.le_of_ble_eq_true rfl) dX11_game_81 rfl ?_
      rcases sm_if_e h with ⟨hb6, h⟩ | ⟨hb6, h⟩
      · refine sm_if_eq (tgt := 110) (q := 87) dX11_game_84 (by decide) rfl (fun _ => ?_) (fun hn => absurd hb6 hn)
        refine sm_iinc (v := (a6 + 1)) (L' := [(6, .inl (a6 + 1)), (8, .inl (a6 &&& (1 : Int32))), (7, .inl (a6 >>> ((1 : Int32) &&& 31))), (0, .inr (.inl a0)), (3, .inl a3), (4, .inl a4), (5, .inl a5)]) (q := 113) dX11_game_110 rfl 6 rfl rfl (by decide) rfl ?_
        refine sm_goto (q := 55) dX11_game_113 (by decide) ?_
        refine sm_pick [3, 4, 5, 6, 0] rfl ?_
        exact ih _ _ _ _ _ _ _ h
      · refine sm_if_eq (tgt := 110) (q := 87) dX11_game_84 (by decide) rfl (fun ht => absurd ht hb6) (fun _ => ?_)
        refine sm_iload (q := 89) dX11_game_87 rfl 4 rfl ?_
        rcases sm_if_e h with ⟨hb7, h⟩ | ⟨hb7, h⟩
        · refine sm_if_ne (tgt := 103) (q := 92) dX11_game_89 (by decide) rfl (fun hn => absurd hb7 hn) (fun _ => ?_)
          refine sm_bipush (v := 10) (q := 94) dX11_game_92 rfl (by decide) ?_
          refine sm_iload (q := 96) dX11_game_94 rfl 1 rfl ?_
          refine sm_imul (q := 97) dX11_game_96 rfl ?_
          refine sm_iload (q := 99) dX11_game_97 rfl 0 rfl ?_
          refine sm_iadd (q := 100) dX11_game_99 rfl ?_
          refine sm_goto (q := 105) dX11_game_100 (by decide) ?_
          refine sm_istore (L' := [(5, .inl (((10 : Int32) * (a6 >>> ((1 : Int32) &&& 31))) + (a6 &&& (1 : Int32)))), (8, .inl (a6 &&& (1 : Int32))), (7, .inl (a6 >>> ((1 : Int32) &&& 31))), (0, .inr (.inl a0)), (3, .inl a3), (4, .inl a4), (6, .inl a6)]) (q := 107) dX11_game_105 rfl (by decide) rfl ?_
          refine sm_iinc (v := (a4 + 1)) (L' := [(4, .inl (a4 + 1)), (5, .inl (((10 : Int32) * (a6 >>> ((1 : Int32) &&& 31))) + (a6 &&& (1 : Int32)))), (8, .inl (a6 &&& (1 : Int32))), (7, .inl (a6 >>> ((1 : Int32) &&& 31))), (0, .inr (.inl a0)), (3, .inl a3), (6, .inl a6)]) (q := 110) dX11_game_107 rfl 5 rfl rfl (by decide) rfl ?_
          refine sm_iinc (v := (a6 + 1)) (L' := [(6, .inl (a6 + 1)), (4, .inl (a4 + 1)), (5, .inl (((10 : Int32) * (a6 >>> ((1 : Int32) &&& 31))) + (a6 &&& (1 : Int32)))), (8, .inl (a6 &&& (1 : Int32))), (7, .inl (a6 >>> ((1 : Int32) &&& 31))), (0, .inr (.inl a0)), (3, .inl a3)]) (q := 113) dX11_game_110 rfl 6 rfl rfl (by decide) rfl ?_
          refine sm_goto (q := 55) dX11_game_113 (by decide) ?_
          refine sm_pick [5, 6, 1, 2, 0] rfl ?_
          exact ih _ _ _ _ _ _ _ h
        · refine sm_if_ne (tgt := 103) (q := 92) dX11_game_89 (by decide) rfl (fun _ => ?_) (fun he => absurd he hb7)
          refine sm_iload (q := 105) dX11_game_103 rfl 5 rfl ?_
          refine sm_istore (L' := [(5, .inl a5), (8, .inl (a6 &&& (1 : Int32))), (7, .inl (a6 >>> ((1 : Int32) &&& 31))), (0, .inr (.inl a0)), (3, .inl a3), (4, .inl a4), (6, .inl a6)]) (q := 107) dX11_game_105 rfl (by decide) rfl ?_
          refine sm_iinc (v := (a4 + 1)) (L' := [(4, .inl (a4 + 1)), (5, .inl a5), (8, .inl (a6 &&& (1 : Int32))), (7, .inl (a6 >>> ((1 : Int32) &&& 31))), (0, .inr (.inl a0)), (3, .inl a3), (6, .inl a6)]) (q := 110) dX11_game_107 rfl 5 rfl rfl (by decide) rfl ?_
          refine sm_iinc (v := (a6 + 1)) (L' := [(6, .inl (a6 + 1)), (4, .inl (a4 + 1)), (5, .inl a5), (8, .inl (a6 &&& (1 : Int32))), (7, .inl (a6 >>> ((1 : Int32) &&& 31))), (0, .inr (.inl a0)), (3, .inl a3)]) (q := 113) dX11_game_110 rfl 6 rfl rfl (by decide) rfl ?_
          refine sm_goto (q := 55) dX11_game_113 (by decide) ?_
          refine sm_pick [5, 6, 1, 2, 0] rfl ?_
          exact ih _ _ _ _ _ _ _ h
set_option maxHeartbeats 4000000 in
set_option maxRecDepth 100000 in
theorem w_X11_game {l : Launch} (hl : l.stackTraces = false) (N : Nat) (R : Nat → Nat → Nat) : ∀ (a0 : Nat) (a1 : Int32) (a2 : Int32) (a3 : Int32) (I : (Nat → Nat → Int32)) (y : ((Int32 ⊕ String) × (Nat → Nat → Int32))), f_X11_game N R a0 a1 a2 a3 I = some y → sm_W l 7 mX11_game 0 [(0, .inr (.inl a0)), (1, .inl a1), (2, .inl a2), (3, .inl a3)] [] (I, R) (sm_oI y.1) (y.2, R) := by
  intro a0 a1 a2 a3 I y h
  unfold f_X11_game at h
  refine sm_aload_n (q := 1) dX11_game_0 rfl rfl 0 rfl ?_
  refine sm_iload_n (q := 2) dX11_game_1 rfl rfl 1 rfl ?_
  obtain ⟨hc1, h⟩ := sm_gd_e h
  rcases sm_tb_e h with ⟨r3, J4, hc_p2, h⟩ | ⟨E9, J9, hc_p2, h⟩
  · refine sm_callVr (q := 5) (As := [.inl a1]) (S := []) (ek_X11_needPupil hl hc_p2) mv_X11_198 hc1 rfl (by decide) (Nat.le_of_ble_eq_true rfl) dX11_game_2 rfl ?_
    refine sm_pop (q := 6) dX11_game_5 rfl rfl ?_
    refine sm_aload_n (q := 7) dX11_game_6 rfl rfl 0 rfl ?_
    refine sm_iload_n (q := 8) dX11_game_7 rfl rfl 2 rfl ?_
    rcases sm_tb_e h with ⟨r6, J7, hc_p5, h⟩ | ⟨E9, J9, hc_p5, h⟩
    · refine sm_callVr (q := 11) (As := [.inl a2]) (S := []) (ek_X11_needPupil hl hc_p5) mv_X11_198 hc1 rfl (by decide) (Nat.le_of_ble_eq_true rfl) dX11_game_8 rfl ?_
      refine sm_pop (q := 12) dX11_game_11 rfl rfl ?_
      refine sm_iload_n (q := 13) dX11_game_12 rfl rfl 3 rfl ?_
      refine sm_iconst (v := 1) (q := 14) dX11_game_13 rfl (by decide) ?_
      rcases sm_tb_e h with ⟨r9, J10, hc_p8, h⟩ | ⟨E9, J9, hc_p8, h⟩
      · refine sm_callSv (q := 17) (As := [.inl a3, .inl (1 : Int32)]) (S := []) (ek_X11_needWhat hl hc_p8) ms_X11_256 rfl (by decide) (Nat.le_of_ble_eq_true rfl) dX11_game_14 rfl ?_
        refine sm_iload_n (q := 18) dX11_game_17 rfl rfl 1 rfl ?_
        refine sm_iload_n (q := 19) dX11_game_18 rfl rfl 2 rfl ?_
        rcases sm_if_e h with ⟨hb11, h⟩ | ⟨hb11, h⟩
        · refine sm_icmp_ne (tgt := 33) (q := 22) dX11_game_19 (by decide) rfl (fun hn => absurd hb11 hn) (fun _ => ?_)
          obtain rfl := Option.some.inj h
          exact sm_throwW (tx := "both are one") (j := 25) hl (by decide +kernel) (by decide +kernel) (by decide) cl_X11_109 in_IAE (List.mem_of_getElem? (i := 25) rfl) th_X11_113 tg_X11_109_113 (Nat.le_of_ble_eq_true rfl) dX11_game_22 dX11_game_25 dX11_game_26 dX11_game_29 dX11_game_32
        · refine sm_icmp_ne (tgt := 33) (q := 22) dX11_game_19 (by decide) rfl (fun _ => ?_) (fun he => absurd he hb11)
          refine sm_aload_n (q := 34) dX11_game_33 rfl rfl 0 rfl ?_
          refine sm_getR (r := R a0 16) (q := 37) dX11_game_34 rfl fk_X11_98 hc1 (by decide) (by decide) rfl ?_
          refine sm_aload_n (q := 38) dX11_game_37 rfl rfl 0 rfl ?_
          refine sm_getR (r := R a0 3) (q := 41) dX11_game_38 rfl fk_X11_20 hc1 (by decide) (by decide) rfl ?_
          refine sm_iload_n (q := 42) dX11_game_41 rfl rfl 1 rfl ?_
          refine sm_iload_n (q := 43) dX11_game_42 rfl rfl 2 rfl ?_
          obtain ⟨hc12, h⟩ := sm_gd_e h
          obtain ⟨p13, hc_p13, h⟩ := sm_bd_e h
          refine sm_callVv (q := 46) (As := [.inr (.inl (R a0 3)), .inl a1, .inl a2]) (S := []) (e_X2_weigh hc_p13) mv_X11_342 hc12 rfl (by decide) (Nat.le_of_ble_eq_true rfl) dX11_game_43 rfl ?_
          refine sm_iconst (v := 0) (q := 47) dX11_game_46 rfl (by decide) ?_
          refine sm_istore (L' := [(4, .inl (0 : Int32)), (0, .inr (.inl a0)), (1, .inl a1), (2, .inl a2), (3, .inl a3)]) (q := 49) dX11_game_47 rfl (by decide) rfl ?_
          refine sm_iconst (v := -1) (q := 50) dX11_game_49 rfl (by decide) ?_
          refine sm_istore (L' := [(5, .inl (-1 : Int32)), (4, .inl (0 : Int32)), (0, .inr (.inl a0)), (1, .inl a1), (2, .inl a2), (3, .inl a3)]) (q := 52) dX11_game_50 rfl (by decide) rfl ?_
          refine sm_iconst (v := 0) (q := 53) dX11_game_52 rfl (by decide) ?_
          refine sm_istore (L' := [(6, .inl (0 : Int32)), (5, .inl (-1 : Int32)), (4, .inl (0 : Int32)), (0, .inr (.inl a0)), (1, .inl a1), (2, .inl a2), (3, .inl a3)]) (q := 55) dX11_game_53 rfl (by decide) rfl ?_
          refine sm_pick [3, 6, 2, 1, 0] rfl ?_
          exact w_X11_game_55 hl N R N _ _ _ _ _ _ _ h
      · obtain rfl := Option.some.inj h
        exact sm_callSX (E := E9) (As := [.inl a3, .inl (1 : Int32)]) (S := []) (ex_X11_needWhat hl hc_p8) ms_X11_256 rfl (by decide) (Nat.le_of_ble_eq_true rfl) dX11_game_14
    · obtain rfl := Option.some.inj h
      exact sm_callVX (E := E9) (As := [.inl a2]) (S := []) (ex_X11_needPupil hl hc_p5) mv_X11_198 hc1 rfl (by decide) (Nat.le_of_ble_eq_true rfl) dX11_game_8
  · obtain rfl := Option.some.inj h
    exact sm_callVX (E := E9) (As := [.inl a1]) (S := []) (ex_X11_needPupil hl hc_p2) mv_X11_198 hc1 rfl (by decide) (Nat.le_of_ble_eq_true rfl) dX11_game_2
theorem e_X11_game {l : Launch} (hl : l.stackTraces = false) {N : Nat} {R : Nat → Nat → Nat} {a0 : Nat} {a1 : Int32} {a2 : Int32} {a3 : Int32} {I : (Nat → Nat → Int32)} {y : ((Int32 ⊕ String) × (Nat → Nat → Int32))} (h : f_X11_game N R a0 a1 a2 a3 I = some y) : sm_E l 7 mX11_game [.inr (.inl a0), .inl a1, .inl a2, .inl a3] (I, R) (sm_oI y.1) (y.2, R) :=
  sm_meth (by decide) (Nat.le_of_ble_eq_true rfl) (w_X11_game hl N R a0 a1 a2 a3 I y h)
theorem ek_X11_game {l : Launch} (hl : l.stackTraces = false) {N : Nat} {R : Nat → Nat → Nat} {a0 : Nat} {a1 : Int32} {a2 : Int32} {a3 : Int32} {I : (Nat → Nat → Int32)} {r : Int32} {J : (Nat → Nat → Int32)} (h : f_X11_game N R a0 a1 a2 a3 I = some (.inl r, J)) : sm_E l 7 mX11_game [.inr (.inl a0), .inl a1, .inl a2, .inl a3] (I, R) (.inl (some (.inl r))) (J, R) := by
  have h1 := e_X11_game (l := l) hl h
  exact h1
theorem ex_X11_game {l : Launch} (hl : l.stackTraces = false) {N : Nat} {R : Nat → Nat → Nat} {a0 : Nat} {a1 : Int32} {a2 : Int32} {a3 : Int32} {I : (Nat → Nat → Int32)} {E : String} {J : (Nat → Nat → Int32)} (h : f_X11_game N R a0 a1 a2 a3 I = some (.inr E, J)) : sm_E l 7 mX11_game [.inr (.inl a0), .inl a1, .inl a2, .inl a3] (I, R) (.inr E) (J, R) := by
  have h1 := e_X11_game (l := l) hl h
  exact h1
