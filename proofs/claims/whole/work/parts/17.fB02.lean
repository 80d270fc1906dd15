def f_X11_school (N : Nat) : Nat → Int32 → sm_M → Option ((Int32 ⊕ String) × sm_M) := fun a0 a1 M9 =>
  if a1 < 0 then (
    some (.inr "java/lang/IllegalArgumentException", (M9.1, M9.2)))
  else (
    sm_gd (sm_kd a0 = (11, 18)) <|
    if a1 ≤ (M9.1 a0 1) then (
      sm_lt (sm_up M9.1 a0 (sm_up (M9.1 a0) 1 (0 : Int32))) fun I4 =>
      sm_gd (sm_kd (M9.2 a0 5) = (5, 11)) <|
      (f_X5_readSchool N (M9.2 a0 5) a1 (M9.2 a0 4) (I4, M9.2)).bind fun p6 =>
      sm_gd (sm_kd (p6.2.2 a0 5) = (5, 11)) <|
      sm_lt (sm_up p6.2.1 a0 (sm_up (p6.2.1 a0) 2 (p6.2.1 (p6.2.2 a0 5) 9))) fun I8 =>
      if (I8 (p6.2.2 a0 5) 8) = 0 then (
        sm_lt (sm_up p6.2.2 a0 (sm_up (p6.2.2 a0) 3 (p6.2.2 a0 4))) fun Q10 =>
        sm_lt (sm_up Q10 a0 (sm_up (Q10 a0) 4 (p6.2.2 a0 3))) fun Q11 =>
        sm_gd (sm_kd (Q11 a0 6) = (0, 3)) <|
        (f_X0_clear N Q11 (Q11 a0 6) I8).bind fun p13 =>
        sm_gd (sm_kd (Q11 a0 7) = (9, 4)) <|
        (f_X9_clear N Q11 (Q11 a0 7) p13.2).bind fun p15 =>
        sm_gd (sm_kd (Q11 a0 9) = (3, 5)) <|
        sm_lt (sm_up p15.2 (Q11 a0 9) (sm_up (p15.2 (Q11 a0 9)) 0 (0 : Int32))) fun I17 =>
        some (.inl (0 : Int32), (I17, Q11)))
      else (
        sm_gd ((sm_kd (p6.2.2 a0 8)).1 = 13 ∧ ¬ ((0 : Int32) < 0 ∨ (sm_kd (p6.2.2 a0 8)).2 ≤ ((0 : Int32)).toNatClampNeg)) <|
        sm_lt (sm_up I8 (p6.2.2 a0 8) (sm_up (I8 (p6.2.2 a0 8)) ((0 : Int32)).toNatClampNeg ((I8 (p6.2.2 a0 8) ((0 : Int32)).toNatClampNeg) + (1 : Int32)))) fun I19 =>
        some (.inl (I19 (p6.2.2 a0 5) 8), (I19, p6.2.2))))
    else (
      some (.inr "java/lang/IllegalArgumentException", (M9.1, M9.2))))
set_option maxHeartbeats 4000000 in
set_option maxRecDepth 100000 in
theorem w_X11_school {l : Launch} (hl : l.stackTraces = false) (N : Nat) : ∀ (a0 : Nat) (a1 : Int32) (M9 : sm_M) (y : ((Int32 ⊕ String) × sm_M)), f_X11_school N a0 a1 M9 = some y → sm_W l 70 mX11_school 0 [(0, .inr (.inl a0)), (1, .inl a1)] [] M9 (sm_oI y.1) y.2 := by
  intro a0 a1 M9 y h
  unfold f_X11_school at h
  refine sm_iload_n (q := 1) dX11_school_0 rfl rfl 1 rfl ?_
  rcases sm_if_e h with ⟨hb1, h⟩ | ⟨hb1, h⟩
  · refine sm_if_lt (tgt := 12) (q := 4) dX11_school_1 (by decide) rfl (fun _ => ?_) (fun hn => absurd hb1 hn)
    obtain rfl := Option.some.inj h
    exact sm_throw (tx := "the tape has not so many bytes") (j := 0) hl (by decide +kernel) (by decide +kernel) (by decide) cl_X11_109 in_IAE (List.mem_of_getElem? (i := 0) rfl) th_X11_113 tg_X11_109_113 (Nat.le_of_ble_eq_true rfl) dX11_school_12 dX11_school_15 dX11_school_16 dX11_school_18 dX11_school_21
  · refine sm_if_lt (tgt := 12) (q := 4) dX11_school_1 (by decide) rfl (fun ht => absurd ht hb1) (fun _ => ?_)
    refine sm_iload_n (q := 5) dX11_school_4 rfl rfl 1 rfl ?_
    refine sm_aload_n (q := 6) dX11_school_5 rfl rfl 0 rfl ?_
    obtain ⟨hc2, h⟩ := sm_gd_e h
    refine sm_getI (q := 9) dX11_school_6 rfl fk_X11_102 hc2 (by decide) (by decide) ?_
    rcases sm_if_e h with ⟨hb3, h⟩ | ⟨hb3, h⟩
    · refine sm_icmp_le (tgt := 22) (q := 12) dX11_school_9 (by decide) rfl (fun _ => ?_) (fun hn => absurd hb3 hn)
      refine sm_aload_n (q := 23) dX11_school_22 rfl rfl 0 rfl ?_
      refine sm_iconst (v := 0) (q := 24) dX11_school_23 rfl (by decide) ?_
      obtain ⟨I4, hI4, h⟩ := sm_lt_e h
      refine sm_putI (q := 27) dX11_school_24 rfl fk_X11_102 hc2 (by decide) (by decide) ?_
      refine sm_memI hI4 ?_
      refine sm_aload_n (q := 28) dX11_school_27 rfl rfl 0 rfl ?_
      refine sm_getR (r := M9.2 a0 5) (q := 31) dX11_school_28 rfl fk_X11_32 hc2 (by decide) (by decide) rfl ?_
      refine sm_iload_n (q := 32) dX11_school_31 rfl rfl 1 rfl ?_
      refine sm_aload_n (q := 33) dX11_school_32 rfl rfl 0 rfl ?_
      refine sm_getR (r := M9.2 a0 4) (q := 36) dX11_school_33 rfl fk_X11_24 hc2 (by decide) (by decide) rfl ?_
      obtain ⟨hc5, h⟩ := sm_gd_e h
      obtain ⟨p6, hc_p6, h⟩ := sm_bd_e h
      refine sm_callVv (q := 39) (As := [.inl a1, .inr (.inl (M9.2 a0 4))]) (S := []) (e_X5_readSchool hc_p6) mv_X11_116 hc5 rfl (by decide) (Nat.le_of_ble_eq_true rfl) dX11_school_36 rfl ?_
      refine sm_aload_n (q := 40) dX11_school_39 rfl rfl 0 rfl ?_
      refine sm_aload_n (q := 41) dX11_school_40 rfl rfl 0 rfl ?_
      refine sm_getR (r := p6.2.2 a0 5) (q := 44) dX11_school_41 rfl fk_X11_32 hc2 (by decide) (by decide) rfl ?_
      obtain ⟨hc7, h⟩ := sm_gd_e h
      refine sm_getI (q := 47) dX11_school_44 rfl fk_X11_120 hc7 (by decide) (by decide) ?_
      obtain ⟨I8, hI8, h⟩ := sm_lt_e h
      refine sm_putI (q := 50) dX11_school_47 rfl fk_X11_13 hc2 (by decide) (by decide) ?_
      refine sm_memI hI8 ?_
      refine sm_aload_n (q := 51) dX11_school_50 rfl rfl 0 rfl ?_
      refine sm_getR (r := p6.2.2 a0 5) (q := 54) dX11_school_51 rfl fk_X11_32 hc2 (by decide) (by decide) rfl ?_
      refine sm_getI (q := 57) dX11_school_54 rfl fk_X11_123 hc7 (by decide) (by decide) ?_
      rcases sm_if_e h with ⟨hb9, h⟩ | ⟨hb9, h⟩
      · refine sm_if_eq (tgt := 78) (q := 60) dX11_school_57 (by decide) rfl (fun _ => ?_) (fun hn => absurd hb9 hn)
        refine sm_aload_n (q := 79) dX11_school_78 rfl rfl 0 rfl ?_
        refine sm_getR (r := p6.2.2 a0 3) (q := 82) dX11_school_79 rfl fk_X11_20 hc2 (by decide) (by decide) rfl ?_
        refine sm_astore_n (L' := [(2, .inr (.inl (p6.2.2 a0 3))), (0, .inr (.inl a0)), (1, .inl a1)]) (q := 83) dX11_school_82 rfl rfl (by decide) rfl ?_
        refine sm_aload_n (q := 84) dX11_school_83 rfl rfl 1 rfl ?_
        refine sm_aload_n (q := 85) dX11_school_84 rfl rfl 1 rfl ?_
        refine sm_getR (r := p6.2.2 a0 4) (q := 88) dX11_school_85 rfl fk_X11_24 hc2 (by decide) (by decide) rfl ?_
        obtain ⟨Q10, hQ10, h⟩ := sm_lt_e h
        refine sm_putR (q := 91) dX11_school_88 rfl fk_X11_20 hc2 (by decide) (by decide) ?_
        refine sm_memR hQ10 ?_
        refine sm_aload_n (q := 92) dX11_school_91 rfl rfl 1 rfl ?_
        refine sm_aload_n (q := 93) dX11_school_92 rfl rfl 0 rfl ?_
        obtain ⟨Q11, hQ11, h⟩ := sm_lt_e h
        refine sm_putR (q := 96) dX11_school_93 rfl fk_X11_24 hc2 (by decide) (by decide) ?_
        refine sm_memR hQ11 ?_
        refine sm_aload_n (q := 97) dX11_school_96 rfl rfl 1 rfl ?_
        refine sm_getR (r := Q11 a0 6) (q := 100) dX11_school_97 rfl fk_X11_39 hc2 (by decide) (by decide) rfl ?_
        obtain ⟨hc12, h⟩ := sm_gd_e h
        obtain ⟨p13, hc_p13, h⟩ := sm_bd_e h
        refine sm_callVv (q := 103) (As := []) (S := []) (e_X0_clear hc_p13) mv_X11_126 hc12 rfl (by decide) (Nat.le_of_ble_eq_true rfl) dX11_school_100 rfl ?_
        refine sm_aload_n (q := 104) dX11_school_103 rfl rfl 1 rfl ?_
        refine sm_getR (r := Q11 a0 7) (q := 107) dX11_school_104 rfl fk_X11_46 hc2 (by decide) (by decide) rfl ?_
        obtain ⟨hc14, h⟩ := sm_gd_e h
        obtain ⟨p15, hc_p15, h⟩ := sm_bd_e h
        refine sm_callVv (q := 110) (As := []) (S := []) (e_X9_clear hc_p15) mv_X11_129 hc14 rfl (by decide) (Nat.le_of_ble_eq_true rfl) dX11_school_107 rfl ?_
        refine sm_aload_n (q := 111) dX11_school_110 rfl rfl 1 rfl ?_
        refine sm_getR (r := Q11 a0 9) (q := 114) dX11_school_111 rfl fk_X11_57 hc2 (by decide) (by decide) rfl ?_
        refine sm_iconst (v := 0) (q := 115) dX11_school_114 rfl (by decide) ?_
        obtain ⟨hc16, h⟩ := sm_gd_e h
        obtain ⟨I17, hI17, h⟩ := sm_lt_e h
        refine sm_putZ (q := 118) dX11_school_115 rfl fk_X11_130 hc16 (by decide) (by decide) (by decide) ?_
        refine sm_memI hI17 ?_
        refine sm_iconst (v := 0) (q := 119) dX11_school_118 rfl (by decide) ?_
        obtain rfl := Option.some.inj h
        exact sm_iret dX11_school_119 rfl
      · refine sm_if_eq (tgt := 78) (q := 60) dX11_school_57 (by decide) rfl (fun ht => absurd ht hb9) (fun _ => ?_)
        refine sm_aload_n (q := 61) dX11_school_60 rfl rfl 0 rfl ?_
        refine sm_getR (r := p6.2.2 a0 8) (q := 64) dX11_school_61 rfl fk_X11_50 hc2 (by decide) (by decide) rfl ?_
        refine sm_iconst (v := 0) (q := 65) dX11_school_64 rfl (by decide) ?_
        refine sm_dup2 (q := 66) dX11_school_65 rfl rfl rfl ?_
        obtain ⟨hc18, h⟩ := sm_gd_e h
        refine sm_iald (n := (sm_kd (p6.2.2 a0 8)).2) (q := 67) dX11_school_66 rfl (Prod.ext hc18.1 rfl) hc18.2 ?_
        refine sm_iconst (v := 1) (q := 68) dX11_school_67 rfl (by decide) ?_
        refine sm_iadd (q := 69) dX11_school_68 rfl ?_
        obtain ⟨I19, hI19, h⟩ := sm_lt_e h
        refine sm_iast (n := (sm_kd (p6.2.2 a0 8)).2) (q := 70) dX11_school_69 rfl (Prod.ext hc18.1 rfl) hc18.2 ?_
        refine sm_memI hI19 ?_
        refine sm_aload_n (q := 71) dX11_school_70 rfl rfl 0 rfl ?_
        refine sm_getR (r := p6.2.2 a0 5) (q := 74) dX11_school_71 rfl fk_X11_32 hc2 (by decide) (by decide) rfl ?_
        refine sm_getI (q := 77) dX11_school_74 rfl fk_X11_123 hc7 (by decide) (by decide) ?_
        obtain rfl := Option.some.inj h
        exact sm_iret dX11_school_77 rfl
    · refine sm_icmp_le (tgt := 22) (q := 12) dX11_school_9 (by decide) rfl (fun ht => absurd ht hb3) (fun _ => ?_)
      obtain rfl := Option.some.inj h
      exact sm_throw (tx := "the tape has not so many bytes") (j := 0) hl (by decide +kernel) (by decide +kernel) (by decide) cl_X11_109 in_IAE (List.mem_of_getElem? (i := 0) rfl) th_X11_113 tg_X11_109_113 (Nat.le_of_ble_eq_true rfl) dX11_school_12 dX11_school_15 dX11_school_16 dX11_school_18 dX11_school_21
theorem e_X11_school {l : Launch} (hl : l.stackTraces = false) {N : Nat} {a0 : Nat} {a1 : Int32} {M9 : sm_M} {y : ((Int32 ⊕ String) × sm_M)} (h : f_X11_school N a0 a1 M9 = some y) : sm_E l 70 mX11_school [.inr (.inl a0), .inl a1] M9 (sm_oI y.1) y.2 :=
  sm_meth (by decide) (Nat.le_of_ble_eq_true rfl) (w_X11_school hl N a0 a1 M9 y h)
theorem ek_X11_school {l : Launch} (hl : l.stackTraces = false) {N : Nat} {a0 : Nat} {a1 : Int32} {M9 : sm_M} {r : Int32} {J : sm_M} (h : f_X11_school N a0 a1 M9 = some (.inl r, J)) : sm_E l 70 mX11_school [.inr (.inl a0), .inl a1] M9 (.inl (some (.inl r))) J := by
  have h1 := e_X11_school (l := l) hl h
  exact h1
theorem ex_X11_school {l : Launch} (hl : l.stackTraces = false) {N : Nat} {a0 : Nat} {a1 : Int32} {M9 : sm_M} {E : String} {J : sm_M} (h : f_X11_school N a0 a1 M9 = some (.inr E, J)) : sm_E l 70 mX11_school [.inr (.inl a0), .inl a1] M9 (.inr E) J := by
  have h1 := e_X11_school (l := l) hl h
  exact h1
