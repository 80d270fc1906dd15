def f_X11_pupil (N : Nat) (R : Nat → Nat → Nat) : Nat → Int32 → Int32 → (Nat → Nat → Int32) → Option ((Int32 ⊕ String) × (Nat → Nat → Int32)) := fun a0 a1 a2 I =>
  sm_gd (sm_kd a0 = (11, 18)) <|
  sm_tb (f_X11_needPupil N R a0 a1 I) fun r3 J4 =>
  if a2 = 0 then (
    sm_gd (sm_kd r3 = (4, 6)) <|
    some (.inl (J4 r3 0), J4))
  else (
    if a2 = 1 then (
      sm_gd (sm_kd r3 = (4, 6)) <|
      some (.inl (J4 r3 1), J4))
    else (
      if a2 = 2 then (
        sm_gd (sm_kd r3 = (4, 6)) <|
        some (.inl (J4 r3 2), J4))
      else (
        if a2 = 3 then (
          sm_gd (sm_kd r3 = (4, 6)) <|
          some (.inl (J4 r3 3), J4))
        else (
          if a2 = 4 then (
            sm_gd (sm_kd r3 = (4, 6)) <|
            some (.inl (J4 r3 4), J4))
          else (
            if a2 = 5 then (
              sm_gd (sm_kd r3 = (4, 6)) <|
              some (.inl (J4 r3 5), J4))
            else (
              if a2 = 6 then (
                (f_X11_wouldLearn N R a0 r3 J4).bind fun p18 =>
                some (.inl p18.1, p18.2))
              else (
                some (.inr "java/util/NoSuchElementException", J4))))))))
set_option maxHeartbeats 4000000 in
set_option maxRecDepth 100000 in
theorem w_X11_pupil {l : Launch} (hl : l.stackTraces = false) (N : Nat) (R : Nat → Nat → Nat) : ∀ (a0 : Nat) (a1 : Int32) (a2 : Int32) (I : (Nat → Nat → Int32)) (y : ((Int32 ⊕ String) × (Nat → Nat → Int32))), f_X11_pupil N R a0 a1 a2 I = some y → sm_W l 4 mX11_pupil 0 [(0, .inr (.inl a0)), (1, .inl a1), (2, .inl a2)] [] (I, R) (sm_oI y.1) (y.2, R) := by
  intro a0 a1 a2 I y h
  unfold f_X11_pupil at h
  refine sm_aload_n (q := 1) dX11_pupil_0 rfl rfl 0 rfl ?_
  refine sm_iload_n (q := 2) dX11_pupil_1 rfl rfl 1 rfl ?_
  obtain ⟨hc1, h⟩ := sm_gd_e h
  rcases sm_tb_e h with ⟨r3, J4, hc_p2, h⟩ | ⟨E9, J9, hc_p2, h⟩
  · refine sm_callVr (q := 5) (As := [.inl a1]) (S := []) (ek_X11_needPupil hl hc_p2) mv_X11_198 hc1 rfl (by decide) (Nat.le_of_ble_eq_true rfl) dX11_pupil_2 rfl ?_
    refine sm_astore_n (L' := [(3, .inr (.inl r3)), (0, .inr (.inl a0)), (1, .inl a1), (2, .inl a2)]) (q := 6) dX11_pupil_5 rfl rfl (by decide) rfl ?_
    refine sm_iload_n (q := 7) dX11_pupil_6 rfl rfl 3 rfl ?_
    rcases sm_if_e h with ⟨hb5, h⟩ | ⟨hb5, h⟩
    · refine sm_tableIn (q := 48) (off := 41) dX11_pupil_7 (by rw [hb5]; decide) (by rw [hb5]; decide) (by rw [hb5]; decide) (by decide) ?_
      refine sm_aload_n (q := 49) dX11_pupil_48 rfl rfl 0 rfl ?_
      obtain ⟨hc6, h⟩ := sm_gd_e h
      refine sm_getI (q := 52) dX11_pupil_49 rfl fk_X11_202 hc6 (by decide) (by decide) ?_
      obtain rfl := Option.some.inj h
      exact sm_iret dX11_pupil_52 rfl
    · rcases sm_if_e h with ⟨hb7, h⟩ | ⟨hb7, h⟩
      · refine sm_tableIn (q := 53) (off := 46) dX11_pupil_7 (by rw [hb7]; decide) (by rw [hb7]; decide) (by rw [hb7]; decide) (by decide) ?_
        refine sm_aload_n (q := 54) dX11_pupil_53 rfl rfl 0 rfl ?_
        obtain ⟨hc8, h⟩ := sm_gd_e h
        refine sm_getI (q := 57) dX11_pupil_54 rfl fk_X11_205 hc8 (by decide) (by decide) ?_
        obtain rfl := Option.some.inj h
        exact sm_iret dX11_pupil_57 rfl
      · rcases sm_if_e h with ⟨hb9, h⟩ | ⟨hb9, h⟩
        · refine sm_tableIn (q := 58) (off := 51) dX11_pupil_7 (by rw [hb9]; decide) (by rw [hb9]; decide) (by rw [hb9]; decide) (by decide) ?_
          refine sm_aload_n (q := 59) dX11_pupil_58 rfl rfl 0 rfl ?_
          obtain ⟨hc10, h⟩ := sm_gd_e h
          refine sm_getI (q := 62) dX11_pupil_59 rfl fk_X11_208 hc10 (by decide) (by decide) ?_
          obtain rfl := Option.some.inj h
          exact sm_iret dX11_pupil_62 rfl
        · rcases sm_if_e h with ⟨hb11, h⟩ | ⟨hb11, h⟩
          · refine sm_tableIn (q := 63) (off := 56) dX11_pupil_7 (by rw [hb11]; decide) (by rw [hb11]; decide) (by rw [hb11]; decide) (by decide) ?_
            refine sm_aload_n (q := 64) dX11_pupil_63 rfl rfl 0 rfl ?_
            obtain ⟨hc12, h⟩ := sm_gd_e h
            refine sm_getI (q := 67) dX11_pupil_64 rfl fk_X11_211 hc12 (by decide) (by decide) ?_
            obtain rfl := Option.some.inj h
            exact sm_iret dX11_pupil_67 rfl
          · rcases sm_if_e h with ⟨hb13, h⟩ | ⟨hb13, h⟩
            · refine sm_tableIn (q := 68) (off := 61) dX11_pupil_7 (by rw [hb13]; decide) (by rw [hb13]; decide) (by rw [hb13]; decide) (by decide) ?_
              refine sm_aload_n (q := 69) dX11_pupil_68 rfl rfl 0 rfl ?_
              obtain ⟨hc14, h⟩ := sm_gd_e h
              refine sm_getI (q := 72) dX11_pupil_69 rfl fk_X11_213 hc14 (by decide) (by decide) ?_
              obtain rfl := Option.some.inj h
              exact sm_iret dX11_pupil_72 rfl
            · rcases sm_if_e h with ⟨hb15, h⟩ | ⟨hb15, h⟩
              · refine sm_tableIn (q := 73) (off := 66) dX11_pupil_7 (by rw [hb15]; decide) (by rw [hb15]; decide) (by rw [hb15]; decide) (by decide) ?_
                refine sm_aload_n (q := 74) dX11_pupil_73 rfl rfl 0 rfl ?_
                obtain ⟨hc16, h⟩ := sm_gd_e h
                refine sm_getI (q := 77) dX11_pupil_74 rfl fk_X11_216 hc16 (by decide) (by decide) ?_
                obtain rfl := Option.some.inj h
                exact sm_iret dX11_pupil_77 rfl
              · rcases sm_if_e h with ⟨hb17, h⟩ | ⟨hb17, h⟩
                · refine sm_tableIn (q := 78) (off := 71) dX11_pupil_7 (by rw [hb17]; decide) (by rw [hb17]; decide) (by rw [hb17]; decide) (by decide) ?_
                  refine sm_aload_n (q := 79) dX11_pupil_78 rfl rfl 1 rfl ?_
                  refine sm_aload_n (q := 80) dX11_pupil_79 rfl rfl 0 rfl ?_
                  obtain ⟨p18, hc_p18, h⟩ := sm_bd_e h
                  refine sm_callVi (q := 83) (As := [.inr (.inl r3)]) (S := []) (e_X11_wouldLearn hc_p18) mv_X11_219 hc1 rfl (by decide) (Nat.le_of_ble_eq_true rfl) dX11_pupil_80 rfl ?_
                  obtain rfl := Option.some.inj h
                  exact sm_iret dX11_pupil_83 rfl
                · refine sm_tableOut (q := 84) dX11_pupil_7 (sm_sw (fun v h1 h2 he => (fun e => e.elim (fun e => hb5 (he.trans ((congrArg Int32.ofInt e).trans (by decide)))) (fun e => e.elim (fun e => hb7 (he.trans ((congrArg Int32.ofInt e).trans (by decide)))) (fun e => e.elim (fun e => hb9 (he.trans ((congrArg Int32.ofInt e).trans (by decide)))) (fun e => e.elim (fun e => hb11 (he.trans ((congrArg Int32.ofInt e).trans (by decide)))) (fun e => e.elim (fun e => hb13 (he.trans ((congrArg Int32.ofInt e).trans (by decide)))) (fun e => e.elim (fun e => hb15 (he.trans ((congrArg Int32.ofInt e).trans (by decide)))) (fun e => hb17 (he.trans ((congrArg Int32.ofInt e).trans (by decide)))))))))) (show v = 0 ∨ v = 1 ∨ v = 2 ∨ v = 3 ∨ v = 4 ∨ v = 5 ∨ v = 6 by omega))) (by decide) ?_
                  obtain rfl := Option.some.inj h
                  exact sm_throw (tx := "no such what of a pupil") (j := 21) hl (by decide +kernel) (by decide +kernel) (by decide) cl_X11_165 in_NSE (List.mem_of_getElem? (i := 21) rfl) th_X11_169 tg_X11_165_169 (Nat.le_of_ble_eq_true rfl) dX11_pupil_84 dX11_pupil_87 dX11_pupil_88 dX11_pupil_90 dX11_pupil_93
  · obtain rfl := Option.some.inj h
    exact sm_callVX (E := E9) (As := [.inl a1]) (S := []) (ex_X11_needPupil hl hc_p2) mv_X11_198 hc1 rfl (by decide) (Nat.le_of_ble_eq_true rfl) dX11_pupil_2
theorem e_X11_pupil {l : Launch} (hl : l.stackTraces = false) {N : Nat} {R : Nat → Nat → Nat} {a0 : Nat} {a1 : Int32} {a2 : Int32} {I : (Nat → Nat → Int32)} {y : ((Int32 ⊕ String) × (Nat → Nat → Int32))} (h : f_X11_pupil N R a0 a1 a2 I = some y) : sm_E l 4 mX11_pupil [.inr (.inl a0), .inl a1, .inl a2] (I, R) (sm_oI y.1) (y.2, R) :=
  sm_meth (by decide) (Nat.le_of_ble_eq_true rfl) (w_X11_pupil hl N R a0 a1 a2 I y h)
theorem ek_X11_pupil {l : Launch} (hl : l.stackTraces = false) {N : Nat} {R : Nat → Nat → Nat} {a0 : Nat} {a1 : Int32} {a2 : Int32} {I : (Nat → Nat → Int32)} {r : Int32} {J : (Nat → Nat → Int32)} (h : f_X11_pupil N R a0 a1 a2 I = some (.inl r, J)) : sm_E l 4 mX11_pupil [.inr (.inl a0), .inl a1, .inl a2] (I, R) (.inl (some (.inl r))) (J, R) := by
  have h1 := e_X11_pupil (l := l) hl h
  exact h1
theorem ex_X11_pupil {l : Launch} (hl : l.stackTraces = false) {N : Nat} {R : Nat → Nat → Nat} {a0 : Nat} {a1 : Int32} {a2 : Int32} {I : (Nat → Nat → Int32)} {E : String} {J : (Nat → Nat → Int32)} (h : f_X11_pupil N R a0 a1 a2 I = some (.inr E, J)) : sm_E l 4 mX11_pupil [.inr (.inl a0), .inl a1, .inl a2] (I, R) (.inr E) (J, R) := by
  have h1 := e_X11_pupil (l := l) hl h
  exact h1
