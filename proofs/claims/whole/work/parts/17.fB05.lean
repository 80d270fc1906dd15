def f_X11_count (N : Nat) (R : Nat → Nat → Nat) : Nat → Int32 → (Nat → Nat → Int32) → Option ((Int32 ⊕ String) × (Nat → Nat → Int32)) := fun a0 a1 I =>
  if a1 = 0 then (
    sm_gd (sm_kd a0 = (11, 18)) <|
    sm_gd (sm_kd (R a0 3) = (7, 9)) <|
    some (.inl (I (R a0 3) 3), I))
  else (
    if a1 = 1 then (
      sm_gd (sm_kd a0 = (11, 18)) <|
      sm_gd (sm_kd (R a0 3) = (7, 9)) <|
      sm_gd (sm_kd (R (R a0 3) 5) = (10, 4)) <|
      some (.inl (I (R (R a0 3) 5) 1), I))
    else (
      if a1 = 2 then (
        sm_gd (sm_kd a0 = (11, 18)) <|
        sm_gd (sm_kd (R a0 3) = (7, 9)) <|
        sm_gd (sm_kd (R (R a0 3) 5) = (10, 4)) <|
        some (.inl (I (R (R a0 3) 5) 3), I))
      else (
        if a1 = 3 then (
          sm_gd (sm_kd a0 = (11, 18)) <|
          sm_gd (sm_kd (R a0 3) = (7, 9)) <|
          sm_gd (sm_kd (R (R a0 3) 5) = (10, 4)) <|
          some (.inl (I (R (R a0 3) 5) 2), I))
        else (
          if a1 = 4 then (
            sm_gd (sm_kd a0 = (11, 18)) <|
            sm_gd (sm_kd (R a0 3) = (7, 9)) <|
            sm_gd (sm_kd (R (R a0 3) 5) = (10, 4)) <|
            (f_X10_awayIn N R (R (R a0 3) 5) (1 : Int32) I).bind fun p20 =>
            some (.inl p20.1, p20.2))
          else (
            if a1 = 5 then (
              sm_gd (sm_kd a0 = (11, 18)) <|
              (f_X11_whoseIsDone N R a0 I).bind fun p23 =>
              some (.inl p23.1, p23.2))
            else (
              if a1 = 6 then (
                sm_gd (sm_kd a0 = (11, 18)) <|
                sm_gd (sm_kd (R a0 3) = (7, 9)) <|
                sm_gd (sm_kd (R (R a0 3) 5) = (10, 4)) <|
                (f_X10_skillOfAll N R (R (R a0 3) 5) I).bind fun p28 =>
                some (.inl p28.1, p28.2))
              else (
                if a1 = 7 then (
                  sm_gd (sm_kd a0 = (11, 18)) <|
                  sm_gd (sm_kd (R a0 6) = (0, 3)) <|
                  some (.inl (I (R a0 6) 2), I))
                else (
                  if a1 = 8 then (
                    sm_gd (sm_kd a0 = (11, 18)) <|
                    sm_gd (sm_kd (R a0 7) = (9, 4)) <|
                    some (.inl (I (R a0 7) 3), I))
                  else (
                    if a1 = 9 then (
                      sm_gd (sm_kd a0 = (11, 18)) <|
                      some (.inl (I a0 1), I))
                    else (
                      if a1 = 10 then (
                        sm_gd (sm_kd a0 = (11, 18)) <|
                        sm_gd ((sm_kd (R a0 8)).1 = 13 ∧ ¬ ((0 : Int32) < 0 ∨ (sm_kd (R a0 8)).2 ≤ ((0 : Int32)).toNatClampNeg)) <|
                        some (.inl (I (R a0 8) ((0 : Int32)).toNatClampNeg), I))
                      else (
                        if a1 = 11 then (
                          sm_gd (sm_kd a0 = (11, 18)) <|
                          sm_gd ((sm_kd (R a0 8)).1 = 13 ∧ ¬ ((1 : Int32) < 0 ∨ (sm_kd (R a0 8)).2 ≤ ((1 : Int32)).toNatClampNeg)) <|
                          some (.inl (I (R a0 8) ((1 : Int32)).toNatClampNeg), I))
                        else (
                          if a1 = 12 then (
                            sm_gd (sm_kd a0 = (11, 18)) <|
                            sm_gd ((sm_kd (R a0 8)).1 = 13 ∧ ¬ ((2 : Int32) < 0 ∨ (sm_kd (R a0 8)).2 ≤ ((2 : Int32)).toNatClampNeg)) <|
                            some (.inl (I (R a0 8) ((2 : Int32)).toNatClampNeg), I))
                          else (
                            some (.inr "java/util/NoSuchElementException", I))))))))))))))
set_option maxHeartbeats 4000000 in
set_option maxRecDepth 100000 in
theorem w_X11_count {l : Launch} (hl : l.stackTraces = false) (N : Nat) (R : Nat → Nat → Nat) : ∀ (a0 : Nat) (a1 : Int32) (I : (Nat → Nat → Int32)) (y : ((Int32 ⊕ String) × (Nat → Nat → Int32))), f_X11_count N R a0 a1 I = some y → sm_W l 3 mX11_count 0 [(0, .inr (.inl a0)), (1, .inl a1)] [] (I, R) (sm_oI y.1) (y.2, R) := by
  intro a0 a1 I y h
  unfold f_X11_count at h
  refine sm_iload_n (q := 1) dX11_count_0 rfl rfl 1 rfl ?_
  rcases sm_if_e h with ⟨hb1, h⟩ | ⟨hb1, h⟩
  · refine sm_tableIn (q := 68) (off := 67) dX11_count_1 (by rw [hb1]; decide) (by rw [hb1]; decide) (by rw [hb1]; decide) (by decide) ?_
    refine sm_aload_n (q := 69) dX11_count_68 rfl rfl 0 rfl ?_
    obtain ⟨hc2, h⟩ := sm_gd_e h
    refine sm_getR (r := R a0 3) (q := 72) dX11_count_69 rfl fk_X11_20 hc2 (by decide) (by decide) rfl ?_
    obtain ⟨hc3, h⟩ := sm_gd_e h
    refine sm_getI (q := 75) dX11_count_72 rfl fk_X11_134 hc3 (by decide) (by decide) ?_
    obtain rfl := Option.some.inj h
    exact sm_iret dX11_count_75 rfl
  · rcases sm_if_e h with ⟨hb4, h⟩ | ⟨hb4, h⟩
    · refine sm_tableIn (q := 76) (off := 75) dX11_count_1 (by rw [hb4]; decide) (by rw [hb4]; decide) (by rw [hb4]; decide) (by decide) ?_
      refine sm_aload_n (q := 77) dX11_count_76 rfl rfl 0 rfl ?_
      obtain ⟨hc5, h⟩ := sm_gd_e h
      refine sm_getR (r := R a0 3) (q := 80) dX11_count_77 rfl fk_X11_20 hc5 (by decide) (by decide) rfl ?_
      obtain ⟨hc6, h⟩ := sm_gd_e h
      refine sm_getR (r := R (R a0 3) 5) (q := 83) dX11_count_80 rfl fk_X11_137 hc6 (by decide) (by decide) rfl ?_
      obtain ⟨hc7, h⟩ := sm_gd_e h
      refine sm_getI (q := 86) dX11_count_83 rfl fk_X11_140 hc7 (by decide) (by decide) ?_
      obtain rfl := Option.some.inj h
      exact sm_iret dX11_count_86 rfl
    · rcases sm_if_e h with ⟨hb8, h⟩ | ⟨hb8, h⟩
      · refine sm_tableIn (q := 87) (off := 86) dX11_count_1 (by rw [hb8]; decide) (by rw [hb8]; decide) (by rw [hb8]; decide) (by decide) ?_
        refine sm_aload_n (q := 88) dX11_count_87 rfl rfl 0 rfl ?_
        obtain ⟨hc9, h⟩ := sm_gd_e h
        refine sm_getR (r := R a0 3) (q := 91) dX11_count_88 rfl fk_X11_20 hc9 (by decide) (by decide) rfl ?_
        obtain ⟨hc10, h⟩ := sm_gd_e h
        refine sm_getR (r := R (R a0 3) 5) (q := 94) dX11_count_91 rfl fk_X11_137 hc10 (by decide) (by decide) rfl ?_
        obtain ⟨hc11, h⟩ := sm_gd_e h
        refine sm_getI (q := 97) dX11_count_94 rfl fk_X11_143 hc11 (by decide) (by decide) ?_
        obtain rfl := Option.some.inj h
        exact sm_iret dX11_count_97 rfl
      · rcases sm_if_e h with ⟨hb12, h⟩ | ⟨hb12, h⟩
        · refine sm_tableIn (q := 98) (off := 97) dX11_count_1 (by rw [hb12]; decide) (by rw [hb12]; decide) (by rw [hb12]; decide) (by decide) ?_
          refine sm_aload_n (q := 99) dX11_count_98 rfl rfl 0 rfl ?_
          obtain ⟨hc13, h⟩ := sm_gd_e h
          refine sm_getR (r := R a0 3) (q := 102) dX11_count_99 rfl fk_X11_20 hc13 (by decide) (by decide) rfl ?_
          obtain ⟨hc14, h⟩ := sm_gd_e h
          refine sm_getR (r := R (R a0 3) 5) (q := 105) dX11_count_102 rfl fk_X11_137 hc14 (by decide) (by decide) rfl ?_
          obtain ⟨hc15, h⟩ := sm_gd_e h
          refine sm_getI (q := 108) dX11_count_105 rfl fk_X11_146 hc15 (by decide) (by decide) ?_
          obtain rfl := Option.some.inj h
          exact sm_iret dX11_count_108 rfl
        · rcases sm_if_e h with ⟨hb16, h⟩ | ⟨hb16, h⟩
          · refine sm_tableIn (q := 109) (off := 108) dX11_count_1 (by rw [hb16]; decide) (by rw [hb16]; decide) (by rw [hb16]; decide) (by decide) ?_
            refine sm_aload_n (q := 110) dX11_count_109 rfl rfl 0 rfl ?_
            obtain ⟨hc17, h⟩ := sm_gd_e h
            refine sm_getR (r := R a0 3) (q := 113) dX11_count_110 rfl fk_X11_20 hc17 (by decide) (by decide) rfl ?_
            obtain ⟨hc18, h⟩ := sm_gd_e h
            refine sm_getR (r := R (R a0 3) 5) (q := 116) dX11_count_113 rfl fk_X11_137 hc18 (by decide) (by decide) rfl ?_
            refine sm_iconst (v := 1) (q := 117) dX11_count_116 rfl (by decide) ?_
            obtain ⟨hc19, h⟩ := sm_gd_e h
            obtain ⟨p20, hc_p20, h⟩ := sm_bd_e h
            refine sm_callVi (q := 120) (As := [.inl (1 : Int32)]) (S := []) (e_X10_awayIn hc_p20) mv_X11_149 hc19 rfl (by decide) (Nat.le_of_ble_eq_true rfl) dX11_count_117 rfl ?_
            obtain rfl := Option.some.inj h
            exact sm_iret dX11_count_120 rfl
          · rcases sm_if_e h with ⟨hb21, h⟩ | ⟨hb21, h⟩
            · refine sm_tableIn (q := 121) (off := 120) dX11_count_1 (by rw [hb21]; decide) (by rw [hb21]; decide) (by rw [hb21]; decide) (by decide) ?_
              refine sm_aload_n (q := 122) dX11_count_121 rfl rfl 0 rfl ?_
              obtain ⟨hc22, h⟩ := sm_gd_e h
              obtain ⟨p23, hc_p23, h⟩ := sm_bd_e h
              refine sm_callVi (q := 125) (As := []) (S := []) (e_X11_whoseIsDone hc_p23) mv_X11_153 hc22 rfl (by decide) (Nat.le_of_ble_eq_true rfl) dX11_count_122 rfl ?_
              obtain rfl := Option.some.inj h
              exact sm_iret dX11_count_125 rfl
            · rcases sm_if_e h with ⟨hb24, h⟩ | ⟨hb24, h⟩
              · refine sm_tableIn (q := 126) (off := 125) dX11_count_1 (by rw [hb24]; decide) (by rw [hb24]; decide) (by rw [hb24]; decide) (by decide) ?_
                refine sm_aload_n (q := 127) dX11_count_126 rfl rfl 0 rfl ?_
                obtain ⟨hc25, h⟩ := sm_gd_e h
                refine sm_getR (r := R a0 3) (q := 130) dX11_count_127 rfl fk_X11_20 hc25 (by decide) (by decide) rfl ?_
                obtain ⟨hc26, h⟩ := sm_gd_e h
                refine sm_getR (r := R (R a0 3) 5) (q := 133) dX11_count_130 rfl fk_X11_137 hc26 (by decide) (by decide) rfl ?_
                obtain ⟨hc27, h⟩ := sm_gd_e h
                obtain ⟨p28, hc_p28, h⟩ := sm_bd_e h
                refine sm_callVi (q := 136) (As := []) (S := []) (e_X10_skillOfAll hc_p28) mv_X11_157 hc27 rfl (by decide) (Nat.le_of_ble_eq_true rfl) dX11_count_133 rfl ?_
                obtain rfl := Option.some.inj h
                exact sm_iret dX11_count_136 rfl
              · rcases sm_if_e h with ⟨hb29, h⟩ | ⟨hb29, h⟩
                · refine sm_tableIn (q := 137) (off := 136) dX11_count_1 (by rw [hb29]; decide) (by rw [hb29]; decide) (by rw [hb29]; decide) (by decide) ?_
                  refine sm_aload_n (q := 138) dX11_count_137 rfl rfl 0 rfl ?_
                  obtain ⟨hc30, h⟩ := sm_gd_e h
                  refine sm_getR (r := R a0 6) (q := 141) dX11_count_138 rfl fk_X11_39 hc30 (by decide) (by decide) rfl ?_
                  obtain ⟨hc31, h⟩ := sm_gd_e h
                  refine sm_getI (q := 144) dX11_count_141 rfl fk_X11_160 hc31 (by decide) (by decide) ?_
                  obtain rfl := Option.some.inj h
                  exact sm_iret dX11_count_144 rfl
                · rcases sm_if_e h with ⟨hb32, h⟩ | ⟨hb32, h⟩
                  · refine sm_tableIn (q := 145) (off := 144) dX11_count_1 (by rw [hb32]; decide) (by rw [hb32]; decide) (by rw [hb32]; decide) (by decide) ?_
                    refine sm_aload_n (q := 146) dX11_count_145 rfl rfl 0 rfl ?_
                    obtain ⟨hc33, h⟩ := sm_gd_e h
                    refine sm_getR (r := R a0 7) (q := 149) dX11_count_146 rfl fk_X11_46 hc33 (by decide) (by decide) rfl ?_
                    obtain ⟨hc34, h⟩ := sm_gd_e h
                    refine sm_getI (q := 152) dX11_count_149 rfl fk_X11_162 hc34 (by decide) (by decide) ?_
                    obtain rfl := Option.some.inj h
                    exact sm_iret dX11_count_152 rfl
                  · rcases sm_if_e h with ⟨hb35, h⟩ | ⟨hb35, h⟩
                    · refine sm_tableIn (q := 153) (off := 152) dX11_count_1 (by rw [hb35]; decide) (by rw [hb35]; decide) (by rw [hb35]; decide) (by decide) ?_
                      refine sm_aload_n (q := 154) dX11_count_153 rfl rfl 0 rfl ?_
                      obtain ⟨hc36, h⟩ := sm_gd_e h
                      refine sm_getI (q := 157) dX11_count_154 rfl fk_X11_102 hc36 (by decide) (by decide) ?_
                      obtain rfl := Option.some.inj h
                      exact sm_iret dX11_count_157 rfl
                    · rcases sm_if_e h with ⟨hb37, h⟩ | ⟨hb37, h⟩
                      · refine sm_tableIn (q := 158) (off := 157) dX11_count_1 (by rw [hb37]; decide) (by rw [hb37]; decide) (by rw [hb37]; decide) (by decide) ?_
                        refine sm_aload_n (q := 159) dX11_count_158 rfl rfl 0 rfl ?_
                        obtain ⟨hc38, h⟩ := sm_gd_e h
                        refine sm_getR (r := R a0 8) (q := 162) dX11_count_159 rfl fk_X11_50 hc38 (by decide) (by decide) rfl ?_
                        refine sm_iconst (v := 0) (q := 163) dX11_count_162 rfl (by decide) ?_
                        obtain ⟨hc39, h⟩ := sm_gd_e h
                        refine sm_iald (n := (sm_kd (R a0 8)).2) (q := 164) dX11_count_163 rfl (Prod.ext hc39.1 rfl) hc39.2 ?_
                        obtain rfl := Option.some.inj h
                        exact sm_iret dX11_count_164 rfl
                      · rcases sm_if_e h with ⟨hb40, h⟩ | ⟨hb40, h⟩
                        · refine sm_tableIn (q := 165) (off := 164) dX11_count_1 (by rw [hb40]; decide) (by rw [hb40]; decide) (by rw [hb40]; decide) (by decide) ?_
                          refine sm_aload_n (q := 166) dX11_count_165 rfl rfl 0 rfl ?_
                          obtain ⟨hc41, h⟩ := sm_gd_e h
                          refine sm_getR (r := R a0 8) (q := 169) dX11_count_166 rfl fk_X11_50 hc41 (by decide) (by decide) rfl ?_
                          refine sm_iconst (v := 1) (q := 170) dX11_count_169 rfl (by decide) ?_
                          obtain ⟨hc42, h⟩ := sm_gd_e h
                          refine sm_iald (n := (sm_kd (R a0 8)).2) (q := 171) dX11_count_170 rfl (Prod.ext hc42.1 rfl) hc42.2 ?_
                          obtain rfl := Option.some.inj h
                          exact sm_iret dX11_count_171 rfl
                        · rcases sm_if_e h with ⟨hb43, h⟩ | ⟨hb43, h⟩
                          · refine sm_tableIn (q := 172) (off := 171) dX11_count_1 (by rw [hb43]; decide) (by rw [hb43]; decide) (by rw [hb43]; decide) (by decide) ?_
                            refine sm_aload_n (q := 173) dX11_count_172 rfl rfl 0 rfl ?_
                            obtain ⟨hc44, h⟩ := sm_gd_e h
                            refine sm_getR (r := R a0 8) (q := 176) dX11_count_173 rfl fk_X11_50 hc44 (by decide) (by decide) rfl ?_
                            refine sm_iconst (v := 2) (q := 177) dX11_count_176 rfl (by decide) ?_
                            obtain ⟨hc45, h⟩ := sm_gd_e h
                            refine sm_iald (n := (sm_kd (R a0 8)).2) (q := 178) dX11_count_177 rfl (Prod.ext hc45.1 rfl) hc45.2 ?_
                            obtain rfl := Option.some.inj h
                            exact sm_iret dX11_count_178 rfl
                          · refine sm_tableOut (q := 179) dX11_count_1 (sm_sw (fun v h1 h2 he => (fun e => e.elim (fun e => hb1 (he.trans ((congrArg Int32.ofInt e).trans (by decide)))) (fun e => e.elim (fun e => hb4 (he.trans ((congrArg Int32.ofInt e).trans (by decide)))) (fun e => e.elim (fun e => hb8 (he.trans ((congrArg Int32.ofInt e).trans (by decide)))) (fun e => e.elim (fun e => hb12 (he.trans ((congrArg Int32.ofInt e).trans (by decide)))) (fun e => e.elim (fun e => hb16 (he.trans ((congrArg Int32.ofInt e).trans (by decide)))) (fun e => e.elim (fun e => hb21 (he.trans ((congrArg Int32.ofInt e).trans (by decide)))) (fun e => e.elim (fun e => hb24 (he.trans ((congrArg Int32.ofInt e).trans (by decide)))) (fun e => e.elim (fun e => hb29 (he.trans ((congrArg Int32.ofInt e).trans (by decide)))) (fun e => e.elim (fun e => hb32 (he.trans ((congrArg Int32.ofInt e).trans (by decide)))) (fun e => e.elim (fun e => hb35 (he.trans ((congrArg Int32.ofInt e).trans (by decide)))) (fun e => e.elim (fun e => hb37 (he.trans ((congrArg Int32.ofInt e).trans (by decide)))) (fun e => e.elim (fun e => hb40 (he.trans ((congrArg Int32.ofInt e).trans (by decide)))) (fun e => hb43 (he.trans ((congrArg Int32.ofInt e).trans (by decide)))))))))))))))) (show v = 0 ∨ v = 1 ∨ v = 2 ∨ v = 3 ∨ v = 4 ∨ v = 5 ∨ v = 6 ∨ v = 7 ∨ v = 8 ∨ v = 9 ∨ v = 10 ∨ v = 11 ∨ v = 12 by omega))) (by decide) ?_
                            obtain rfl := Option.some.inj h
                            exact sm_throw (tx := "no such count") (j := 16) hl (by decide +kernel) (by decide +kernel) (by decide) cl_X11_165 in_NSE (List.mem_of_getElem? (i := 16) rfl) th_X11_169 tg_X11_165_169 (Nat.le_of_ble_eq_true rfl) dX11_count_179 dX11_count_182 dX11_count_183 dX11_count_185 dX11_count_188
theorem e_X11_count {l : Launch} (hl : l.stackTraces = false) {N : Nat} {R : Nat → Nat → Nat} {a0 : Nat} {a1 : Int32} {I : (Nat → Nat → Int32)} {y : ((Int32 ⊕ String) × (Nat → Nat → Int32))} (h : f_X11_count N R a0 a1 I = some y) : sm_E l 3 mX11_count [.inr (.inl a0), .inl a1] (I, R) (sm_oI y.1) (y.2, R) :=
  sm_meth (by decide) (Nat.le_of_ble_eq_true rfl) (w_X11_count hl N R a0 a1 I y h)
theorem ek_X11_count {l : Launch} (hl : l.stackTraces = false) {N : Nat} {R : Nat → Nat → Nat} {a0 : Nat} {a1 : Int32} {I : (Nat → Nat → Int32)} {r : Int32} {J : (Nat → Nat → Int32)} (h : f_X11_count N R a0 a1 I = some (.inl r, J)) : sm_E l 3 mX11_count [.inr (.inl a0), .inl a1] (I, R) (.inl (some (.inl r))) (J, R) := by
  have h1 := e_X11_count (l := l) hl h
  exact h1
theorem ex_X11_count {l : Launch} (hl : l.stackTraces = false) {N : Nat} {R : Nat → Nat → Nat} {a0 : Nat} {a1 : Int32} {I : (Nat → Nat → Int32)} {E : String} {J : (Nat → Nat → Int32)} (h : f_X11_count N R a0 a1 I = some (.inr E, J)) : sm_E l 3 mX11_count [.inr (.inl a0), .inl a1] (I, R) (.inr E) (J, R) := by
  have h1 := e_X11_count (l := l) hl h
  exact h1
