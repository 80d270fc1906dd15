def f_X11_toGlove_8 (N : Nat) (R : Nat → Nat → Nat) : Nat → Nat → Nat → Int32 → (Nat → Nat → Int32) → Option ((Int32 ⊕ String) × (Nat → Nat → Int32))
  | 0, _, _, _, _ => none
  | n + 1, a0, a2, a3, I =>
    if (9 : Int32) < a3 then (
      some (.inl (-1 : Int32), I))
    else (
      sm_gd (sm_kd a0 = (11, 18)) <|
      sm_gd (sm_kd (R a0 10) = (4, 6)) <|
      (f_X4_become N R (R a0 10) a2 I).bind fun p4 =>
      (f_X4_addSore N R (R a0 10) (-a3) p4.2).bind fun p5 =>
      sm_gd (sm_kd (R a0 3) = (7, 9)) <|
      (f_X7_passWeeks N R (R a0 3) (R a0 10) (1 : Int32) p5.2).bind fun p7 =>
      sm_gd (sm_kd a2 = (4, 6)) <|
      if (p7.2 (R a0 10) 3) ≤ (p7.2 a2 3) then (
        f_X11_toGlove_8 N R n a0 a2 (a3 + 1) p7.2)
      else (
        some (.inl a3, p7.2)))
def f_X11_toGlove (N : Nat) (R : Nat → Nat → Nat) : Nat → Int32 → (Nat → Nat → Int32) → Option ((Int32 ⊕ String) × (Nat → Nat → Int32)) := fun a0 a1 I =>
  sm_gd (sm_kd a0 = (11, 18)) <|
  sm_tb (f_X11_needPupil N R a0 a1 I) fun r3 J4 =>
  f_X11_toGlove_8 N R N a0 r3 (0 : Int32) J4
set_option maxHeartbeats 4000000 in
set_option maxRecDepth 100000 in
theorem w_X11_toGlove_8 {l : Launch} (hl : l.stackTraces = false) (N : Nat) (R : Nat → Nat → Nat) : ∀ (n : Nat) (a0 : Nat) (a2 : Nat) (a3 : Int32) (I : (Nat → Nat → Int32)) (y : ((Int32 ⊕ String) × (Nat → Nat → Int32))), f_X11_toGlove_8 N R n a0 a2 a3 I = some y → sm_W l 4 mX11_toGlove 8 [(0, .inr (.inl a0)), (2, .inr (.inl a2)), (3, .inl a3)] [] (I, R) (sm_oI y.1) (y.2, R) := by
  intro n
  induction n with
  | zero => intro a0 a2 a3 I y h; cases h
  | succ n ih =>
    intro a0 a2 a3 I y h
    rw [f_X11_toGlove_8] at h
    refine sm_iload_n (q := 9) dX11_toGlove_8 rfl rfl 2 rfl ?_
    refine sm_bipush (v := 9) (q := 11) dX11_toGlove_9 rfl (by decide) ?_
    rcases sm_if_e h with ⟨hb1, h⟩ | ⟨hb1, h⟩
    · refine sm_icmp_gt (tgt := 65) (q := 14) dX11_toGlove_11 (by decide) rfl (fun _ => ?_) (fun hn => absurd hb1 hn)
      refine sm_iconst (v := -1) (q := 66) dX11_toGlove_65 rfl (by decide) ?_
      obtain rfl := Option.some.inj h
      exact sm_iret dX11_toGlove_66 rfl
    · refine sm_icmp_gt (tgt := 65) (q := 14) dX11_toGlove_11 (by decide) rfl (fun ht => absurd ht hb1) (fun _ => ?_)
      refine sm_aload_n (q := 15) dX11_toGlove_14 rfl rfl 0 rfl ?_
      obtain ⟨hc2, h⟩ := sm_gd_e h
      refine sm_getR (r := R a0 10) (q := 18) dX11_toGlove_15 rfl fk_X11_64 hc2 (by decide) (by decide) rfl ?_
      refine sm_aload_n (q := 19) dX11_toGlove_18 rfl rfl 1 rfl ?_
      obtain ⟨hc3, h⟩ := sm_gd_e h
      obtain ⟨p4, hc_p4, h⟩ := sm_bd_e h
      refine sm_callVv (q := 22) (As := [.inr (.inl a2)]) (S := []) (e_X4_become hc_p4) mv_X11_225 hc3 rfl (by decide) (Nat.le_of_ble_eq_true rfl) dX11_toGlove_19 rfl ?_
      refine sm_aload_n (q := 23) dX11_toGlove_22 rfl rfl 0 rfl ?_
      refine sm_getR (r := R a0 10) (q := 26) dX11_toGlove_23 rfl fk_X11_64 hc2 (by decide) (by decide) rfl ?_
      refine sm_iload_n (q := 27) dX11_toGlove_26 rfl rfl 2 rfl ?_
      refine sm_ineg (q := 28) dX11_toGlove_27 rfl ?_
      obtain ⟨p5, hc_p5, h⟩ := sm_bd_e h
      refine sm_callVv (q := 31) (As := [.inl (-a3)]) (S := []) (e_X4_addSore hc_p5) mv_X11_250 hc3 rfl (by decide) (Nat.le_of_ble_eq_true rfl) dX11_toGlove_28 rfl ?_
      refine sm_aload_n (q := 32) dX11_toGlove_31 rfl rfl 0 rfl ?_
      refine sm_getR (r := R a0 3) (q := 35) dX11_toGlove_32 rfl fk_X11_20 hc2 (by decide) (by decide) rfl ?_
      refine sm_aload_n (q := 36) dX11_toGlove_35 rfl rfl 0 rfl ?_
      refine sm_getR (r := R a0 10) (q := 39) dX11_toGlove_36 rfl fk_X11_64 hc2 (by decide) (by decide) rfl ?_
      refine sm_iconst (v := 1) (q := 40) dX11_toGlove_39 rfl (by decide) ?_
      obtain ⟨hc6, h⟩ := sm_gd_e h
      obtain ⟨p7, hc_p7, h⟩ := sm_bd_e h
      refine sm_callVv (q := 43) (As := [.inr (.inl (R a0 10)), .inl (1 : Int32)]) (S := []) (e_X7_passWeeks hc_p7) mv_X11_239 hc6 rfl (by decide) (Nat.le_of_ble_eq_true rfl) dX11_toGlove_40 rfl ?_
      refine sm_aload_n (q := 44) dX11_toGlove_43 rfl rfl 0 rfl ?_
      refine sm_getR (r := R a0 10) (q := 47) dX11_toGlove_44 rfl fk_X11_64 hc2 (by decide) (by decide) rfl ?_
      refine sm_getI (q := 50) dX11_toGlove_47 rfl fk_X11_211 hc3 (by decide) (by decide) ?_
      refine sm_aload_n (q := 51) dX11_toGlove_50 rfl rfl 1 rfl ?_
      obtain ⟨hc8, h⟩ := sm_gd_e h
      refine sm_getI (q := 54) dX11_toGlove_51 rfl fk_X11_211 hc8 (by decide) (by decide) ?_
      rcases sm_if_e h with ⟨hb9, h⟩ | ⟨hb9, h⟩
      · refine sm_icmp_le (tgt := 59) (q := 57) dX11_toGlove_54 (by decide) rfl (fun _ => ?_) (fun hn => absurd hb9 hn)
        refine sm_iinc (v := (a3 + 1)) (L' := [(3, .inl (a3 + 1)), (0, .inr (.inl a0)), (2, .inr (.inl a2))]) (q := 62) dX11_toGlove_59 rfl 2 rfl rfl (by decide) rfl ?_
        refine sm_goto (q := 8) dX11_toGlove_62 (by decide) ?_
        refine sm_pick [1, 2, 0] rfl ?_
        exact ih _ _ _ _ _ h
      · refine sm_icmp_le (tgt := 59) (q := 57) dX11_toGlove_54 (by decide) rfl (fun ht => absurd ht hb9) (fun _ => ?_)
        refine sm_iload_n (q := 58) dX11_toGlove_57 rfl rfl 2 rfl ?_
        obtain rfl := Option.some.inj h
        exact sm_iret dX11_toGlove_58 rfl
set_option maxHeartbeats 4000000 in
set_option maxRecDepth 100000 in
theorem w_X11_toGlove {l : Launch} (hl : l.stackTraces = false) (N : Nat) (R : Nat → Nat → Nat) : ∀ (a0 : Nat) (a1 : Int32) (I : (Nat → Nat → Int32)) (y : ((Int32 ⊕ String) × (Nat → Nat → Int32))), f_X11_toGlove N R a0 a1 I = some y → sm_W l 4 mX11_toGlove 0 [(0, .inr (.inl a0)), (1, .inl a1)] [] (I, R) (sm_oI y.1) (y.2, R) := by
  intro a0 a1 I y h
  unfold f_X11_toGlove at h
  refine sm_aload_n (q := 1) dX11_toGlove_0 rfl rfl 0 rfl ?_
  refine sm_iload_n (q := 2) dX11_toGlove_1 rfl rfl 1 rfl ?_
  obtain ⟨hc1, h⟩ := sm_gd_e h
  rcases sm_tb_e h with ⟨r3, J4, hc_p2, h⟩ | ⟨E9, J9, hc_p2, h⟩
  · refine sm_callVr (q := 5) (As := [.inl a1]) (S := []) (ek_X11_needPupil hl hc_p2) mv_X11_198 hc1 rfl (by decide) (Nat.le_of_ble_eq_true rfl) dX11_toGlove_2 rfl ?_
    refine sm_astore_n (L' := [(2, .inr (.inl r3)), (0, .inr (.inl a0)), (1, .inl a1)]) (q := 6) dX11_toGlove_5 rfl rfl (by decide) rfl ?_
    refine sm_iconst (v := 0) (q := 7) dX11_toGlove_6 rfl (by decide) ?_
    refine sm_istore_n (L' := [(3, .inl (0 : Int32)), (2, .inr (.inl r3)), (0, .inr (.inl a0)), (1, .inl a1)]) (q := 8) dX11_toGlove_7 rfl rfl (by decide) rfl ?_
    refine sm_pick [2, 1, 0] rfl ?_
    exact w_X11_toGlove_8 hl N R N _ _ _ _ _ h
  · obtain rfl := Option.some.inj h
    exact sm_callVX (E := E9) (As := [.inl a1]) (S := []) (ex_X11_needPupil hl hc_p2) mv_X11_198 hc1 rfl (by decide) (Nat.le_of_ble_eq_true rfl) dX11_toGlove_2
theorem e_X11_toGlove {l : Launch} (hl : l.stackTraces = false) {N : Nat} {R : Nat → Nat → Nat} {a0 : Nat} {a1 : Int32} {I : (Nat → Nat → Int32)} {y : ((Int32 ⊕ String) × (Nat → Nat → Int32))} (h : f_X11_toGlove N R a0 a1 I = some y) : sm_E l 4 mX11_toGlove [.inr (.inl a0), .inl a1] (I, R) (sm_oI y.1) (y.2, R) :=
  sm_meth (by decide) (Nat.le_of_ble_eq_true rfl) (w_X11_toGlove hl N R a0 a1 I y h)
theorem ek_X11_toGlove {l : Launch} (hl : l.stackTraces = false) {N : Nat} {R : Nat → Nat → Nat} {a0 : Nat} {a1 : Int32} {I : (Nat → Nat → Int32)} {r : Int32} {J : (Nat → Nat → Int32)} (h : f_X11_toGlove N R a0 a1 I = some (.inl r, J)) : sm_E l 4 mX11_toGlove [.inr (.inl a0), .inl a1] (I, R) (.inl (some (.inl r))) (J, R) := by
  have h1 := e_X11_toGlove (l := l) hl h
  exact h1
theorem ex_X11_toGlove {l : Launch} (hl : l.stackTraces = false) {N : Nat} {R : Nat → Nat → Nat} {a0 : Nat} {a1 : Int32} {I : (Nat → Nat → Int32)} {E : String} {J : (Nat → Nat → Int32)} (h : f_X11_toGlove N R a0 a1 I = some (.inr E, J)) : sm_E l 4 mX11_toGlove [.inr (.inl a0), .inl a1] (I, R) (.inr E) (J, R) := by
  have h1 := e_X11_toGlove (l := l) hl h
  exact h1
