def f_X11_next_16 (N : Nat) (R : Nat → Nat → Nat) : Nat → Nat → Nat → Int32 → (Nat → Nat → Int32) → Option ((Int32 ⊕ String) × (Nat → Nat → Int32))
  | 0, _, _, _, _ => none
  | n + 1, a0, a2, a3, I =>
    if (60 : Int32) < a3 then (
      some (.inl (-1 : Int32), I))
    else (
      sm_gd (sm_kd a0 = (11, 18)) <|
      sm_gd (sm_kd (R a0 3) = (7, 9)) <|
      (f_X7_passWeeks N R (R a0 3) (R a0 10) (1 : Int32) I).bind fun p4 =>
      sm_gd (sm_kd (R a0 10) = (4, 6)) <|
      sm_gd (sm_kd a2 = (4, 6)) <|
      if (p4.2 (R a0 10) 3) ≤ (p4.2 a2 3) then (
        f_X11_next_16 N R n a0 a2 (a3 + 1) p4.2)
      else (
        some (.inl a3, p4.2)))
def f_X11_next (N : Nat) (R : Nat → Nat → Nat) : Nat → Int32 → (Nat → Nat → Int32) → Option ((Int32 ⊕ String) × (Nat → Nat → Int32)) := fun a0 a1 I =>
  sm_gd (sm_kd a0 = (11, 18)) <|
  sm_tb (f_X11_needPupil N R a0 a1 I) fun r3 J4 =>
  sm_gd (sm_kd (R a0 10) = (4, 6)) <|
  (f_X4_become N R (R a0 10) r3 J4).bind fun p6 =>
  f_X11_next_16 N R N a0 r3 (1 : Int32) p6.2
set_option maxHeartbeats 4000000 in
set_option maxRecDepth 100000 in
theorem w_X11_next_16 {l : Launch} (hl : l.stackTraces = false) (N : Nat) (R : Nat → Nat → Nat) : ∀ (n : Nat) (a0 : Nat) (a2 : Nat) (a3 : Int32) (I : (Nat → Nat → Int32)) (y : ((Int32 ⊕ String) × (Nat → Nat → Int32))), f_X11_next_16 N R n a0 a2 a3 I = some y → sm_W l 4 mX11_next 16 [(0, .inr (.inl a0)), (2, .inr (.inl a2)), (3, .inl a3)] [] (I, R) (sm_oI y.1) (y.2, R) := by
  intro n
  induction n with
  | zero => intro a0 a2 a3 I y h; cases h
  | succ n ih =>
    intro a0 a2 a3 I y h
    rw [f_X11_next_16] at h
    refine sm_iload_n (q := 17) dX11_next_16 rfl rfl 2 rfl ?_
    refine sm_bipush (v := 60) (q := 19) dX11_next_17 rfl (by decide) ?_
    rcases sm_if_e h with ⟨hb1, h⟩ | ⟨hb1, h⟩
    · refine sm_icmp_gt (tgt := 56) (q := 22) dX11_next_19 (by decide) rfl (fun _ => ?_) (fun hn => absurd hb1 hn)
      refine sm_iconst (v := -1) (q := 57) dX11_next_56 rfl (by decide) ?_
      obtain rfl := Option.some.inj h
      exact sm_iret dX11_next_57 rfl
    · refine sm_icmp_gt (tgt := 56) (q := 22) dX11_next_19 (by decide) rfl (fun ht => absurd ht hb1) (fun _ => ?_)
      refine sm_aload_n (q := 23) dX11_next_22 rfl rfl 0 rfl ?_
      obtain ⟨hc2, h⟩ := sm_gd_e h
      refine sm_getR (r := R a0 3) (q := 26) dX11_next_23 rfl fk_X11_20 hc2 (by decide) (by decide) rfl ?_
      refine sm_aload_n (q := 27) dX11_next_26 rfl rfl 0 rfl ?_
      refine sm_getR (r := R a0 10) (q := 30) dX11_next_27 rfl fk_X11_64 hc2 (by decide) (by decide) rfl ?_
      refine sm_iconst (v := 1) (q := 31) dX11_next_30 rfl (by decide) ?_
      obtain ⟨hc3, h⟩ := sm_gd_e h
      obtain ⟨p4, hc_p4, h⟩ := sm_bd_e h
      refine sm_callVv (q := 34) (As := [.inr (.inl (R a0 10)), .inl (1 : Int32)]) (S := []) (e_X7_passWeeks hc_p4) mv_X11_239 hc3 rfl (by decide) (Nat.le_of_ble_eq_true rfl) dX11_next_31 rfl ?_
      refine sm_aload_n (q := 35) dX11_next_34 rfl rfl 0 rfl ?_
      refine sm_getR (r := R a0 10) (q := 38) dX11_next_35 rfl fk_X11_64 hc2 (by decide) (by decide) rfl ?_
      obtain ⟨hc5, h⟩ := sm_gd_e h
      refine sm_getI (q := 41) dX11_next_38 rfl fk_X11_211 hc5 (by decide) (by decide) ?_
      refine sm_aload_n (q := 42) dX11_next_41 rfl rfl 1 rfl ?_
      obtain ⟨hc6, h⟩ := sm_gd_e h
      refine sm_getI (q := 45) dX11_next_42 rfl fk_X11_211 hc6 (by decide) (by decide) ?_
      rcases sm_if_e h with ⟨hb7, h⟩ | ⟨hb7, h⟩
      · refine sm_icmp_le (tgt := 50) (q := 48) dX11_next_45 (by decide) rfl (fun _ => ?_) (fun hn => absurd hb7 hn)
        refine sm_iinc (v := (a3 + 1)) (L' := [(3, .inl (a3 + 1)), (0, .inr (.inl a0)), (2, .inr (.inl a2))]) (q := 53) dX11_next_50 rfl 2 rfl rfl (by decide) rfl ?_
        refine sm_goto (q := 16) dX11_next_53 (by decide) ?_
        refine sm_pick [1, 2, 0] rfl ?_
        exact ih _ _ _ _ _ h
      · refine sm_icmp_le (tgt := 50) (q := 48) dX11_next_45 (by decide) rfl (fun ht => absurd ht hb7) (fun _ => ?_)
        refine sm_iload_n (q := 49) dX11_next_48 rfl rfl 2 rfl ?_
        obtain rfl := Option.some.inj h
        exact sm_iret dX11_next_49 rfl
set_option maxHeartbeats 4000000 in
set_option maxRecDepth 100000 in
theorem w_X11_next {l : Launch} (hl : l.stackTraces = false) (N : Nat) (R : Nat → Nat → Nat) : ∀ (a0 : Nat) (a1 : Int32) (I : (Nat → Nat → Int32)) (y : ((Int32 ⊕ String) × (Nat → Nat → Int32))), f_X11_next N R a0 a1 I = some y → sm_W l 4 mX11_next 0 [(0, .inr (.inl a0)), (1, .inl a1)] [] (I, R) (sm_oI y.1) (y.2, R) := by
  intro a0 a1 I y h
  unfold f_X11_next at h
  refine sm_aload_n (q := 1) dX11_next_0 rfl rfl 0 rfl ?_
  refine sm_iload_n (q := 2) dX11_next_1 rfl rfl 1 rfl ?_
  obtain ⟨hc1, h⟩ := sm_gd_e h
  rcases sm_tb_e h with ⟨r3, J4, hc_p2, h⟩ | ⟨E9, J9, hc_p2, h⟩
  · refine sm_callVr (q := 5) (As := [.inl a1]) (S := []) (ek_X11_needPupil hl hc_p2) mv_X11_198 hc1 rfl (by decide) (Nat.le_of_ble_eq_true rfl) dX11_next_2 rfl ?_
    refine sm_astore_n (L' := [(2, .inr (.inl r3)), (0, .inr (.inl a0)), (1, .inl a1)]) (q := 6) dX11_next_5 rfl rfl (by decide) rfl ?_
    refine sm_aload_n (q := 7) dX11_next_6 rfl rfl 1 rfl ?_
    refine sm_getR (r := R a0 10) (q := 10) dX11_next_7 rfl fk_X11_64 hc1 (by decide) (by decide) rfl ?_
    refine sm_aload_n (q := 11) dX11_next_10 rfl rfl 0 rfl ?_
    obtain ⟨hc5, h⟩ := sm_gd_e h
    obtain ⟨p6, hc_p6, h⟩ := sm_bd_e h
    refine sm_callVv (q := 14) (As := [.inr (.inl r3)]) (S := []) (e_X4_become hc_p6) mv_X11_225 hc5 rfl (by decide) (Nat.le_of_ble_eq_true rfl) dX11_next_11 rfl ?_
    refine sm_iconst (v := 1) (q := 15) dX11_next_14 rfl (by decide) ?_
    refine sm_istore_n (L' := [(3, .inl (1 : Int32)), (2, .inr (.inl r3)), (0, .inr (.inl a0)), (1, .inl a1)]) (q := 16) dX11_next_15 rfl rfl (by decide) rfl ?_
    refine sm_pick [2, 1, 0] rfl ?_
    exact w_X11_next_16 hl N R N _ _ _ _ _ h
  · obtain rfl := Option.some.inj h
    exact sm_callVX (E := E9) (As := [.inl a1]) (S := []) (ex_X11_needPupil hl hc_p2) mv_X11_198 hc1 rfl (by decide) (Nat.le_of_ble_eq_true rfl) dX11_next_2
theorem e_X11_next {l : Launch} (hl : l.stackTraces = false) {N : Nat} {R : Nat → Nat → Nat} {a0 : Nat} {a1 : Int32} {I : (Nat → Nat → Int32)} {y : ((Int32 ⊕ String) × (Nat → Nat → Int32))} (h : f_X11_next N R a0 a1 I = some y) : sm_E l 4 mX11_next [.inr (.inl a0), .inl a1] (I, R) (sm_oI y.1) (y.2, R) :=
  sm_meth (by decide) (Nat.le_of_ble_eq_true rfl) (w_X11_next hl N R a0 a1 I y h)
theorem ek_X11_next {l : Launch} (hl : l.stackTraces = false) {N : Nat} {R : Nat → Nat → Nat} {a0 : Nat} {a1 : Int32} {I : (Nat → Nat → Int32)} {r : Int32} {J : (Nat → Nat → Int32)} (h : f_X11_next N R a0 a1 I = some (.inl r, J)) : sm_E l 4 mX11_next [.inr (.inl a0), .inl a1] (I, R) (.inl (some (.inl r))) (J, R) := by
  have h1 := e_X11_next (l := l) hl h
  exact h1
theorem ex_X11_next {l : Launch} (hl : l.stackTraces = false) {N : Nat} {R : Nat → Nat → Nat} {a0 : Nat} {a1 : Int32} {I : (Nat → Nat → Int32)} {E : String} {J : (Nat → Nat → Int32)} (h : f_X11_next N R a0 a1 I = some (.inr E, J)) : sm_E l 4 mX11_next [.inr (.inl a0), .inl a1] (I, R) (.inr E) (J, R) := by
  have h1 := e_X11_next (l := l) hl h
  exact h1
