def f_X11_heard_11 (N : Nat) (R : Nat → Nat → Nat) : Nat → Nat → Int32 → Int32 → Int32 → (Nat → Nat → Int32) → Option ((Int32 ⊕ String) × (Nat → Nat → Int32))
  | 0, _, _, _, _, _ => none
  | n + 1, a0, a1, a2, a3, I =>
    sm_gd (sm_kd a0 = (11, 18)) <|
    sm_gd (sm_kd (R a0 3) = (7, 9)) <|
    sm_gd (sm_kd (R (R a0 3) 5) = (10, 4)) <|
    if (I (R (R a0 3) 5) 1) ≤ a3 then (
      some (.inl a2, I))
    else (
      sm_gd ((sm_kd (R (R (R a0 3) 5) 0)).1 = 16 ∧ ¬ (a3 < 0 ∨ (sm_kd (R (R (R a0 3) 5) 0)).2 ≤ (a3).toNatClampNeg)) <|
      sm_gd (sm_kd (R a0 10) = (4, 6)) <|
      (f_X4_become N R (R a0 10) (R (R (R (R a0 3) 5) 0) (a3).toNatClampNeg) I).bind fun p7 =>
      (f_X7_passWeeks N R (R a0 3) (R a0 10) a1 p7.2).bind fun p8 =>
      sm_gd (sm_kd (R (R (R (R a0 3) 5) 0) (a3).toNatClampNeg) = (4, 6)) <|
      f_X11_heard_11 N R n a0 a1 (a2 + ((p8.2 (R a0 10) 3) - (p8.2 (R (R (R (R a0 3) 5) 0) (a3).toNatClampNeg) 3))) (a3 + 1) p8.2)
def f_X11_heard (N : Nat) (R : Nat → Nat → Nat) : Nat → Int32 → (Nat → Nat → Int32) → Option ((Int32 ⊕ String) × (Nat → Nat → Int32)) := fun a0 a1 I =>
  sm_tb (f_X11_needBetween N R a1 (0 : Int32) (60 : Int32) I) fun r2 J3 =>
  f_X11_heard_11 N R N a0 a1 (0 : Int32) (0 : Int32) J3
set_option maxHeartbeats 4000000 in
set_option maxRecDepth 100000 in
theorem w_X11_heard_11 {l : Launch} (hl : l.stackTraces = false) (N : Nat) (R : Nat → Nat → Nat) : ∀ (n : Nat) (a0 : Nat) (a1 : Int32) (a2 : Int32) (a3 : Int32) (I : (Nat → Nat → Int32)) (y : ((Int32 ⊕ String) × (Nat → Nat → Int32))), f_X11_heard_11 N R n a0 a1 a2 a3 I = some y → sm_W l 4 mX11_heard 11 [(0, .inr (.inl a0)), (1, .inl a1), (2, .inl a2), (3, .inl a3)] [] (I, R) (sm_oI y.1) (y.2, R) := by
  intro n
  induction n with
  | zero => intro a0 a1 a2 a3 I y h; cases h
  | succ n ih =>
    intro a0 a1 a2 a3 I y h
    rw [f_X11_heard_11] at h
    refine sm_iload_n (q := 12) dX11_heard_11 rfl rfl 3 rfl ?_
    refine sm_aload_n (q := 13) dX11_heard_12 rfl rfl 0 rfl ?_
    obtain ⟨hc1, h⟩ := sm_gd_e h
    refine sm_getR (r := R a0 3) (q := 16) dX11_heard_13 rfl fk_X11_20 hc1 (by decide) (by decide) rfl ?_
    obtain ⟨hc2, h⟩ := sm_gd_e h
    refine sm_getR (r := R (R a0 3) 5) (q := 19) dX11_heard_16 rfl fk_X11_137 hc2 (by decide) (by decide) rfl ?_
    obtain ⟨hc3, h⟩ := sm_gd_e h
    refine sm_getI (q := 22) dX11_heard_19 rfl fk_X11_140 hc3 (by decide) (by decide) ?_
    rcases sm_if_e h with ⟨hb4, h⟩ | ⟨hb4, h⟩
    · refine sm_icmp_ge (tgt := 82) (q := 25) dX11_heard_22 (by decide) rfl (fun _ => ?_) (fun hn => absurd hb4 hn)
      refine sm_iload_n (q := 83) dX11_heard_82 rfl rfl 2 rfl ?_
      obtain rfl := Option.some.inj h
      exact sm_iret dX11_heard_83 rfl
    · refine sm_icmp_ge (tgt := 82) (q := 25) dX11_heard_22 (by decide) rfl (fun ht => absurd ht hb4) (fun _ => ?_)
      refine sm_aload_n (q := 26) dX11_heard_25 rfl rfl 0 rfl ?_
      refine sm_getR (r := R a0 3) (q := 29) dX11_heard_26 rfl fk_X11_20 hc1 (by decide) (by decide) rfl ?_
      refine sm_getR (r := R (R a0 3) 5) (q := 32) dX11_heard_29 rfl fk_X11_137 hc2 (by decide) (by decide) rfl ?_
      refine sm_getR (r := R (R (R a0 3) 5) 0) (q := 35) dX11_heard_32 rfl fk_X11_170 hc3 (by decide) (by decide) rfl ?_
      refine sm_iload_n (q := 36) dX11_heard_35 rfl rfl 3 rfl ?_
      obtain ⟨hc5, h⟩ := sm_gd_e h
      refine sm_aald (t := 3) (n := (sm_kd (R (R (R a0 3) 5) 0)).2) (q := 37) dX11_heard_36 rfl (Prod.ext hc5.1 rfl) (Or.inl ⟨rfl, rfl⟩) hc5.2 rfl ?_
      refine sm_astore (L' := [(4, .inr (.inl (R (R (R (R a0 3) 5) 0) (a3).toNatClampNeg))), (0, .inr (.inl a0)), (1, .inl a1), (2, .inl a2), (3, .inl a3)]) (q := 39) dX11_heard_37 rfl (by decide) rfl ?_
      refine sm_aload_n (q := 40) dX11_heard_39 rfl rfl 1 rfl ?_
      refine sm_getR (r := R a0 10) (q := 43) dX11_heard_40 rfl fk_X11_64 hc1 (by decide) (by decide) rfl ?_
      refine sm_aload (q := 45) dX11_heard_43 rfl 0 rfl ?_
      obtain ⟨hc6, h⟩ := sm_gd_e h
      obtain ⟨p7, hc_p7, h⟩ := sm_bd_e h
      refine sm_callVv (q := 48) (As := [.inr (.inl (R (R (R (R a0 3) 5) 0) (a3).toNatClampNeg))]) (S := []) (e_X4_become hc_p7) mv_X11_225 hc6 rfl (by decide) (Nat.le_of_ble_eq_true rfl) dX11_heard_45 rfl ?_
      refine sm_aload_n (q := 49) dX11_heard_48 rfl rfl 1 rfl ?_
      refine sm_getR (r := R a0 3) (q := 52) dX11_heard_49 rfl fk_X11_20 hc1 (by decide) (by decide) rfl ?_
      refine sm_aload_n (q := 53) dX11_heard_52 rfl rfl 1 rfl ?_
      refine sm_getR (r := R a0 10) (q := 56) dX11_heard_53 rfl fk_X11_64 hc1 (by decide) (by decide) rfl ?_
      refine sm_iload_n (q := 57) dX11_heard_56 rfl rfl 2 rfl ?_
      obtain ⟨p8, hc_p8, h⟩ := sm_bd_e h
      refine sm_callVv (q := 60) (As := [.inr (.inl (R a0 10)), .inl a1]) (S := []) (e_X7_passWeeks hc_p8) mv_X11_239 hc2 rfl (by decide) (Nat.le_of_ble_eq_true rfl) dX11_heard_57 rfl ?_
      refine sm_iload_n (q := 61) dX11_heard_60 rfl rfl 3 rfl ?_
      refine sm_aload_n (q := 62) dX11_heard_61 rfl rfl 1 rfl ?_
      refine sm_getR (r := R a0 10) (q := 65) dX11_heard_62 rfl fk_X11_64 hc1 (by decide) (by decide) rfl ?_
      refine sm_getI (q := 68) dX11_heard_65 rfl fk_X11_211 hc6 (by decide) (by decide) ?_
      refine sm_aload (q := 70) dX11_heard_68 rfl 0 rfl ?_
      obtain ⟨hc9, h⟩ := sm_gd_e h
      refine sm_getI (q := 73) dX11_heard_70 rfl fk_X11_211 hc9 (by decide) (by decide) ?_
      refine sm_isub (q := 74) dX11_heard_73 rfl ?_
      refine sm_iadd (q := 75) dX11_heard_74 rfl ?_
      refine sm_istore_n (L' := [(2, .inl (a2 + ((p8.2 (R a0 10) 3) - (p8.2 (R (R (R (R a0 3) 5) 0) (a3).toNatClampNeg) 3)))), (4, .inr (.inl (R (R (R (R a0 3) 5) 0) (a3).toNatClampNeg))), (0, .inr (.inl a0)), (1, .inl a1), (3, .inl a3)]) (q := 76) dX11_heard_75 rfl rfl (by decide) rfl ?_
      refine sm_iinc (v := (a3 + 1)) (L' := [(3, .inl (a3 + 1)), (2, .inl (a2 + ((p8.2 (R a0 10) 3) - (p8.2 (R (R (R (R a0 3) 5) 0) (a3).toNatClampNeg) 3)))), (4, .inr (.inl (R (R (R (R a0 3) 5) 0) (a3).toNatClampNeg))), (0, .inr (.inl a0)), (1, .inl a1)]) (q := 79) dX11_heard_76 rfl 4 rfl rfl (by decide) rfl ?_
      refine sm_goto (q := 11) dX11_heard_79 (by decide) ?_
      refine sm_pick [3, 4, 1, 0] rfl ?_
      exact ih _ _ _ _ _ _ h
set_option maxHeartbeats 4000000 in
set_option maxRecDepth 100000 in
theorem w_X11_heard {l : Launch} (hl : l.stackTraces = false) (N : Nat) (R : Nat → Nat → Nat) : ∀ (a0 : Nat) (a1 : Int32) (I : (Nat → Nat → Int32)) (y : ((Int32 ⊕ String) × (Nat → Nat → Int32))), f_X11_heard N R a0 a1 I = some y → sm_W l 4 mX11_heard 0 [(0, .inr (.inl a0)), (1, .inl a1)] [] (I, R) (sm_oI y.1) (y.2, R) := by
  intro a0 a1 I y h
  unfold f_X11_heard at h
  refine sm_iload_n (q := 1) dX11_heard_0 rfl rfl 1 rfl ?_
  refine sm_iconst (v := 0) (q := 2) dX11_heard_1 rfl (by decide) ?_
  refine sm_bipush (v := 60) (q := 4) dX11_heard_2 rfl (by decide) ?_
  rcases sm_tb_e h with ⟨r2, J3, hc_p1, h⟩ | ⟨E9, J9, hc_p1, h⟩
  · refine sm_callSv (q := 7) (As := [.inl a1, .inl (0 : Int32), .inl (60 : Int32)]) (S := []) (ek_X11_needBetween hl hc_p1) ms_X11_260 rfl (by decide) (Nat.le_of_ble_eq_true rfl) dX11_heard_4 rfl ?_
    refine sm_iconst (v := 0) (q := 8) dX11_heard_7 rfl (by decide) ?_
    refine sm_istore_n (L' := [(2, .inl (0 : Int32)), (0, .inr (.inl a0)), (1, .inl a1)]) (q := 9) dX11_heard_8 rfl rfl (by decide) rfl ?_
    refine sm_iconst (v := 0) (q := 10) dX11_heard_9 rfl (by decide) ?_
    refine sm_istore_n (L' := [(3, .inl (0 : Int32)), (2, .inl (0 : Int32)), (0, .inr (.inl a0)), (1, .inl a1)]) (q := 11) dX11_heard_10 rfl rfl (by decide) rfl ?_
    refine sm_pick [2, 3, 1, 0] rfl ?_
    exact w_X11_heard_11 hl N R N _ _ _ _ _ _ h
  · obtain rfl := Option.some.inj h
    exact sm_callSX (E := E9) (As := [.inl a1, .inl (0 : Int32), .inl (60 : Int32)]) (S := []) (ex_X11_needBetween hl hc_p1) ms_X11_260 rfl (by decide) (Nat.le_of_ble_eq_true rfl) dX11_heard_4
theorem e_X11_heard {l : Launch} (hl : l.stackTraces = false) {N : Nat} {R : Nat → Nat → Nat} {a0 : Nat} {a1 : Int32} {I : (Nat → Nat → Int32)} {y : ((Int32 ⊕ String) × (Nat → Nat → Int32))} (h : f_X11_heard N R a0 a1 I = some y) : sm_E l 4 mX11_heard [.inr (.inl a0), .inl a1] (I, R) (sm_oI y.1) (y.2, R) :=
  sm_meth (by decide) (Nat.le_of_ble_eq_true rfl) (w_X11_heard hl N R a0 a1 I y h)
theorem ek_X11_heard {l : Launch} (hl : l.stackTraces = false) {N : Nat} {R : Nat → Nat → Nat} {a0 : Nat} {a1 : Int32} {I : (Nat → Nat → Int32)} {r : Int32} {J : (Nat → Nat → Int32)} (h : f_X11_heard N R a0 a1 I = some (.inl r, J)) : sm_E l 4 mX11_heard [.inr (.inl a0), .inl a1] (I, R) (.inl (some (.inl r))) (J, R) := by
  have h1 := e_X11_heard (l := l) hl h
  exact h1
theorem ex_X11_heard {l : Launch} (hl : l.stackTraces = false) {N : Nat} {R : Nat → Nat → Nat} {a0 : Nat} {a1 : Int32} {I : (Nat → Nat → Int32)} {E : String} {J : (Nat → Nat → Int32)} (h : f_X11_heard N R a0 a1 I = some (.inr E, J)) : sm_E l 4 mX11_heard [.inr (.inl a0), .inl a1] (I, R) (.inr E) (J, R) := by
  have h1 := e_X11_heard (l := l) hl h
  exact h1
