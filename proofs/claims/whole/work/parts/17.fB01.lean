def f_X11_heard_11 (N : Nat) (R : Nat → Nat → Nat) : Nat → Nat → Int32 → Int32 → Int32 → (Nat → Nat → Int32) → Option ((Int32 ⊕ String) × (Nat → Nat → Int32))
  | 0, _, _, _, _, _ => none
  | n + 1, a0, a1, a2, a3, I =>
    sm_gd (sm_kd a0 = (11, 16)) <|
    sm_gd (sm_kd (R a0 3) = (7, 9)) <|
    sm_gd (sm_kd (R (R a0 3) 5) = (10, 4)) <|
    if (I (R (R a0 3) 5) 1) ≤ a3 then (
      some (.inl a2, I))
    else (
      sm_gd ((sm_kd (R (R (R a0 3) 5) 0)).1 = 16 ∧ ¬ (a3 < 0 ∨ (sm_kd (R (R (R a0 3) 5) 0)).2 ≤ (a3).toNatClampNeg)) <|
      sm_gd (sm_kd (R a0 8) = (4, 6)) <|
      (f_X4_become N R (R a0 8) (R (R (R (R a0 3) 5) 0) (a3).toNatClampNeg) I).bind fun p7 =>
      (f_X7_passWeeks N R (R a0 3) (R a0 8) a1 p7.2).bind fun p8 =>
      sm_gd (sm_kd (R (R (R (R a0 3) 5) 0) (a3).toNatClampNeg) = (4, 6)) <|
      f_X11_heard_11 N R n a0 a1 (a2 + ((p8.2 (R a0 8) 3) - (p8.2 (R (R (R (R a0 3) 5) 0) (a3).toNatClampNeg) 3))) (a3 + 1) p8.2)
def f_X11_heard (N : Nat) (R : Nat → Nat → Nat) : Nat → Int32 → (Nat → Nat → Int32) → Option ((Int32 ⊕ String) × (Nat → Nat → Int32)) := fun a0 a1 I =>
  sm_tb (f_X11_needBetween N R a1 (0 : Int32) (60 : Int32) I) fun r2 J3 =>
  f_X11_heard_11 N R N a0 a1 (0 : Int32) (0 : Int32) J3
set_option maxHeartbeats 4000000 in
set_option maxRecDepth 100000 in
theorem w_X11_heard_11 {l : Launch} (hl : l.stackTraces = false) (N : Nat) (R : Nat → Nat → Nat) : ∀ (n : Nat) (a0 : Nat) (a1 : Int32) (a2 : Int32) (a3 : Int32) (I : (Nat → Nat → Int32)) (y : ((Int32 ⊕ String) × (Nat → Nat → Int32))), f_X11_heard_11 N R n a0 a1 a2 a3 I = some y → sm_W l 4 mX11_heard 11 [(0, .inr (.inl a0)), (1, .inl a1), (2, .inl a2), (3, .inl a3)] [] (I, R) (sm_oI y.1) (y.2, R) := by
  intro n
  induction n with
  | zero => intro a0 a1 a2 a3 I y h; cases h
  | succ n ih =>
    intro a0 a1 a2 a3 I y h
    rw [f_X11_heard_11] at h
    refine sm_iload_n (q := 12) dX11_heard_11 rfl rfl 3 rfl ?_
    refine sm_aload_n (q := 13) dX11_heard_12 rfl rfl 0 rfl ?_
    obtain ⟨hc1, h⟩ := sm_gd_e h
    refine sm_getR (r := R a0 3) (q := 16) dX11_heard_13 rfl fk_X11_23 hc1 (by decide) (by decide) rfl ?_
    obtain ⟨hc2, h⟩ := sm_gd_e h
    refine sm_getR (r := R (R a0 3) 5) (q := 19) dX11_heard_16 rfl fk_X11_132 hc2 (by decide) (by decide) rfl ?_
    obtain ⟨hc3, h⟩ := sm_gd_e h
    refine sm_getI (q := 22) dX11_heard_19 rfl fk_X11_135 hc3 (by decide) (by decide) ?_
    rcases sm_if_e h with ⟨hb4, h⟩ | ⟨hb4, h⟩
    · refine sm_icmp_ge (tgt := 82) (q := 25) dX11_heard_22 (by decide) rfl (fun _ => ?_) (fun hn => absurd hb4 hn)
      refine sm_iload_n (q := 83) dX11_heard_82 rfl rfl 2 rfl ?_
      obtain rfl := Option.some.inj h
      exact sm_iret dX11_heard_83 rfl
    · refine sm_icmp_ge (tgt := 82) (q := 25) dX11_heard_22 (by decide) rfl (fun ht => absurd ht hb4) (fun _ => ?_)
      refine sm_aload_n (q := 26) dX11_heard_25 rfl rfl 0 rfl ?_
      refine sm_getR (r := R a0 3) (q := 29) dX11_heard_26 rfl fk_X11_23 hc1 (by decide) (by decide) rfl ?_
      refine sm_getR (r := R (R a0 3) 5) (q := 32) dX11_heard_29 rfl fk_X11_132 hc2 (by decide) (by decide) rfl ?_
      refine sm_getR (r := R (R (R a0 3) 5) 0) (q := 35) dX11_heard_32 rfl fk_X11_165 hc3 (by decide) (by decide) rfl ?_
      refine sm_iload_n (q := 36) dX11_heard_35 rfl rfl 3 rfl ?_
      obtain ⟨hc5, h⟩ := sm_gd_e h
      refine sm_aald (t := 3) (n := (sm_kd (R (R (R a0 3) 5) 0)).2) (q := 37) dX11_heard_36 rfl (Prod.ext hc5.1 rfl) (Or.inl ⟨rfl, rfl⟩) hc5.2 rfl ?_
      refine sm_astore (L' := [(4, .inr (.inl (R (R (R (R a0 3) 5) 0) (a3).toNatClampNeg))), (0, .inr (.inl a0)), (1, .inl a1), (2, .inl a2), (3, .inl a3)]) (q := 39) dX11_heard_37 rfl (by decide) rfl ?_
      refine sm_aload_n (q := 40) dX11_heard_39 rfl rfl 1 rfl ?_
      refine sm_getR (r := R a0 8) (q := 43) dX11_heard_40 rfl fk_X11_55 hc1 (by decide) (by decide) rfl ?_
      refine sm_aload (q := 45) dX11_heard_43 rfl 0 rfl ?_
      obtain ⟨hc6, h⟩ := sm_gd_e h
      obtain ⟨p7, hc_p7, h⟩ := sm_bd_e h
      refine sm_callVv (q := 48) (As := [.inr (.inl (R (R (R (R a0 3) 5) 0) (a3).toNatClampNeg))]) (S := []) (e_X4_become hc_p7) mv_X11_220 hc6 rfl (by decide) (Nat.le_of_ble_eq_true rfl) dX11_heard_45 rfl ?_
      refine sm_aload_n (q := 49) dX11_heard_48 rfl rfl 1 rfl ?_
      refine sm_getR (r := R a0 3) (q := 52) dX11_heard_49 rfl fk_X11_23 hc1 (by decide) (by decide) rfl ?_
      refine sm_aload_n (q := 53) dX11_heard_52 rfl rfl 1 rfl ?_
      refine sm_getR (r := R a0 8) (q := 56) dX11_heard_53 rfl fk_X11_55 hc1 (by decide) (by decide) rfl ?_
      refine sm_iload_n (q := 57) dX11_heard_56 rfl rfl 2 rfl ?_
      obtain ⟨p8, hc_p8, h⟩ := sm_bd_e h
      refine sm_callVv (q := 60) (As := [.inr (.inl (R a0 8)), .inl a1]) (S := []) (e_X7_passWeeks hc_p8) mv_X11_234 hc2 rfl (by decide) (Nat.le_of_ble_eq_true rfl) dX11_heard_57 rfl ?_
      refine sm_iload_n (q := 61) dX11_heard_60 rfl rfl 3 rfl ?_
      refine sm_aload_n (q := 62) dX11_heard_61 rfl rfl 1 rfl ?_
      refine sm_getR (r := R a0 8) (q := 65) dX11_heard_62 rfl fk_X11_55 hc1 (by decide) (by decide) rfl ?_
      refine sm_getI (q := 68) dX11_heard_65 rfl fk_X11_206 hc6 (by decide) (by decide) ?_
      refine sm_aload (q := 70) dX11_heard_68 rfl 0 rfl ?_
      obtain ⟨hc9, h⟩ := sm_gd_e h
      refine sm_getI (q := 73) dX11_heard_70 rfl fk_X11_206 hc9 (by decide) (by decide) ?_
      refine sm_isub (q := 74) dX11_heard_73 rfl ?_
      refine sm_iadd (q := 75) dX11_heard_74 rfl ?_
      refine sm_istore_n (L' := [(2, .inl (a2 + ((p8.2 (R a0 8) 3) - (p8.2 (R (R (R (R a0 3) 5) 0) (a3).toNatClampNeg) 3)))), (4, .inr (.inl (R (R (R (R a0 3) 5) 0) (a3).toNatClampNeg))), (0, .inr (.inl a0)), (1, .inl a1), (3, .inl a3)]) (q := 76) dX11_heard_75 rfl rfl (by decide) rfl ?_
      refine sm_iinc (v := (a3 + 1)) (L' := [(3, .inl (a3 + 1)), (2, .inl (a2 + ((p8.2 (R a0 8) 3) - (p8.2 (R (R (R (R a0 3) 5) 0) (a3).toNatClampNeg) 3)))), (4, .inr (.inl (R (R (R (R a0 3) 5) 0) (a3).toNatClampNeg))), (0, .inr (.inl a0)), (1, .inl a1)]) (q := 79) dX11_heard_76 rfl 4 rfl rfl (by decide) rfl ?_
      refine sm_goto (q := 11) dX11_heard_79 (by decide) ?_
      refine sm_pick [3, 4, 1, 0] rfl ?_
      exact ih _ _ _ _ _ _ h
set_option maxHeartbeats 4000000 in
set_option maxRecDepth 100000 in
theorem w_X11_heard {l : Launch} (hl : l.stackTraces = false) (N : Nat) (R : Nat → Nat → Nat) : ∀ (a0 : Nat) (a1 : Int32) (I : (Nat → Nat → Int32)) (y : ((Int32 ⊕ String) × (Nat → Nat → Int32))), f_X11_heard N R a0 a1 I = some y → sm_W l 4 mX11_heard 0 [(0, .inr (.inl a0)), (1, .inl a1)] [] (I, R) (sm_oI y.1) (y.2, R) := by
  intro a0 a1 I y h
  unfold f_X11_heard at h
  refine sm_iload_n (q := 1) dX11_heard_0 rfl rfl 1 rfl ?_
  refine sm_iconst (v := 0) (q := 2) dX11_heard_1 rfl (by decide) ?_
  refine sm_bipush (v := 60) (q := 4) dX11_heard_2 rfl (by decide) ?_
  rcases sm_tb_e h with ⟨r2, J3, hc_p1, h⟩ | ⟨E9, J9, hc_p1, h⟩
  · refine sm_callSv (q := 7) (As := [.inl a1, .inl (0 : Int32), .inl (60 : Int32)]) (S := []) (ek_X11_needBetween hl hc_p1) ms_X11_255 rfl (by decide) (Nat.le_of_ble_eq_true rfl) dX11_heard_4 rfl ?_
    refine sm_iconst (v := 0) (q := 8) dX11_heard_7 rfl (by decide) ?_
    refine sm_istore_n (L' := [(2, .inl (0 : Int32)), (0, .inr (.inl a0)), (1, .inl a1)]) (q := 9) dX11_heard_8 rfl rfl (by decide) rfl ?_
    refine sm_iconst (v := 0) (q := 10) dX11_heard_9 rfl (by decide) ?_
    refine sm_istore_n (L' := [(3, .inl (0 : Int32)), (2, .inl (0 : Int32)), (0, .inr (.inl a0)), (1, .inl a1)]) (q := 11) dX11_heard_10 rfl rfl (by decide) rfl ?_
    refine sm_pick [2, 3, 1, 0] rfl ?_
    exact w_X11_heard_11 hl N R N _ _ _ _ _ _ h
  · obtain rfl := Option.some.inj h
    exact sm_callSX (E := E9) (As := [.inl a1, .inl (0 : Int32), .inl (60 : Int32)]) (S := []) (ex_X11_needBetween hl hc_p1) ms_X11_255 rfl (by decide) (Nat.le_of_ble_eq_true rfl) dX11_heard_4
theorem e_X11_heard {l : Launch} (hl : l.stackTraces = false) {N : Nat} {R : Nat → Nat → Nat} {a0 : Nat} {a1 : Int32} {I : (Nat → Nat → Int32)} {y : ((Int32 ⊕ String) × (Nat → Nat → Int32))} (h : f_X11_heard N R a0 a1 I = some y) : sm_E l 4 mX11_heard [.inr (.inl a0), .inl a1] (I, R) (sm_oI y.1) (y.2, R) :=
  sm_meth (by decide) (Nat.le_of_ble_eq_true rfl) (w_X11_heard hl N R a0 a1 I y h)
theorem ek_X11_heard {l : Launch} (hl : l.stackTraces = false) {N : Nat} {R : Nat → Nat → Nat} {a0 : Nat} {a1 : Int32} {I : (Nat → Nat → Int32)} {r : Int32} {J : (Nat → Nat → Int32)} (h : f_X11_heard N R a0 a1 I = some (.inl r, J)) : sm_E l 4 mX11_heard [.inr (.inl a0), .inl a1] (I, R) (.inl (some (.inl r))) (J, R) := by
  have h1 := e_X11_heard (l := l) hl h
  exact h1
theorem ex_X11_heard {l : Launch} (hl : l.stackTraces = false) {N : Nat} {R : Nat → Nat → Nat} {a0 : Nat} {a1 : Int32} {I : (Nat → Nat → Int32)} {E : String} {J : (Nat → Nat → Int32)} (h : f_X11_heard N R a0 a1 I = some (.inr E, J)) : sm_E l 4 mX11_heard [.inr (.inl a0), .inl a1] (I, R) (.inr E) (J, R) := by
  have h1 := e_X11_heard (l := l) hl h
  exact h1
def f_X11_whoHasMost_76 (N : Nat) (R : Nat → Nat → Nat) (k_8 : Nat → Int32 → Int32 → Int32 → Int32 → Int32 → (Nat → Nat → Int32) → Option (Int32 × (Nat → Nat → Int32))) : Nat → Int32 → Int32 → Int32 → Int32 → Int32 → Int32 → (Nat → Nat → Int32) → Option (Int32 × (Nat → Nat → Int32)) := fun a0 a1 a2 a3 a4 a5 b0 I =>
  if b0 ≤ a4 then (
    k_8 a0 a1 a2 a3 a4 (a5 + 1) I)
  else (
    k_8 a0 a1 a2 a5 b0 (a5 + 1) I)
def f_X11_whoHasMost_8 (N : Nat) (R : Nat → Nat → Nat) : Nat → Nat → Int32 → Int32 → Int32 → Int32 → Int32 → (Nat → Nat → Int32) → Option (Int32 × (Nat → Nat → Int32))
  | 0, _, _, _, _, _, _, _ => none
  | n + 1, a0, a1, a2, a3, a4, a5, I =>
    sm_gd (sm_kd a0 = (11, 16)) <|
    sm_gd (sm_kd (R a0 3) = (7, 9)) <|
    sm_gd (sm_kd (R (R a0 3) 5) = (10, 4)) <|
    if (I (R (R a0 3) 5) 1) ≤ a5 then (
      some (a3, I))
    else (
      sm_gd ((sm_kd (R (R (R a0 3) 5) 0)).1 = 16 ∧ ¬ (a5 < 0 ∨ (sm_kd (R (R (R a0 3) 5) 0)).2 ≤ (a5).toNatClampNeg)) <|
      sm_gd (sm_kd (R a0 8) = (4, 6)) <|
      (f_X4_become N R (R a0 8) (R (R (R (R a0 3) 5) 0) (a5).toNatClampNeg) I).bind fun p7 =>
      (f_X7_passWeeks N R (R a0 3) (R a0 8) a1 p7.2).bind fun p8 =>
      if a2 = 0 then (
        f_X11_whoHasMost_76 N R (fun z0 z1 z2 z3 z4 z5 J => f_X11_whoHasMost_8 N R n z0 z1 z2 z3 z4 z5 J) a0 a1 a2 a3 a4 a5 (p8.2 (R a0 8) 0) p8.2)
      else (
        f_X11_whoHasMost_76 N R (fun z0 z1 z2 z3 z4 z5 J => f_X11_whoHasMost_8 N R n z0 z1 z2 z3 z4 z5 J) a0 a1 a2 a3 a4 a5 (p8.2 (R a0 8) 1) p8.2))
def f_X11_whoHasMost (N : Nat) (R : Nat → Nat → Nat) : Nat → Int32 → Int32 → (Nat → Nat → Int32) → Option (Int32 × (Nat → Nat → Int32)) := fun a0 a1 a2 I =>
  f_X11_whoHasMost_8 N R N a0 a1 a2 (-1 : Int32) (-1 : Int32) (0 : Int32) I
set_option maxHeartbeats 4000000 in
set_option maxRecDepth 100000 in
theorem w_X11_whoHasMost_76 {l : Launch} (N : Nat) (R : Nat → Nat → Nat) (k_8 : Nat → Int32 → Int32 → Int32 → Int32 → Int32 → (Nat → Nat → Int32) → Option (Int32 × (Nat → Nat → Int32))) (hk_8 : ∀ (a0 : Nat) (a1 : Int32) (a2 : Int32) (a3 : Int32) (a4 : Int32) (a5 : Int32) (I : (Nat → Nat → Int32)) (y : (Int32 × (Nat → Nat → Int32))), k_8 a0 a1 a2 a3 a4 a5 I = some y → sm_W l 4 mX11_whoHasMost 8 [(0, .inr (.inl a0)), (1, .inl a1), (2, .inl a2), (3, .inl a3), (4, .inl a4), (5, .inl a5)] [] (I, R) (.inl (some (.inl y.1))) (y.2, R)) : ∀ (a0 : Nat) (a1 : Int32) (a2 : Int32) (a3 : Int32) (a4 : Int32) (a5 : Int32) (b0 : Int32) (I : (Nat → Nat → Int32)) (y : (Int32 × (Nat → Nat → Int32))), f_X11_whoHasMost_76 N R k_8 a0 a1 a2 a3 a4 a5 b0 I = some y → sm_W l 4 mX11_whoHasMost 76 [(0, .inr (.inl a0)), (1, .inl a1), (2, .inl a2), (3, .inl a3), (4, .inl a4), (5, .inl a5)] [.inl b0] (I, R) (.inl (some (.inl y.1))) (y.2, R) := by
  intro a0 a1 a2 a3 a4 a5 b0 I y h
  unfold f_X11_whoHasMost_76 at h
  refine sm_istore (L' := [(6, .inl b0), (0, .inr (.inl a0)), (1, .inl a1), (2, .inl a2), (3, .inl a3), (4, .inl a4), (5, .inl a5)]) (q := 78) dX11_whoHasMost_76 rfl (by decide) rfl ?_
  refine sm_iload (q := 80) dX11_whoHasMost_78 rfl 0 rfl ?_
  refine sm_iload (q := 82) dX11_whoHasMost_80 rfl 5 rfl ?_
  rcases sm_if_e h with ⟨hb1, h⟩ | ⟨hb1, h⟩
  · refine sm_icmp_le (tgt := 92) (q := 85) dX11_whoHasMost_82 (by decide) rfl (fun _ => ?_) (fun hn => absurd hb1 hn)
    refine sm_iinc (v := (a5 + 1)) (L' := [(5, .inl (a5 + 1)), (6, .inl b0), (0, .inr (.inl a0)), (1, .inl a1), (2, .inl a2), (3, .inl a3), (4, .inl a4)]) (q := 95) dX11_whoHasMost_92 rfl 6 rfl rfl (by decide) rfl ?_
    refine sm_goto (q := 8) dX11_whoHasMost_95 (by decide) ?_
    refine sm_pick [2, 3, 4, 5, 6, 0] rfl ?_
    exact hk_8 _ _ _ _ _ _ _ _ h
  · refine sm_icmp_le (tgt := 92) (q := 85) dX11_whoHasMost_82 (by decide) rfl (fun ht => absurd ht hb1) (fun _ => ?_)
    refine sm_iload (q := 87) dX11_whoHasMost_85 rfl 0 rfl ?_
    refine sm_istore (L' := [(4, .inl b0), (6, .inl b0), (0, .inr (.inl a0)), (1, .inl a1), (2, .inl a2), (3, .inl a3), (5, .inl a5)]) (q := 89) dX11_whoHasMost_87 rfl (by decide) rfl ?_
    refine sm_iload (q := 91) dX11_whoHasMost_89 rfl 6 rfl ?_
    refine sm_istore_n (L' := [(3, .inl a5), (4, .inl b0), (6, .inl b0), (0, .inr (.inl a0)), (1, .inl a1), (2, .inl a2), (5, .inl a5)]) (q := 92) dX11_whoHasMost_91 rfl rfl (by decide) rfl ?_
    refine sm_iinc (v := (a5 + 1)) (L' := [(5, .inl (a5 + 1)), (3, .inl a5), (4, .inl b0), (6, .inl b0), (0, .inr (.inl a0)), (1, .inl a1), (2, .inl a2)]) (q := 95) dX11_whoHasMost_92 rfl 6 rfl rfl (by decide) rfl ?_
    refine sm_goto (q := 8) dX11_whoHasMost_95 (by decide) ?_
    refine sm_pick [4, 5, 6, 1, 2, 0] rfl ?_
    exact hk_8 _ _ _ _ _ _ _ _ h
set_option maxHeartbeats 4000000 in
set_option maxRecDepth 100000 in
theorem w_X11_whoHasMost_8 {l : Launch} (N : Nat) (R : Nat → Nat → Nat) : ∀ (n : Nat) (a0 : Nat) (a1 : Int32) (a2 : Int32) (a3 : Int32) (a4 : Int32) (a5 : Int32) (I : (Nat → Nat → Int32)) (y : (Int32 × (Nat → Nat → Int32))), f_X11_whoHasMost_8 N R n a0 a1 a2 a3 a4 a5 I = some y → sm_W l 4 mX11_whoHasMost 8 [(0, .inr (.inl a0)), (1, .inl a1), (2, .inl a2), (3, .inl a3), (4, .inl a4), (5, .inl a5)] [] (I, R) (.inl (some (.inl y.1))) (y.2, R) := by
  intro n
  induction n with
  | zero => intro a0 a1 a2 a3 a4 a5 I y h; cases h
  | succ n ih =>
    intro a0 a1 a2 a3 a4 a5 I y h
    rw [f_X11_whoHasMost_8] at h
    refine sm_iload (q := 10) dX11_whoHasMost_8 rfl 5 rfl ?_
    refine sm_aload_n (q := 11) dX11_whoHasMost_10 rfl rfl 0 rfl ?_
    obtain ⟨hc1, h⟩ := sm_gd_e h
    refine sm_getR (r := R a0 3) (q := 14) dX11_whoHasMost_11 rfl fk_X11_23 hc1 (by decide) (by decide) rfl ?_
    obtain ⟨hc2, h⟩ := sm_gd_e h
    refine sm_getR (r := R (R a0 3) 5) (q := 17) dX11_whoHasMost_14 rfl fk_X11_132 hc2 (by decide) (by decide) rfl ?_
    obtain ⟨hc3, h⟩ := sm_gd_e h
    refine sm_getI (q := 20) dX11_whoHasMost_17 rfl fk_X11_135 hc3 (by decide) (by decide) ?_
    rcases sm_if_e h with ⟨hb4, h⟩ | ⟨hb4, h⟩
    · refine sm_icmp_ge (tgt := 98) (q := 23) dX11_whoHasMost_20 (by decide) rfl (fun _ => ?_) (fun hn => absurd hb4 hn)
      refine sm_iload_n (q := 99) dX11_whoHasMost_98 rfl rfl 3 rfl ?_
      obtain rfl := Option.some.inj h
      exact sm_iret dX11_whoHasMost_99 rfl
    · refine sm_icmp_ge (tgt := 98) (q := 23) dX11_whoHasMost_20 (by decide) rfl (fun ht => absurd ht hb4) (fun _ => ?_)
      refine sm_aload_n (q := 24) dX11_whoHasMost_23 rfl rfl 0 rfl ?_
      refine sm_getR (r := R a0 8) (q := 27) dX11_whoHasMost_24 rfl fk_X11_55 hc1 (by decide) (by decide) rfl ?_
      refine sm_aload_n (q := 28) dX11_whoHasMost_27 rfl rfl 0 rfl ?_
      refine sm_getR (r := R a0 3) (q := 31) dX11_whoHasMost_28 rfl fk_X11_23 hc1 (by decide) (by decide) rfl ?_
      refine sm_getR (r := R (R a0 3) 5) (q := 34) dX11_whoHasMost_31 rfl fk_X11_132 hc2 (by decide) (by decide) rfl ?_
      refine sm_getR (r := R (R (R a0 3) 5) 0) (q := 37) dX11_whoHasMost_34 rfl fk_X11_165 hc3 (by decide) (by decide) rfl ?_
      refine sm_iload (q := 39) dX11_whoHasMost_37 rfl 5 rfl ?_
      obtain ⟨hc5, h⟩ := sm_gd_e h
      refine sm_aald (t := 3) (n := (sm_kd (R (R (R a0 3) 5) 0)).2) (q := 40) dX11_whoHasMost_39 rfl (Prod.ext hc5.1 rfl) (Or.inl ⟨rfl, rfl⟩) hc5.2 rfl ?_
      obtain ⟨hc6, h⟩ := sm_gd_e h
      obtain ⟨p7, hc_p7, h⟩ := sm_bd_e h
      refine sm_callVv (q := 43) (As := [.inr (.inl (R (R (R (R a0 3) 5) 0) (a5).toNatClampNeg))]) (S := []) (e_X4_become hc_p7) mv_X11_220 hc6 rfl (by decide) (Nat.le_of_ble_eq_true rfl) dX11_whoHasMost_40 rfl ?_
      refine sm_aload_n (q := 44) dX11_whoHasMost_43 rfl rfl 0 rfl ?_
      refine sm_getR (r := R a0 3) (q := 47) dX11_whoHasMost_44 rfl fk_X11_23 hc1 (by decide) (by decide) rfl ?_
      refine sm_aload_n (q := 48) dX11_whoHasMost_47 rfl rfl 0 rfl ?_
      refine sm_getR (r := R a0 8) (q := 51) dX11_whoHasMost_48 rfl fk_X11_55 hc1 (by decide) (by decide) rfl ?_
      refine sm_iload_n (q := 52) dX11_whoHasMost_51 rfl rfl 1 rfl ?_
      obtain ⟨p8, hc_p8, h⟩ := sm_bd_e h
      refine sm_callVv (q := 55) (As := [.inr (.inl (R a0 8)), .inl a1]) (S := []) (e_X7_passWeeks hc_p8) mv_X11_234 hc2 rfl (by decide) (Nat.le_of_ble_eq_true rfl) dX11_whoHasMost_52 rfl ?_
      refine sm_iload_n (q := 56) dX11_whoHasMost_55 rfl rfl 2 rfl ?_
      rcases sm_if_e h with ⟨hb9, h⟩ | ⟨hb9, h⟩
      · refine sm_if_eq (tgt := 69) (q := 59) dX11_whoHasMost_56 (by decide) rfl (fun _ => ?_) (fun hn => absurd hb9 hn)
        refine sm_aload_n (q := 70) dX11_whoHasMost_69 rfl rfl 0 rfl ?_
        refine sm_getR (r := R a0 8) (q := 73) dX11_whoHasMost_70 rfl fk_X11_55 hc1 (by decide) (by decide) rfl ?_
        refine sm_getI (q := 76) dX11_whoHasMost_73 rfl fk_X11_197 hc6 (by decide) (by decide) ?_
        refine sm_pick [0, 1, 2, 3, 4, 5] rfl ?_
        exact w_X11_whoHasMost_76 N R (fun z0 z1 z2 z3 z4 z5 J => f_X11_whoHasMost_8 N R n z0 z1 z2 z3 z4 z5 J) (fun z0 z1 z2 z3 z4 z5 J y h => ih z0 z1 z2 z3 z4 z5 J y h) _ _ _ _ _ _ _ _ _ h
      · refine sm_if_eq (tgt := 69) (q := 59) dX11_whoHasMost_56 (by decide) rfl (fun ht => absurd ht hb9) (fun _ => ?_)
        refine sm_aload_n (q := 60) dX11_whoHasMost_59 rfl rfl 0 rfl ?_
        refine sm_getR (r := R a0 8) (q := 63) dX11_whoHasMost_60 rfl fk_X11_55 hc1 (by decide) (by decide) rfl ?_
        refine sm_getI (q := 66) dX11_whoHasMost_63 rfl fk_X11_200 hc6 (by decide) (by decide) ?_
        refine sm_goto (q := 76) dX11_whoHasMost_66 (by decide) ?_
        refine sm_pick [0, 1, 2, 3, 4, 5] rfl ?_
        exact w_X11_whoHasMost_76 N R (fun z0 z1 z2 z3 z4 z5 J => f_X11_whoHasMost_8 N R n z0 z1 z2 z3 z4 z5 J) (fun z0 z1 z2 z3 z4 z5 J y h => ih z0 z1 z2 z3 z4 z5 J y h) _ _ _ _ _ _ _ _ _ h
set_option maxHeartbeats 4000000 in
set_option maxRecDepth 100000 in
theorem w_X11_whoHasMost {l : Launch} (N : Nat) (R : Nat → Nat → Nat) : ∀ (a0 : Nat) (a1 : Int32) (a2 : Int32) (I : (Nat → Nat → Int32)) (y : (Int32 × (Nat → Nat → Int32))), f_X11_whoHasMost N R a0 a1 a2 I = some y → sm_W l 4 mX11_whoHasMost 0 [(0, .inr (.inl a0)), (1, .inl a1), (2, .inl a2)] [] (I, R) (.inl (some (.inl y.1))) (y.2, R) := by
  intro a0 a1 a2 I y h
  unfold f_X11_whoHasMost at h
  refine sm_iconst (v := -1) (q := 1) dX11_whoHasMost_0 rfl (by decide) ?_
  refine sm_istore_n (L' := [(3, .inl (-1 : Int32)), (0, .inr (.inl a0)), (1, .inl a1), (2, .inl a2)]) (q := 2) dX11_whoHasMost_1 rfl rfl (by decide) rfl ?_
  refine sm_iconst (v := -1) (q := 3) dX11_whoHasMost_2 rfl (by decide) ?_
  refine sm_istore (L' := [(4, .inl (-1 : Int32)), (3, .inl (-1 : Int32)), (0, .inr (.inl a0)), (1, .inl a1), (2, .inl a2)]) (q := 5) dX11_whoHasMost_3 rfl (by decide) rfl ?_
  refine sm_iconst (v := 0) (q := 6) dX11_whoHasMost_5 rfl (by decide) ?_
  refine sm_istore (L' := [(5, .inl (0 : Int32)), (4, .inl (-1 : Int32)), (3, .inl (-1 : Int32)), (0, .inr (.inl a0)), (1, .inl a1), (2, .inl a2)]) (q := 8) dX11_whoHasMost_6 rfl (by decide) rfl ?_
  refine sm_pick [3, 4, 5, 2, 1, 0] rfl ?_
  exact w_X11_whoHasMost_8 N R N _ _ _ _ _ _ _ _ h
theorem e_X11_whoHasMost {l : Launch} {N : Nat} {R : Nat → Nat → Nat} {a0 : Nat} {a1 : Int32} {a2 : Int32} {I : (Nat → Nat → Int32)} {y : (Int32 × (Nat → Nat → Int32))} (h : f_X11_whoHasMost N R a0 a1 a2 I = some y) : sm_E l 4 mX11_whoHasMost [.inr (.inl a0), .inl a1, .inl a2] (I, R) (.inl (some (.inl y.1))) (y.2, R) :=
  sm_meth (by decide) (Nat.le_of_ble_eq_true rfl) (w_X11_whoHasMost N R a0 a1 a2 I y h)
def f_X11_best (N : Nat) (R : Nat → Nat → Nat) : Nat → Int32 → (Nat → Nat → Int32) → Option ((Int32 ⊕ String) × (Nat → Nat → Int32)) := fun a0 a1 I =>
  sm_tb (f_X11_needBetween N R a1 (0 : Int32) (60 : Int32) I) fun r2 J3 =>
  sm_gd (sm_kd a0 = (11, 16)) <|
  (f_X11_whoHasMost N R a0 a1 (0 : Int32) J3).bind fun p5 =>
  some (.inl p5.1, p5.2)
set_option maxHeartbeats 4000000 in
set_option maxRecDepth 100000 in
theorem w_X11_best {l : Launch} (hl : l.stackTraces = false) (N : Nat) (R : Nat → Nat → Nat) : ∀ (a0 : Nat) (a1 : Int32) (I : (Nat → Nat → Int32)) (y : ((Int32 ⊕ String) × (Nat → Nat → Int32))), f_X11_best N R a0 a1 I = some y → sm_W l 5 mX11_best 0 [(0, .inr (.inl a0)), (1, .inl a1)] [] (I, R) (sm_oI y.1) (y.2, R) := by
  intro a0 a1 I y h
  unfold f_X11_best at h
  refine sm_iload_n (q := 1) dX11_best_0 rfl rfl 1 rfl ?_
  refine sm_iconst (v := 0) (q := 2) dX11_best_1 rfl (by decide) ?_
  refine sm_bipush (v := 60) (q := 4) dX11_best_2 rfl (by decide) ?_
  rcases sm_tb_e h with ⟨r2, J3, hc_p1, h⟩ | ⟨E9, J9, hc_p1, h⟩
  · refine sm_callSv (q := 7) (As := [.inl a1, .inl (0 : Int32), .inl (60 : Int32)]) (S := []) (ek_X11_needBetween hl hc_p1) ms_X11_255 rfl (by decide) (Nat.le_of_ble_eq_true rfl) dX11_best_4 rfl ?_
    refine sm_aload_n (q := 8) dX11_best_7 rfl rfl 0 rfl ?_
    refine sm_iload_n (q := 9) dX11_best_8 rfl rfl 1 rfl ?_
    refine sm_iconst (v := 0) (q := 10) dX11_best_9 rfl (by decide) ?_
    obtain ⟨hc4, h⟩ := sm_gd_e h
    obtain ⟨p5, hc_p5, h⟩ := sm_bd_e h
    refine sm_callVi (q := 13) (As := [.inl a1, .inl (0 : Int32)]) (S := []) (e_X11_whoHasMost hc_p5) mv_X11_262 hc4 rfl (by decide) (Nat.le_of_ble_eq_true rfl) dX11_best_10 rfl ?_
    obtain rfl := Option.some.inj h
    exact sm_iret dX11_best_13 rfl
  · obtain rfl := Option.some.inj h
    exact sm_callSX (E := E9) (As := [.inl a1, .inl (0 : Int32), .inl (60 : Int32)]) (S := []) (ex_X11_needBetween hl hc_p1) ms_X11_255 rfl (by decide) (Nat.le_of_ble_eq_true rfl) dX11_best_4
theorem e_X11_best {l : Launch} (hl : l.stackTraces = false) {N : Nat} {R : Nat → Nat → Nat} {a0 : Nat} {a1 : Int32} {I : (Nat → Nat → Int32)} {y : ((Int32 ⊕ String) × (Nat → Nat → Int32))} (h : f_X11_best N R a0 a1 I = some y) : sm_E l 5 mX11_best [.inr (.inl a0), .inl a1] (I, R) (sm_oI y.1) (y.2, R) :=
  sm_meth (by decide) (Nat.le_of_ble_eq_true rfl) (w_X11_best hl N R a0 a1 I y h)
theorem ek_X11_best {l : Launch} (hl : l.stackTraces = false) {N : Nat} {R : Nat → Nat → Nat} {a0 : Nat} {a1 : Int32} {I : (Nat → Nat → Int32)} {r : Int32} {J : (Nat → Nat → Int32)} (h : f_X11_best N R a0 a1 I = some (.inl r, J)) : sm_E l 5 mX11_best [.inr (.inl a0), .inl a1] (I, R) (.inl (some (.inl r))) (J, R) := by
  have h1 := e_X11_best (l := l) hl h
  exact h1
theorem ex_X11_best {l : Launch} (hl : l.stackTraces = false) {N : Nat} {R : Nat → Nat → Nat} {a0 : Nat} {a1 : Int32} {I : (Nat → Nat → Int32)} {E : String} {J : (Nat → Nat → Int32)} (h : f_X11_best N R a0 a1 I = some (.inr E, J)) : sm_E l 5 mX11_best [.inr (.inl a0), .inl a1] (I, R) (.inr E) (J, R) := by
  have h1 := e_X11_best (l := l) hl h
  exact h1
def f_X11_stuck_4 (N : Nat) (R : Nat → Nat → Nat) : Nat → Nat → Int32 → Int32 → (Nat → Nat → Int32) → Option (Int32 × (Nat → Nat → Int32))
  | 0, _, _, _, _ => none
  | n + 1, a0, a1, a2, I =>
    sm_gd (sm_kd a0 = (11, 16)) <|
    sm_gd (sm_kd (R a0 3) = (7, 9)) <|
    sm_gd (sm_kd (R (R a0 3) 5) = (10, 4)) <|
    if (I (R (R a0 3) 5) 1) ≤ a2 then (
      some (a1, I))
    else (
      sm_gd ((sm_kd (R (R (R a0 3) 5) 0)).1 = 16 ∧ ¬ (a2 < 0 ∨ (sm_kd (R (R (R a0 3) 5) 0)).2 ≤ (a2).toNatClampNeg)) <|
      (f_X11_weeksTillDone N R a0 (R (R (R (R a0 3) 5) 0) (a2).toNatClampNeg) I).bind fun p6 =>
      if p6.1 = (-1 : Int32) then (
        f_X11_stuck_4 N R n a0 (a1 ||| ((1 : Int32) <<< (a2 &&& 31))) (a2 + 1) p6.2)
      else (
        f_X11_stuck_4 N R n a0 a1 (a2 + 1) p6.2))
def f_X11_stuck (N : Nat) (R : Nat → Nat → Nat) : Nat → (Nat → Nat → Int32) → Option (Int32 × (Nat → Nat → Int32)) := fun a0 I =>
  f_X11_stuck_4 N R N a0 (0 : Int32) (0 : Int32) I
set_option maxHeartbeats 4000000 in
set_option maxRecDepth 100000 in
theorem w_X11_stuck_4 {l : Launch} (N : Nat) (R : Nat → Nat → Nat) : ∀ (n : Nat) (a0 : Nat) (a1 : Int32) (a2 : Int32) (I : (Nat → Nat → Int32)) (y : (Int32 × (Nat → Nat → Int32))), f_X11_stuck_4 N R n a0 a1 a2 I = some y → sm_W l 5 mX11_stuck 4 [(0, .inr (.inl a0)), (1, .inl a1), (2, .inl a2)] [] (I, R) (.inl (some (.inl y.1))) (y.2, R) := by
  intro n
  induction n with
  | zero => intro a0 a1 a2 I y h; cases h
  | succ n ih =>
    intro a0 a1 a2 I y h
    rw [f_X11_stuck_4] at h
    refine sm_iload_n (q := 5) dX11_stuck_4 rfl rfl 2 rfl ?_
    refine sm_aload_n (q := 6) dX11_stuck_5 rfl rfl 0 rfl ?_
    obtain ⟨hc1, h⟩ := sm_gd_e h
    refine sm_getR (r := R a0 3) (q := 9) dX11_stuck_6 rfl fk_X11_23 hc1 (by decide) (by decide) rfl ?_
    obtain ⟨hc2, h⟩ := sm_gd_e h
    refine sm_getR (r := R (R a0 3) 5) (q := 12) dX11_stuck_9 rfl fk_X11_132 hc2 (by decide) (by decide) rfl ?_
    obtain ⟨hc3, h⟩ := sm_gd_e h
    refine sm_getI (q := 15) dX11_stuck_12 rfl fk_X11_135 hc3 (by decide) (by decide) ?_
    rcases sm_if_e h with ⟨hb4, h⟩ | ⟨hb4, h⟩
    · refine sm_icmp_ge (tgt := 50) (q := 18) dX11_stuck_15 (by decide) rfl (fun _ => ?_) (fun hn => absurd hb4 hn)
      refine sm_iload_n (q := 51) dX11_stuck_50 rfl rfl 1 rfl ?_
      obtain rfl := Option.some.inj h
      exact sm_iret dX11_stuck_51 rfl
    · refine sm_icmp_ge (tgt := 50) (q := 18) dX11_stuck_15 (by decide) rfl (fun ht => absurd ht hb4) (fun _ => ?_)
      refine sm_aload_n (q := 19) dX11_stuck_18 rfl rfl 0 rfl ?_
      refine sm_aload_n (q := 20) dX11_stuck_19 rfl rfl 0 rfl ?_
      refine sm_getR (r := R a0 3) (q := 23) dX11_stuck_20 rfl fk_X11_23 hc1 (by decide) (by decide) rfl ?_
      refine sm_getR (r := R (R a0 3) 5) (q := 26) dX11_stuck_23 rfl fk_X11_132 hc2 (by decide) (by decide) rfl ?_
      refine sm_getR (r := R (R (R a0 3) 5) 0) (q := 29) dX11_stuck_26 rfl fk_X11_165 hc3 (by decide) (by decide) rfl ?_
      refine sm_iload_n (q := 30) dX11_stuck_29 rfl rfl 2 rfl ?_
      obtain ⟨hc5, h⟩ := sm_gd_e h
      refine sm_aald (t := 3) (n := (sm_kd (R (R (R a0 3) 5) 0)).2) (q := 31) dX11_stuck_30 rfl (Prod.ext hc5.1 rfl) (Or.inl ⟨rfl, rfl⟩) hc5.2 rfl ?_
      obtain ⟨p6, hc_p6, h⟩ := sm_bd_e h
      refine sm_callVi (q := 34) (As := [.inr (.inl (R (R (R (R a0 3) 5) 0) (a2).toNatClampNeg))]) (S := []) (e_X11_weeksTillDone hc_p6) mv_X11_259 hc1 rfl (by decide) (Nat.le_of_ble_eq_true rfl) dX11_stuck_31 rfl ?_
      refine sm_iconst (v := -1) (q := 35) dX11_stuck_34 rfl (by decide) ?_
      rcases sm_if_e h with ⟨hb7, h⟩ | ⟨hb7, h⟩
      · refine sm_icmp_ne (tgt := 44) (q := 38) dX11_stuck_35 (by decide) rfl (fun hn => absurd hb7 hn) (fun _ => ?_)
        refine sm_iload_n (q := 39) dX11_stuck_38 rfl rfl 1 rfl ?_
        refine sm_iconst (v := 1) (q := 40) dX11_stuck_39 rfl (by decide) ?_
        refine sm_iload_n (q := 41) dX11_stuck_40 rfl rfl 2 rfl ?_
        refine sm_ishl (q := 42) dX11_stuck_41 rfl ?_
        refine sm_ior (q := 43) dX11_stuck_42 rfl ?_
        refine sm_istore_n (L' := [(1, .inl (a1 ||| ((1 : Int32) <<< (a2 &&& 31)))), (0, .inr (.inl a0)), (2, .inl a2)]) (q := 44) dX11_stuck_43 rfl rfl (by decide) rfl ?_
        refine sm_iinc (v := (a2 + 1)) (L' := [(2, .inl (a2 + 1)), (1, .inl (a1 ||| ((1 : Int32) <<< (a2 &&& 31)))), (0, .inr (.inl a0))]) (q := 47) dX11_stuck_44 rfl 2 rfl rfl (by decide) rfl ?_
        refine sm_goto (q := 4) dX11_stuck_47 (by decide) ?_
        refine sm_pick [2, 1, 0] rfl ?_
        exact ih _ _ _ _ _ h
      · refine sm_icmp_ne (tgt := 44) (q := 38) dX11_stuck_35 (by decide) rfl (fun _ => ?_) (fun he => absurd he hb7)
        refine sm_iinc (v := (a2 + 1)) (L' := [(2, .inl (a2 + 1)), (0, .inr (.inl a0)), (1, .inl a1)]) (q := 47) dX11_stuck_44 rfl 2 rfl rfl (by decide) rfl ?_
        refine sm_goto (q := 4) dX11_stuck_47 (by decide) ?_
        refine sm_pick [1, 2, 0] rfl ?_
        exact ih _ _ _ _ _ h
set_option maxHeartbeats 4000000 in
set_option maxRecDepth 100000 in
theorem w_X11_stuck {l : Launch} (N : Nat) (R : Nat → Nat → Nat) : ∀ (a0 : Nat) (I : (Nat → Nat → Int32)) (y : (Int32 × (Nat → Nat → Int32))), f_X11_stuck N R a0 I = some y → sm_W l 5 mX11_stuck 0 [(0, .inr (.inl a0))] [] (I, R) (.inl (some (.inl y.1))) (y.2, R) := by
  intro a0 I y h
  unfold f_X11_stuck at h
  refine sm_iconst (v := 0) (q := 1) dX11_stuck_0 rfl (by decide) ?_
  refine sm_istore_n (L' := [(1, .inl (0 : Int32)), (0, .inr (.inl a0))]) (q := 2) dX11_stuck_1 rfl rfl (by decide) rfl ?_
  refine sm_iconst (v := 0) (q := 3) dX11_stuck_2 rfl (by decide) ?_
  refine sm_istore_n (L' := [(2, .inl (0 : Int32)), (1, .inl (0 : Int32)), (0, .inr (.inl a0))]) (q := 4) dX11_stuck_3 rfl rfl (by decide) rfl ?_
  refine sm_pick [2, 1, 0] rfl ?_
  exact w_X11_stuck_4 N R N _ _ _ _ _ h
theorem e_X11_stuck {l : Launch} {N : Nat} {R : Nat → Nat → Nat} {a0 : Nat} {I : (Nat → Nat → Int32)} {y : (Int32 × (Nat → Nat → Int32))} (h : f_X11_stuck N R a0 I = some y) : sm_E l 5 mX11_stuck [.inr (.inl a0)] (I, R) (.inl (some (.inl y.1))) (y.2, R) :=
  sm_meth (by decide) (Nat.le_of_ble_eq_true rfl) (w_X11_stuck N R a0 I y h)
def f_X11_free (N : Nat) (R : Nat → Nat → Nat) : Nat → Int32 → (Nat → Nat → Int32) → Option ((Int32 ⊕ String) × (Nat → Nat → Int32)) := fun a0 a1 I =>
  sm_gd (sm_kd a0 = (11, 16)) <|
  sm_gd (sm_kd (R a0 3) = (7, 9)) <|
  sm_tb (f_X11_needPupil N R a0 a1 I) fun r4 J5 =>
  sm_gd (sm_kd (R (R a0 3) 5) = (10, 4)) <|
  (f_X10_openTo N R (R (R a0 3) 5) r4 J5).bind fun p7 =>
  some (.inl p7.1, p7.2)
set_option maxHeartbeats 4000000 in
set_option maxRecDepth 100000 in
theorem w_X11_free {l : Launch} (hl : l.stackTraces = false) (N : Nat) (R : Nat → Nat → Nat) : ∀ (a0 : Nat) (a1 : Int32) (I : (Nat → Nat → Int32)) (y : ((Int32 ⊕ String) × (Nat → Nat → Int32))), f_X11_free N R a0 a1 I = some y → sm_W l 5 mX11_free 0 [(0, .inr (.inl a0)), (1, .inl a1)] [] (I, R) (sm_oI y.1) (y.2, R) := by
  intro a0 a1 I y h
  unfold f_X11_free at h
  refine sm_aload_n (q := 1) dX11_free_0 rfl rfl 0 rfl ?_
  obtain ⟨hc1, h⟩ := sm_gd_e h
  refine sm_getR (r := R a0 3) (q := 4) dX11_free_1 rfl fk_X11_23 hc1 (by decide) (by decide) rfl ?_
  obtain ⟨hc2, h⟩ := sm_gd_e h
  refine sm_getR (r := R (R a0 3) 5) (q := 7) dX11_free_4 rfl fk_X11_132 hc2 (by decide) (by decide) rfl ?_
  refine sm_aload_n (q := 8) dX11_free_7 rfl rfl 0 rfl ?_
  refine sm_iload_n (q := 9) dX11_free_8 rfl rfl 1 rfl ?_
  rcases sm_tb_e h with ⟨r4, J5, hc_p3, h⟩ | ⟨E9, J9, hc_p3, h⟩
  · refine sm_callVr (q := 12) (As := [.inl a1]) (S := [.inr (.inl (R (R a0 3) 5))]) (ek_X11_needPupil hl hc_p3) mv_X11_193 hc1 rfl (by decide) (Nat.le_of_ble_eq_true rfl) dX11_free_9 rfl ?_
    obtain ⟨hc6, h⟩ := sm_gd_e h
    obtain ⟨p7, hc_p7, h⟩ := sm_bd_e h
    refine sm_callVi (q := 15) (As := [.inr (.inl r4)]) (S := []) (e_X10_openTo hc_p7) mv_X11_266 hc6 rfl (by decide) (Nat.le_of_ble_eq_true rfl) dX11_free_12 rfl ?_
    obtain rfl := Option.some.inj h
    exact sm_iret dX11_free_15 rfl
  · obtain rfl := Option.some.inj h
    exact sm_callVX (E := E9) (As := [.inl a1]) (S := [.inr (.inl (R (R a0 3) 5))]) (ex_X11_needPupil hl hc_p3) mv_X11_193 hc1 rfl (by decide) (Nat.le_of_ble_eq_true rfl) dX11_free_9
theorem e_X11_free {l : Launch} (hl : l.stackTraces = false) {N : Nat} {R : Nat → Nat → Nat} {a0 : Nat} {a1 : Int32} {I : (Nat → Nat → Int32)} {y : ((Int32 ⊕ String) × (Nat → Nat → Int32))} (h : f_X11_free N R a0 a1 I = some y) : sm_E l 5 mX11_free [.inr (.inl a0), .inl a1] (I, R) (sm_oI y.1) (y.2, R) :=
  sm_meth (by decide) (Nat.le_of_ble_eq_true rfl) (w_X11_free hl N R a0 a1 I y h)
theorem ek_X11_free {l : Launch} (hl : l.stackTraces = false) {N : Nat} {R : Nat → Nat → Nat} {a0 : Nat} {a1 : Int32} {I : (Nat → Nat → Int32)} {r : Int32} {J : (Nat → Nat → Int32)} (h : f_X11_free N R a0 a1 I = some (.inl r, J)) : sm_E l 5 mX11_free [.inr (.inl a0), .inl a1] (I, R) (.inl (some (.inl r))) (J, R) := by
  have h1 := e_X11_free (l := l) hl h
  exact h1
theorem ex_X11_free {l : Launch} (hl : l.stackTraces = false) {N : Nat} {R : Nat → Nat → Nat} {a0 : Nat} {a1 : Int32} {I : (Nat → Nat → Int32)} {E : String} {J : (Nat → Nat → Int32)} (h : f_X11_free N R a0 a1 I = some (.inr E, J)) : sm_E l 5 mX11_free [.inr (.inl a0), .inl a1] (I, R) (.inr E) (J, R) := by
  have h1 := e_X11_free (l := l) hl h
  exact h1
def f_X11_weeksWithAway_5 (N : Nat) (R : Nat → Nat → Nat) : Nat → Nat → Int32 → Int32 → Int32 → Int32 → (Nat → Nat → Int32) → Option (Int32 × (Nat → Nat → Int32))
  | 0, _, _, _, _, _, _ => none
  | n + 1, a0, a1, a2, a3, a4, I =>
    if a1 < a4 then (
      some (a3, I))
    else (
      sm_gd (sm_kd a0 = (11, 16)) <|
      sm_gd (sm_kd (R a0 3) = (7, 9)) <|
      sm_gd (sm_kd (R (R a0 3) 5) = (10, 4)) <|
      (f_X10_awayIn N R (R (R a0 3) 5) a4 I).bind fun p5 =>
      if p5.1 = a2 then (
        f_X11_weeksWithAway_5 N R n a0 a1 a2 (a3 + 1) (a4 + 1) p5.2)
      else (
        f_X11_weeksWithAway_5 N R n a0 a1 a2 a3 (a4 + 1) p5.2))
def f_X11_weeksWithAway (N : Nat) (R : Nat → Nat → Nat) : Nat → Int32 → Int32 → (Nat → Nat → Int32) → Option (Int32 × (Nat → Nat → Int32)) := fun a0 a1 a2 I =>
  f_X11_weeksWithAway_5 N R N a0 a1 a2 (0 : Int32) (1 : Int32) I
set_option maxHeartbeats 4000000 in
set_option maxRecDepth 100000 in
theorem w_X11_weeksWithAway_5 {l : Launch} (N : Nat) (R : Nat → Nat → Nat) : ∀ (n : Nat) (a0 : Nat) (a1 : Int32) (a2 : Int32) (a3 : Int32) (a4 : Int32) (I : (Nat → Nat → Int32)) (y : (Int32 × (Nat → Nat → Int32))), f_X11_weeksWithAway_5 N R n a0 a1 a2 a3 a4 I = some y → sm_W l 2 mX11_weeksWithAway 5 [(0, .inr (.inl a0)), (1, .inl a1), (2, .inl a2), (3, .inl a3), (4, .inl a4)] [] (I, R) (.inl (some (.inl y.1))) (y.2, R) := by
  intro n
  induction n with
  | zero => intro a0 a1 a2 a3 a4 I y h; cases h
  | succ n ih =>
    intro a0 a1 a2 a3 a4 I y h
    rw [f_X11_weeksWithAway_5] at h
    refine sm_iload (q := 7) dX11_weeksWithAway_5 rfl 4 rfl ?_
    refine sm_iload_n (q := 8) dX11_weeksWithAway_7 rfl rfl 1 rfl ?_
    rcases sm_if_e h with ⟨hb1, h⟩ | ⟨hb1, h⟩
    · refine sm_icmp_gt (tgt := 36) (q := 11) dX11_weeksWithAway_8 (by decide) rfl (fun _ => ?_) (fun hn => absurd hb1 hn)
      refine sm_iload_n (q := 37) dX11_weeksWithAway_36 rfl rfl 3 rfl ?_
      obtain rfl := Option.some.inj h
      exact sm_iret dX11_weeksWithAway_37 rfl
    · refine sm_icmp_gt (tgt := 36) (q := 11) dX11_weeksWithAway_8 (by decide) rfl (fun ht => absurd ht hb1) (fun _ => ?_)
      refine sm_aload_n (q := 12) dX11_weeksWithAway_11 rfl rfl 0 rfl ?_
      obtain ⟨hc2, h⟩ := sm_gd_e h
      refine sm_getR (r := R a0 3) (q := 15) dX11_weeksWithAway_12 rfl fk_X11_23 hc2 (by decide) (by decide) rfl ?_
      obtain ⟨hc3, h⟩ := sm_gd_e h
      refine sm_getR (r := R (R a0 3) 5) (q := 18) dX11_weeksWithAway_15 rfl fk_X11_132 hc3 (by decide) (by decide) rfl ?_
      refine sm_iload (q := 20) dX11_weeksWithAway_18 rfl 4 rfl ?_
      obtain ⟨hc4, h⟩ := sm_gd_e h
      obtain ⟨p5, hc_p5, h⟩ := sm_bd_e h
      refine sm_callVi (q := 23) (As := [.inl a4]) (S := []) (e_X10_awayIn hc_p5) mv_X11_144 hc4 rfl (by decide) (Nat.le_of_ble_eq_true rfl) dX11_weeksWithAway_20 rfl ?_
      refine sm_iload_n (q := 24) dX11_weeksWithAway_23 rfl rfl 2 rfl ?_
      rcases sm_if_e h with ⟨hb6, h⟩ | ⟨hb6, h⟩
      · refine sm_icmp_ne (tgt := 30) (q := 27) dX11_weeksWithAway_24 (by decide) rfl (fun hn => absurd hb6 hn) (fun _ => ?_)
        refine sm_iinc (v := (a3 + 1)) (L' := [(3, .inl (a3 + 1)), (0, .inr (.inl a0)), (1, .inl a1), (2, .inl a2), (4, .inl a4)]) (q := 30) dX11_weeksWithAway_27 rfl 3 rfl rfl (by decide) rfl ?_
        refine sm_iinc (v := (a4 + 1)) (L' := [(4, .inl (a4 + 1)), (3, .inl (a3 + 1)), (0, .inr (.inl a0)), (1, .inl a1), (2, .inl a2)]) (q := 33) dX11_weeksWithAway_30 rfl 4 rfl rfl (by decide) rfl ?_
        refine sm_goto (q := 5) dX11_weeksWithAway_33 (by decide) ?_
        refine sm_pick [2, 3, 4, 1, 0] rfl ?_
        exact ih _ _ _ _ _ _ _ h
      · refine sm_icmp_ne (tgt := 30) (q := 27) dX11_weeksWithAway_24 (by decide) rfl (fun _ => ?_) (fun he => absurd he hb6)
        refine sm_iinc (v := (a4 + 1)) (L' := [(4, .inl (a4 + 1)), (0, .inr (.inl a0)), (1, .inl a1), (2, .inl a2), (3, .inl a3)]) (q := 33) dX11_weeksWithAway_30 rfl 4 rfl rfl (by decide) rfl ?_
        refine sm_goto (q := 5) dX11_weeksWithAway_33 (by decide) ?_
        refine sm_pick [1, 2, 3, 4, 0] rfl ?_
        exact ih _ _ _ _ _ _ _ h
set_option maxHeartbeats 4000000 in
set_option maxRecDepth 100000 in
theorem w_X11_weeksWithAway {l : Launch} (N : Nat) (R : Nat → Nat → Nat) : ∀ (a0 : Nat) (a1 : Int32) (a2 : Int32) (I : (Nat → Nat → Int32)) (y : (Int32 × (Nat → Nat → Int32))), f_X11_weeksWithAway N R a0 a1 a2 I = some y → sm_W l 2 mX11_weeksWithAway 0 [(0, .inr (.inl a0)), (1, .inl a1), (2, .inl a2)] [] (I, R) (.inl (some (.inl y.1))) (y.2, R) := by
  intro a0 a1 a2 I y h
  unfold f_X11_weeksWithAway at h
  refine sm_iconst (v := 0) (q := 1) dX11_weeksWithAway_0 rfl (by decide) ?_
  refine sm_istore_n (L' := [(3, .inl (0 : Int32)), (0, .inr (.inl a0)), (1, .inl a1), (2, .inl a2)]) (q := 2) dX11_weeksWithAway_1 rfl rfl (by decide) rfl ?_
  refine sm_iconst (v := 1) (q := 3) dX11_weeksWithAway_2 rfl (by decide) ?_
  refine sm_istore (L' := [(4, .inl (1 : Int32)), (3, .inl (0 : Int32)), (0, .inr (.inl a0)), (1, .inl a1), (2, .inl a2)]) (q := 5) dX11_weeksWithAway_3 rfl (by decide) rfl ?_
  refine sm_pick [2, 3, 4, 1, 0] rfl ?_
  exact w_X11_weeksWithAway_5 N R N _ _ _ _ _ _ _ h
theorem e_X11_weeksWithAway {l : Launch} {N : Nat} {R : Nat → Nat → Nat} {a0 : Nat} {a1 : Int32} {a2 : Int32} {I : (Nat → Nat → Int32)} {y : (Int32 × (Nat → Nat → Int32))} (h : f_X11_weeksWithAway N R a0 a1 a2 I = some y) : sm_E l 2 mX11_weeksWithAway [.inr (.inl a0), .inl a1, .inl a2] (I, R) (.inl (some (.inl y.1))) (y.2, R) :=
  sm_meth (by decide) (Nat.le_of_ble_eq_true rfl) (w_X11_weeksWithAway N R a0 a1 a2 I y h)
def f_X11_nobody (N : Nat) (R : Nat → Nat → Nat) : Nat → Int32 → (Nat → Nat → Int32) → Option ((Int32 ⊕ String) × (Nat → Nat → Int32)) := fun a0 a1 I =>
  sm_tb (f_X11_needBetween N R a1 (1 : Int32) (30 : Int32) I) fun r2 J3 =>
  sm_gd (sm_kd a0 = (11, 16)) <|
  sm_gd (sm_kd (R a0 3) = (7, 9)) <|
  sm_gd (sm_kd (R (R a0 3) 5) = (10, 4)) <|
  if (J3 (R (R a0 3) 5) 1) = 0 then (
    some (.inl (0 : Int32), J3))
  else (
    (f_X11_weeksWithAway N R a0 a1 (((1 : Int32) <<< ((J3 (R (R a0 3) 5) 1) &&& 31)) - (1 : Int32)) J3).bind fun p8 =>
    some (.inl p8.1, p8.2))
set_option maxHeartbeats 4000000 in
set_option maxRecDepth 100000 in
theorem w_X11_nobody {l : Launch} (hl : l.stackTraces = false) (N : Nat) (R : Nat → Nat → Nat) : ∀ (a0 : Nat) (a1 : Int32) (I : (Nat → Nat → Int32)) (y : ((Int32 ⊕ String) × (Nat → Nat → Int32))), f_X11_nobody N R a0 a1 I = some y → sm_W l 3 mX11_nobody 0 [(0, .inr (.inl a0)), (1, .inl a1)] [] (I, R) (sm_oI y.1) (y.2, R) := by
  intro a0 a1 I y h
  unfold f_X11_nobody at h
  refine sm_iload_n (q := 1) dX11_nobody_0 rfl rfl 1 rfl ?_
  refine sm_iconst (v := 1) (q := 2) dX11_nobody_1 rfl (by decide) ?_
  refine sm_bipush (v := 30) (q := 4) dX11_nobody_2 rfl (by decide) ?_
  rcases sm_tb_e h with ⟨r2, J3, hc_p1, h⟩ | ⟨E9, J9, hc_p1, h⟩
  · refine sm_callSv (q := 7) (As := [.inl a1, .inl (1 : Int32), .inl (30 : Int32)]) (S := []) (ek_X11_needBetween hl hc_p1) ms_X11_255 rfl (by decide) (Nat.le_of_ble_eq_true rfl) dX11_nobody_4 rfl ?_
    refine sm_aload_n (q := 8) dX11_nobody_7 rfl rfl 0 rfl ?_
    obtain ⟨hc4, h⟩ := sm_gd_e h
    refine sm_getR (r := R a0 3) (q := 11) dX11_nobody_8 rfl fk_X11_23 hc4 (by decide) (by decide) rfl ?_
    obtain ⟨hc5, h⟩ := sm_gd_e h
    refine sm_getR (r := R (R a0 3) 5) (q := 14) dX11_nobody_11 rfl fk_X11_132 hc5 (by decide) (by decide) rfl ?_
    obtain ⟨hc6, h⟩ := sm_gd_e h
    refine sm_getI (q := 17) dX11_nobody_14 rfl fk_X11_135 hc6 (by decide) (by decide) ?_
    refine sm_istore_n (L' := [(2, .inl (J3 (R (R a0 3) 5) 1)), (0, .inr (.inl a0)), (1, .inl a1)]) (q := 18) dX11_nobody_17 rfl rfl (by decide) rfl ?_
    refine sm_iload_n (q := 19) dX11_nobody_18 rfl rfl 0 rfl ?_
    rcases sm_if_e h with ⟨hb7, h⟩ | ⟨hb7, h⟩
    · refine sm_if_ne (tgt := 26) (q := 22) dX11_nobody_19 (by decide) rfl (fun hn => absurd hb7 hn) (fun _ => ?_)
      refine sm_iconst (v := 0) (q := 23) dX11_nobody_22 rfl (by decide) ?_
      refine sm_goto (q := 36) dX11_nobody_23 (by decide) ?_
      obtain rfl := Option.some.inj h
      exact sm_iret dX11_nobody_36 rfl
    · refine sm_if_ne (tgt := 26) (q := 22) dX11_nobody_19 (by decide) rfl (fun _ => ?_) (fun he => absurd he hb7)
      refine sm_aload_n (q := 27) dX11_nobody_26 rfl rfl 1 rfl ?_
      refine sm_iload_n (q := 28) dX11_nobody_27 rfl rfl 2 rfl ?_
      refine sm_iconst (v := 1) (q := 29) dX11_nobody_28 rfl (by decide) ?_
      refine sm_iload_n (q := 30) dX11_nobody_29 rfl rfl 0 rfl ?_
      refine sm_ishl (q := 31) dX11_nobody_30 rfl ?_
      refine sm_iconst (v := 1) (q := 32) dX11_nobody_31 rfl (by decide) ?_
      refine sm_isub (q := 33) dX11_nobody_32 rfl ?_
      obtain ⟨p8, hc_p8, h⟩ := sm_bd_e h
      refine sm_callVi (q := 36) (As := [.inl a1, .inl (((1 : Int32) <<< ((J3 (R (R a0 3) 5) 1) &&& 31)) - (1 : Int32))]) (S := []) (e_X11_weeksWithAway hc_p8) mv_X11_269 hc4 rfl (by decide) (Nat.le_of_ble_eq_true rfl) dX11_nobody_33 rfl ?_
      obtain rfl := Option.some.inj h
      exact sm_iret dX11_nobody_36 rfl
  · obtain rfl := Option.some.inj h
    exact sm_callSX (E := E9) (As := [.inl a1, .inl (1 : Int32), .inl (30 : Int32)]) (S := []) (ex_X11_needBetween hl hc_p1) ms_X11_255 rfl (by decide) (Nat.le_of_ble_eq_true rfl) dX11_nobody_4
theorem e_X11_nobody {l : Launch} (hl : l.stackTraces = false) {N : Nat} {R : Nat → Nat → Nat} {a0 : Nat} {a1 : Int32} {I : (Nat → Nat → Int32)} {y : ((Int32 ⊕ String) × (Nat → Nat → Int32))} (h : f_X11_nobody N R a0 a1 I = some y) : sm_E l 3 mX11_nobody [.inr (.inl a0), .inl a1] (I, R) (sm_oI y.1) (y.2, R) :=
  sm_meth (by decide) (Nat.le_of_ble_eq_true rfl) (w_X11_nobody hl N R a0 a1 I y h)
theorem ek_X11_nobody {l : Launch} (hl : l.stackTraces = false) {N : Nat} {R : Nat → Nat → Nat} {a0 : Nat} {a1 : Int32} {I : (Nat → Nat → Int32)} {r : Int32} {J : (Nat → Nat → Int32)} (h : f_X11_nobody N R a0 a1 I = some (.inl r, J)) : sm_E l 3 mX11_nobody [.inr (.inl a0), .inl a1] (I, R) (.inl (some (.inl r))) (J, R) := by
  have h1 := e_X11_nobody (l := l) hl h
  exact h1
theorem ex_X11_nobody {l : Launch} (hl : l.stackTraces = false) {N : Nat} {R : Nat → Nat → Nat} {a0 : Nat} {a1 : Int32} {I : (Nat → Nat → Int32)} {E : String} {J : (Nat → Nat → Int32)} (h : f_X11_nobody N R a0 a1 I = some (.inr E, J)) : sm_E l 3 mX11_nobody [.inr (.inl a0), .inl a1] (I, R) (.inr E) (J, R) := by
  have h1 := e_X11_nobody (l := l) hl h
  exact h1
def f_X11_goToLast (N : Nat) (R : Nat → Nat → Nat) : Nat → Int32 → (Nat → Nat → Int32) → Option (Int32 × (Nat → Nat → Int32)) := fun a0 a1 I =>
  (f_J6_highestOneBit_0f7a4 N R a1 I).bind fun p1 =>
  sm_gd (sm_kd a0 = (11, 16)) <|
  (f_J6_numberOfTrailingZeros_0f7a4 N R p1.1 p1.2).bind fun p3 =>
  sm_gd (sm_kd (R a0 3) = (7, 9)) <|
  (f_X7_goThrough N R (R a0 3) (R a0 8) (p3.1 + (1 : Int32)) p3.2).bind fun p5 =>
  some ((a1 &&& (p1.1 ^^^ (-1 : Int32))), p5.2)
set_option maxHeartbeats 4000000 in
set_option maxRecDepth 100000 in
theorem w_X11_goToLast {l : Launch} (N : Nat) (R : Nat → Nat → Nat) : ∀ (a0 : Nat) (a1 : Int32) (I : (Nat → Nat → Int32)) (y : (Int32 × (Nat → Nat → Int32))), f_X11_goToLast N R a0 a1 I = some y → sm_W l 4 mX11_goToLast 0 [(0, .inr (.inl a0)), (1, .inl a1)] [] (I, R) (.inl (some (.inl y.1))) (y.2, R) := by
  intro a0 a1 I y h
  unfold f_X11_goToLast at h
  refine sm_iload_n (q := 1) dX11_goToLast_0 rfl rfl 1 rfl ?_
  obtain ⟨p1, hc_p1, h⟩ := sm_bd_e h
  refine sm_callSi (q := 4) (As := [.inl a1]) (S := []) (e_J6_highestOneBit_0f7a4 hc_p1) ms_X11_278 rfl (by decide) (Nat.le_of_ble_eq_true rfl) dX11_goToLast_1 rfl ?_
  refine sm_istore_n (L' := [(2, .inl p1.1), (0, .inr (.inl a0)), (1, .inl a1)]) (q := 5) dX11_goToLast_4 rfl rfl (by decide) rfl ?_
  refine sm_aload_n (q := 6) dX11_goToLast_5 rfl rfl 1 rfl ?_
  obtain ⟨hc2, h⟩ := sm_gd_e h
  refine sm_getR (r := R a0 3) (q := 9) dX11_goToLast_6 rfl fk_X11_23 hc2 (by decide) (by decide) rfl ?_
  refine sm_aload_n (q := 10) dX11_goToLast_9 rfl rfl 1 rfl ?_
  refine sm_getR (r := R a0 8) (q := 13) dX11_goToLast_10 rfl fk_X11_55 hc2 (by decide) (by decide) rfl ?_
  refine sm_iload_n (q := 14) dX11_goToLast_13 rfl rfl 0 rfl ?_
  obtain ⟨p3, hc_p3, h⟩ := sm_bd_e h
  refine sm_callSi (q := 17) (As := [.inl p1.1]) (S := [.inr (.inl (R a0 8)), .inr (.inl (R a0 3))]) (e_J6_numberOfTrailingZeros_0f7a4 hc_p3) ms_X11_283 rfl (by decide) (Nat.le_of_ble_eq_true rfl) dX11_goToLast_14 rfl ?_
  refine sm_iconst (v := 1) (q := 18) dX11_goToLast_17 rfl (by decide) ?_
  refine sm_iadd (q := 19) dX11_goToLast_18 rfl ?_
  obtain ⟨hc4, h⟩ := sm_gd_e h
  obtain ⟨p5, hc_p5, h⟩ := sm_bd_e h
  refine sm_callVv (q := 22) (As := [.inr (.inl (R a0 8)), .inl (p3.1 + (1 : Int32))]) (S := []) (e_X7_goThrough hc_p5) mv_X11_242 hc4 rfl (by decide) (Nat.le_of_ble_eq_true rfl) dX11_goToLast_19 rfl ?_
  refine sm_iload_n (q := 23) dX11_goToLast_22 rfl rfl 2 rfl ?_
  refine sm_iload_n (q := 24) dX11_goToLast_23 rfl rfl 0 rfl ?_
  refine sm_iconst (v := -1) (q := 25) dX11_goToLast_24 rfl (by decide) ?_
  refine sm_ixor (q := 26) dX11_goToLast_25 rfl ?_
  refine sm_iand (q := 27) dX11_goToLast_26 rfl ?_
  obtain rfl := Option.some.inj h
  exact sm_iret dX11_goToLast_27 rfl
theorem e_X11_goToLast {l : Launch} {N : Nat} {R : Nat → Nat → Nat} {a0 : Nat} {a1 : Int32} {I : (Nat → Nat → Int32)} {y : (Int32 × (Nat → Nat → Int32))} (h : f_X11_goToLast N R a0 a1 I = some y) : sm_E l 4 mX11_goToLast [.inr (.inl a0), .inl a1] (I, R) (.inl (some (.inl y.1))) (y.2, R) :=
  sm_meth (by decide) (Nat.le_of_ble_eq_true rfl) (w_X11_goToLast N R a0 a1 I y h)
def f_X11_through_29 (N : Nat) (R : Nat → Nat → Nat) : Nat → Nat → Int32 → Int32 → (Nat → Nat → Int32) → Option ((Int32 ⊕ String) × (Nat → Nat → Int32))
  | 0, _, _, _, _ => none
  | n + 1, a0, a3, a4, I =>
    if (30 : Int32) < a4 then (
      some (.inl (-1 : Int32), I))
    else (
      sm_gd (sm_kd a0 = (11, 16)) <|
      sm_gd (sm_kd (R a0 8) = (4, 6)) <|
      sm_gd (sm_kd (R a0 3) = (7, 9)) <|
      (f_X7_nextHard N R (R a0 3) (R a0 8) I).bind fun p5 =>
      if (I (R a0 8) 0) < p5.1 then (
        if a3 = 0 then (
          some (.inl (-1 : Int32), p5.2))
        else (
          (f_X11_goToLast N R a0 a3 p5.2).bind fun p8 =>
          f_X11_through_29 N R n a0 p8.1 (a4 + 1) p8.2))
      else (
        some (.inl a4, p5.2)))
def f_X11_through (N : Nat) (R : Nat → Nat → Nat) : Nat → Int32 → (Nat → Nat → Int32) → Option ((Int32 ⊕ String) × (Nat → Nat → Int32)) := fun a0 a1 I =>
  sm_gd (sm_kd a0 = (11, 16)) <|
  sm_tb (f_X11_needPupil N R a0 a1 I) fun r3 J4 =>
  sm_gd (sm_kd (R a0 3) = (7, 9)) <|
  sm_gd (sm_kd (R (R a0 3) 5) = (10, 4)) <|
  (f_X10_openTo N R (R (R a0 3) 5) r3 J4).bind fun p7 =>
  sm_gd (sm_kd (R a0 8) = (4, 6)) <|
  (f_X4_become N R (R a0 8) r3 p7.2).bind fun p9 =>
  f_X11_through_29 N R N a0 p7.1 (0 : Int32) p9.2
set_option maxHeartbeats 4000000 in
set_option maxRecDepth 100000 in
theorem w_X11_through_29 {l : Launch} (hl : l.stackTraces = false) (N : Nat) (R : Nat → Nat → Nat) : ∀ (n : Nat) (a0 : Nat) (a3 : Int32) (a4 : Int32) (I : (Nat → Nat → Int32)) (y : ((Int32 ⊕ String) × (Nat → Nat → Int32))), f_X11_through_29 N R n a0 a3 a4 I = some y → sm_W l 5 mX11_through 29 [(0, .inr (.inl a0)), (3, .inl a3), (4, .inl a4)] [] (I, R) (sm_oI y.1) (y.2, R) := by
  intro n
  induction n with
  | zero => intro a0 a3 a4 I y h; cases h
  | succ n ih =>
    intro a0 a3 a4 I y h
    rw [f_X11_through_29] at h
    refine sm_iload (q := 31) dX11_through_29 rfl 2 rfl ?_
    refine sm_bipush (v := 30) (q := 33) dX11_through_31 rfl (by decide) ?_
    rcases sm_if_e h with ⟨hb1, h⟩ | ⟨hb1, h⟩
    · refine sm_icmp_gt (tgt := 78) (q := 36) dX11_through_33 (by decide) rfl (fun _ => ?_) (fun hn => absurd hb1 hn)
      refine sm_iconst (v := -1) (q := 79) dX11_through_78 rfl (by decide) ?_
      obtain rfl := Option.some.inj h
      exact sm_iret dX11_through_79 rfl
    · refine sm_icmp_gt (tgt := 78) (q := 36) dX11_through_33 (by decide) rfl (fun ht => absurd ht hb1) (fun _ => ?_)
      refine sm_aload_n (q := 37) dX11_through_36 rfl rfl 0 rfl ?_
      obtain ⟨hc2, h⟩ := sm_gd_e h
      refine sm_getR (r := R a0 8) (q := 40) dX11_through_37 rfl fk_X11_55 hc2 (by decide) (by decide) rfl ?_
      obtain ⟨hc3, h⟩ := sm_gd_e h
      refine sm_getI (q := 43) dX11_through_40 rfl fk_X11_197 hc3 (by decide) (by decide) ?_
      refine sm_aload_n (q := 44) dX11_through_43 rfl rfl 0 rfl ?_
      refine sm_getR (r := R a0 3) (q := 47) dX11_through_44 rfl fk_X11_23 hc2 (by decide) (by decide) rfl ?_
      refine sm_aload_n (q := 48) dX11_through_47 rfl rfl 0 rfl ?_
      refine sm_getR (r := R a0 8) (q := 51) dX11_through_48 rfl fk_X11_55 hc2 (by decide) (by decide) rfl ?_
      obtain ⟨hc4, h⟩ := sm_gd_e h
      obtain ⟨p5, hc_p5, h⟩ := sm_bd_e h
      refine sm_callVi (q := 54) (As := [.inr (.inl (R a0 8))]) (S := [.inl (I (R a0 8) 0)]) (e_X7_nextHard hc_p5) mv_X11_272 hc4 rfl (by decide) (Nat.le_of_ble_eq_true rfl) dX11_through_51 rfl ?_
      rcases sm_if_e h with ⟨hb6, h⟩ | ⟨hb6, h⟩
      · refine sm_icmp_lt (tgt := 60) (q := 57) dX11_through_54 (by decide) rfl (fun _ => ?_) (fun hn => absurd hb6 hn)
        refine sm_iload_n (q := 61) dX11_through_60 rfl rfl 1 rfl ?_
        rcases sm_if_e h with ⟨hb7, h⟩ | ⟨hb7, h⟩
        · refine sm_if_ne (tgt := 66) (q := 64) dX11_through_61 (by decide) rfl (fun hn => absurd hb7 hn) (fun _ => ?_)
          refine sm_iconst (v := -1) (q := 65) dX11_through_64 rfl (by decide) ?_
          obtain rfl := Option.some.inj h
          exact sm_iret dX11_through_65 rfl
        · refine sm_if_ne (tgt := 66) (q := 64) dX11_through_61 (by decide) rfl (fun _ => ?_) (fun he => absurd he hb7)
          refine sm_aload_n (q := 67) dX11_through_66 rfl rfl 0 rfl ?_
          refine sm_iload_n (q := 68) dX11_through_67 rfl rfl 1 rfl ?_
          obtain ⟨p8, hc_p8, h⟩ := sm_bd_e h
          refine sm_callVi (q := 71) (As := [.inl a3]) (S := []) (e_X11_goToLast hc_p8) mv_X11_275 hc2 rfl (by decide) (Nat.le_of_ble_eq_true rfl) dX11_through_68 rfl ?_
          refine sm_istore_n (L' := [(3, .inl p8.1), (0, .inr (.inl a0)), (4, .inl a4)]) (q := 72) dX11_through_71 rfl rfl (by decide) rfl ?_
          refine sm_iinc (v := (a4 + 1)) (L' := [(4, .inl (a4 + 1)), (3, .inl p8.1), (0, .inr (.inl a0))]) (q := 75) dX11_through_72 rfl 2 rfl rfl (by decide) rfl ?_
          refine sm_goto (q := 29) dX11_through_75 (by decide) ?_
          refine sm_pick [2, 1, 0] rfl ?_
          exact ih _ _ _ _ _ h
      · refine sm_icmp_lt (tgt := 60) (q := 57) dX11_through_54 (by decide) rfl (fun ht => absurd ht hb6) (fun _ => ?_)
        refine sm_iload (q := 59) dX11_through_57 rfl 2 rfl ?_
        obtain rfl := Option.some.inj h
        exact sm_iret dX11_through_59 rfl
set_option maxHeartbeats 4000000 in
set_option maxRecDepth 100000 in
theorem w_X11_through {l : Launch} (hl : l.stackTraces = false) (N : Nat) (R : Nat → Nat → Nat) : ∀ (a0 : Nat) (a1 : Int32) (I : (Nat → Nat → Int32)) (y : ((Int32 ⊕ String) × (Nat → Nat → Int32))), f_X11_through N R a0 a1 I = some y → sm_W l 5 mX11_through 0 [(0, .inr (.inl a0)), (1, .inl a1)] [] (I, R) (sm_oI y.1) (y.2, R) := by
  intro a0 a1 I y h
  unfold f_X11_through at h
  refine sm_aload_n (q := 1) dX11_through_0 rfl rfl 0 rfl ?_
  refine sm_iload_n (q := 2) dX11_through_1 rfl rfl 1 rfl ?_
  obtain ⟨hc1, h⟩ := sm_gd_e h
  rcases sm_tb_e h with ⟨r3, J4, hc_p2, h⟩ | ⟨E9, J9, hc_p2, h⟩
  · refine sm_callVr (q := 5) (As := [.inl a1]) (S := []) (ek_X11_needPupil hl hc_p2) mv_X11_193 hc1 rfl (by decide) (Nat.le_of_ble_eq_true rfl) dX11_through_2 rfl ?_
    refine sm_astore_n (L' := [(2, .inr (.inl r3)), (0, .inr (.inl a0)), (1, .inl a1)]) (q := 6) dX11_through_5 rfl rfl (by decide) rfl ?_
    refine sm_aload_n (q := 7) dX11_through_6 rfl rfl 1 rfl ?_
    refine sm_getR (r := R a0 3) (q := 10) dX11_through_7 rfl fk_X11_23 hc1 (by decide) (by decide) rfl ?_
    obtain ⟨hc5, h⟩ := sm_gd_e h
    refine sm_getR (r := R (R a0 3) 5) (q := 13) dX11_through_10 rfl fk_X11_132 hc5 (by decide) (by decide) rfl ?_
    refine sm_aload_n (q := 14) dX11_through_13 rfl rfl 0 rfl ?_
    obtain ⟨hc6, h⟩ := sm_gd_e h
    obtain ⟨p7, hc_p7, h⟩ := sm_bd_e h
    refine sm_callVi (q := 17) (As := [.inr (.inl r3)]) (S := []) (e_X10_openTo hc_p7) mv_X11_266 hc6 rfl (by decide) (Nat.le_of_ble_eq_true rfl) dX11_through_14 rfl ?_
    refine sm_istore_n (L' := [(3, .inl p7.1), (2, .inr (.inl r3)), (0, .inr (.inl a0)), (1, .inl a1)]) (q := 18) dX11_through_17 rfl rfl (by decide) rfl ?_
    refine sm_aload_n (q := 19) dX11_through_18 rfl rfl 2 rfl ?_
    refine sm_getR (r := R a0 8) (q := 22) dX11_through_19 rfl fk_X11_55 hc1 (by decide) (by decide) rfl ?_
    refine sm_aload_n (q := 23) dX11_through_22 rfl rfl 1 rfl ?_
    obtain ⟨hc8, h⟩ := sm_gd_e h
    obtain ⟨p9, hc_p9, h⟩ := sm_bd_e h
    refine sm_callVv (q := 26) (As := [.inr (.inl r3)]) (S := []) (e_X4_become hc_p9) mv_X11_220 hc8 rfl (by decide) (Nat.le_of_ble_eq_true rfl) dX11_through_23 rfl ?_
    refine sm_iconst (v := 0) (q := 27) dX11_through_26 rfl (by decide) ?_
    refine sm_istore (L' := [(4, .inl (0 : Int32)), (3, .inl p7.1), (2, .inr (.inl r3)), (0, .inr (.inl a0)), (1, .inl a1)]) (q := 29) dX11_through_27 rfl (by decide) rfl ?_
    refine sm_pick [3, 1, 0] rfl ?_
    exact w_X11_through_29 hl N R N _ _ _ _ _ h
  · obtain rfl := Option.some.inj h
    exact sm_callVX (E := E9) (As := [.inl a1]) (S := []) (ex_X11_needPupil hl hc_p2) mv_X11_193 hc1 rfl (by decide) (Nat.le_of_ble_eq_true rfl) dX11_through_2
theorem e_X11_through {l : Launch} (hl : l.stackTraces = false) {N : Nat} {R : Nat → Nat → Nat} {a0 : Nat} {a1 : Int32} {I : (Nat → Nat → Int32)} {y : ((Int32 ⊕ String) × (Nat → Nat → Int32))} (h : f_X11_through N R a0 a1 I = some y) : sm_E l 5 mX11_through [.inr (.inl a0), .inl a1] (I, R) (sm_oI y.1) (y.2, R) :=
  sm_meth (by decide) (Nat.le_of_ble_eq_true rfl) (w_X11_through hl N R a0 a1 I y h)
theorem ek_X11_through {l : Launch} (hl : l.stackTraces = false) {N : Nat} {R : Nat → Nat → Nat} {a0 : Nat} {a1 : Int32} {I : (Nat → Nat → Int32)} {r : Int32} {J : (Nat → Nat → Int32)} (h : f_X11_through N R a0 a1 I = some (.inl r, J)) : sm_E l 5 mX11_through [.inr (.inl a0), .inl a1] (I, R) (.inl (some (.inl r))) (J, R) := by
  have h1 := e_X11_through (l := l) hl h
  exact h1
theorem ex_X11_through {l : Launch} (hl : l.stackTraces = false) {N : Nat} {R : Nat → Nat → Nat} {a0 : Nat} {a1 : Int32} {I : (Nat → Nat → Int32)} {E : String} {J : (Nat → Nat → Int32)} (h : f_X11_through N R a0 a1 I = some (.inr E, J)) : sm_E l 5 mX11_through [.inr (.inl a0), .inl a1] (I, R) (.inr E) (J, R) := by
  have h1 := e_X11_through (l := l) hl h
  exact h1
def f_X11_toBeDone_37 (N : Nat) (R : Nat → Nat → Nat) : Nat → Nat → Int32 → Int32 → Int32 → (Nat → Nat → Int32) → Option ((Int32 ⊕ String) × (Nat → Nat → Int32))
  | 0, _, _, _, _, _ => none
  | n + 1, a0, a2, a4, a5, I =>
    if (30 : Int32) < a5 then (
      some (.inl (-1 : Int32), I))
    else (
      sm_gd (sm_kd a0 = (11, 16)) <|
      sm_gd (sm_kd (R a0 9) = (4, 6)) <|
      (f_X4_become N R (R a0 9) (R a0 8) I).bind fun p4 =>
      sm_gd (sm_kd (R a0 3) = (7, 9)) <|
      (f_X7_passWeeks N R (R a0 3) (R a0 9) a2 p4.2).bind fun p6 =>
      (f_X7_isDone N R (R a0 3) (R a0 9) p6.2).bind fun p7 =>
      if p7.1 = 0 then (
        if a4 = 0 then (
          some (.inl (-1 : Int32), p7.2))
        else (
          (f_X11_goToLast N R a0 a4 p7.2).bind fun p10 =>
          f_X11_toBeDone_37 N R n a0 a2 p10.1 (a5 + 1) p10.2))
      else (
        some (.inl a5, p7.2)))
def f_X11_toBeDone (N : Nat) (R : Nat → Nat → Nat) : Nat → Int32 → Int32 → (Nat → Nat → Int32) → Option ((Int32 ⊕ String) × (Nat → Nat → Int32)) := fun a0 a1 a2 I =>
  sm_gd (sm_kd a0 = (11, 16)) <|
  sm_tb (f_X11_needPupil N R a0 a1 I) fun r3 J4 =>
  sm_tb (f_X11_needBetween N R a2 (0 : Int32) (30 : Int32) J4) fun r6 J7 =>
  sm_gd (sm_kd (R a0 3) = (7, 9)) <|
  sm_gd (sm_kd (R (R a0 3) 5) = (10, 4)) <|
  (f_X10_openTo N R (R (R a0 3) 5) r3 J7).bind fun p10 =>
  sm_gd (sm_kd (R a0 8) = (4, 6)) <|
  (f_X4_become N R (R a0 8) r3 p10.2).bind fun p12 =>
  f_X11_toBeDone_37 N R N a0 a2 p10.1 (0 : Int32) p12.2
set_option maxHeartbeats 4000000 in
set_option maxRecDepth 100000 in
theorem w_X11_toBeDone_37 {l : Launch} (hl : l.stackTraces = false) (N : Nat) (R : Nat → Nat → Nat) : ∀ (n : Nat) (a0 : Nat) (a2 : Int32) (a4 : Int32) (a5 : Int32) (I : (Nat → Nat → Int32)) (y : ((Int32 ⊕ String) × (Nat → Nat → Int32))), f_X11_toBeDone_37 N R n a0 a2 a4 a5 I = some y → sm_W l 5 mX11_toBeDone 37 [(0, .inr (.inl a0)), (2, .inl a2), (4, .inl a4), (5, .inl a5)] [] (I, R) (sm_oI y.1) (y.2, R) := by
  intro n
  induction n with
  | zero => intro a0 a2 a4 a5 I y h; cases h
  | succ n ih =>
    intro a0 a2 a4 a5 I y h
    rw [f_X11_toBeDone_37] at h
    refine sm_iload (q := 39) dX11_toBeDone_37 rfl 3 rfl ?_
    refine sm_bipush (v := 30) (q := 41) dX11_toBeDone_39 rfl (by decide) ?_
    rcases sm_if_e h with ⟨hb1, h⟩ | ⟨hb1, h⟩
    · refine sm_icmp_gt (tgt := 105) (q := 44) dX11_toBeDone_41 (by decide) rfl (fun _ => ?_) (fun hn => absurd hb1 hn)
      refine sm_iconst (v := -1) (q := 106) dX11_toBeDone_105 rfl (by decide) ?_
      obtain rfl := Option.some.inj h
      exact sm_iret dX11_toBeDone_106 rfl
    · refine sm_icmp_gt (tgt := 105) (q := 44) dX11_toBeDone_41 (by decide) rfl (fun ht => absurd ht hb1) (fun _ => ?_)
      refine sm_aload_n (q := 45) dX11_toBeDone_44 rfl rfl 0 rfl ?_
      obtain ⟨hc2, h⟩ := sm_gd_e h
      refine sm_getR (r := R a0 9) (q := 48) dX11_toBeDone_45 rfl fk_X11_59 hc2 (by decide) (by decide) rfl ?_
      refine sm_aload_n (q := 49) dX11_toBeDone_48 rfl rfl 0 rfl ?_
      refine sm_getR (r := R a0 8) (q := 52) dX11_toBeDone_49 rfl fk_X11_55 hc2 (by decide) (by decide) rfl ?_
      obtain ⟨hc3, h⟩ := sm_gd_e h
      obtain ⟨p4, hc_p4, h⟩ := sm_bd_e h
      refine sm_callVv (q := 55) (As := [.inr (.inl (R a0 8))]) (S := []) (e_X4_become hc_p4) mv_X11_220 hc3 rfl (by decide) (Nat.le_of_ble_eq_true rfl) dX11_toBeDone_52 rfl ?_
      refine sm_aload_n (q := 56) dX11_toBeDone_55 rfl rfl 0 rfl ?_
      refine sm_getR (r := R a0 3) (q := 59) dX11_toBeDone_56 rfl fk_X11_23 hc2 (by decide) (by decide) rfl ?_
      refine sm_aload_n (q := 60) dX11_toBeDone_59 rfl rfl 0 rfl ?_
      refine sm_getR (r := R a0 9) (q := 63) dX11_toBeDone_60 rfl fk_X11_59 hc2 (by decide) (by decide) rfl ?_
      refine sm_iload_n (q := 64) dX11_toBeDone_63 rfl rfl 1 rfl ?_
      obtain ⟨hc5, h⟩ := sm_gd_e h
      obtain ⟨p6, hc_p6, h⟩ := sm_bd_e h
      refine sm_callVv (q := 67) (As := [.inr (.inl (R a0 9)), .inl a2]) (S := []) (e_X7_passWeeks hc_p6) mv_X11_234 hc5 rfl (by decide) (Nat.le_of_ble_eq_true rfl) dX11_toBeDone_64 rfl ?_
      refine sm_aload_n (q := 68) dX11_toBeDone_67 rfl rfl 0 rfl ?_
      refine sm_getR (r := R a0 3) (q := 71) dX11_toBeDone_68 rfl fk_X11_23 hc2 (by decide) (by decide) rfl ?_
      refine sm_aload_n (q := 72) dX11_toBeDone_71 rfl rfl 0 rfl ?_
      refine sm_getR (r := R a0 9) (q := 75) dX11_toBeDone_72 rfl fk_X11_59 hc2 (by decide) (by decide) rfl ?_
      obtain ⟨p7, hc_p7, h⟩ := sm_bd_e h
      refine sm_callVi (q := 78) (As := [.inr (.inl (R a0 9))]) (S := []) (e_X7_isDone hc_p7) mv_X11_169 hc5 rfl (by decide) (Nat.le_of_ble_eq_true rfl) dX11_toBeDone_75 rfl ?_
      rcases sm_if_e h with ⟨hb8, h⟩ | ⟨hb8, h⟩
      · refine sm_if_eq (tgt := 84) (q := 81) dX11_toBeDone_78 (by decide) rfl (fun _ => ?_) (fun hn => absurd hb8 hn)
        refine sm_iload (q := 86) dX11_toBeDone_84 rfl 2 rfl ?_
        rcases sm_if_e h with ⟨hb9, h⟩ | ⟨hb9, h⟩
        · refine sm_if_ne (tgt := 91) (q := 89) dX11_toBeDone_86 (by decide) rfl (fun hn => absurd hb9 hn) (fun _ => ?_)
          refine sm_iconst (v := -1) (q := 90) dX11_toBeDone_89 rfl (by decide) ?_
          obtain rfl := Option.some.inj h
          exact sm_iret dX11_toBeDone_90 rfl
        · refine sm_if_ne (tgt := 91) (q := 89) dX11_toBeDone_86 (by decide) rfl (fun _ => ?_) (fun he => absurd he hb9)
          refine sm_aload_n (q := 92) dX11_toBeDone_91 rfl rfl 0 rfl ?_
          refine sm_iload (q := 94) dX11_toBeDone_92 rfl 2 rfl ?_
          obtain ⟨p10, hc_p10, h⟩ := sm_bd_e h
          refine sm_callVi (q := 97) (As := [.inl a4]) (S := []) (e_X11_goToLast hc_p10) mv_X11_275 hc2 rfl (by decide) (Nat.le_of_ble_eq_true rfl) dX11_toBeDone_94 rfl ?_
          refine sm_istore (L' := [(4, .inl p10.1), (0, .inr (.inl a0)), (2, .inl a2), (5, .inl a5)]) (q := 99) dX11_toBeDone_97 rfl (by decide) rfl ?_
          refine sm_iinc (v := (a5 + 1)) (L' := [(5, .inl (a5 + 1)), (4, .inl p10.1), (0, .inr (.inl a0)), (2, .inl a2)]) (q := 102) dX11_toBeDone_99 rfl 3 rfl rfl (by decide) rfl ?_
          refine sm_goto (q := 37) dX11_toBeDone_102 (by decide) ?_
          refine sm_pick [2, 3, 1, 0] rfl ?_
          exact ih _ _ _ _ _ _ h
      · refine sm_if_eq (tgt := 84) (q := 81) dX11_toBeDone_78 (by decide) rfl (fun ht => absurd ht hb8) (fun _ => ?_)
        refine sm_iload (q := 83) dX11_toBeDone_81 rfl 3 rfl ?_
        obtain rfl := Option.some.inj h
        exact sm_iret dX11_toBeDone_83 rfl
set_option maxHeartbeats 4000000 in
set_option maxRecDepth 100000 in
theorem w_X11_toBeDone {l : Launch} (hl : l.stackTraces = false) (N : Nat) (R : Nat → Nat → Nat) : ∀ (a0 : Nat) (a1 : Int32) (a2 : Int32) (I : (Nat → Nat → Int32)) (y : ((Int32 ⊕ String) × (Nat → Nat → Int32))), f_X11_toBeDone N R a0 a1 a2 I = some y → sm_W l 5 mX11_toBeDone 0 [(0, .inr (.inl a0)), (1, .inl a1), (2, .inl a2)] [] (I, R) (sm_oI y.1) (y.2, R) := by
  intro a0 a1 a2 I y h
  unfold f_X11_toBeDone at h
  refine sm_aload_n (q := 1) dX11_toBeDone_0 rfl rfl 0 rfl ?_
  refine sm_iload_n (q := 2) dX11_toBeDone_1 rfl rfl 1 rfl ?_
  obtain ⟨hc1, h⟩ := sm_gd_e h
  rcases sm_tb_e h with ⟨r3, J4, hc_p2, h⟩ | ⟨E9, J9, hc_p2, h⟩
  · refine sm_callVr (q := 5) (As := [.inl a1]) (S := []) (ek_X11_needPupil hl hc_p2) mv_X11_193 hc1 rfl (by decide) (Nat.le_of_ble_eq_true rfl) dX11_toBeDone_2 rfl ?_
    refine sm_astore_n (L' := [(3, .inr (.inl r3)), (0, .inr (.inl a0)), (1, .inl a1), (2, .inl a2)]) (q := 6) dX11_toBeDone_5 rfl rfl (by decide) rfl ?_
    refine sm_iload_n (q := 7) dX11_toBeDone_6 rfl rfl 3 rfl ?_
    refine sm_iconst (v := 0) (q := 8) dX11_toBeDone_7 rfl (by decide) ?_
    refine sm_bipush (v := 30) (q := 10) dX11_toBeDone_8 rfl (by decide) ?_
    rcases sm_tb_e h with ⟨r6, J7, hc_p5, h⟩ | ⟨E9, J9, hc_p5, h⟩
    · refine sm_callSv (q := 13) (As := [.inl a2, .inl (0 : Int32), .inl (30 : Int32)]) (S := []) (ek_X11_needBetween hl hc_p5) ms_X11_255 rfl (by decide) (Nat.le_of_ble_eq_true rfl) dX11_toBeDone_10 rfl ?_
      refine sm_aload_n (q := 14) dX11_toBeDone_13 rfl rfl 1 rfl ?_
      refine sm_getR (r := R a0 3) (q := 17) dX11_toBeDone_14 rfl fk_X11_23 hc1 (by decide) (by decide) rfl ?_
      obtain ⟨hc8, h⟩ := sm_gd_e h
      refine sm_getR (r := R (R a0 3) 5) (q := 20) dX11_toBeDone_17 rfl fk_X11_132 hc8 (by decide) (by decide) rfl ?_
      refine sm_aload_n (q := 21) dX11_toBeDone_20 rfl rfl 0 rfl ?_
      obtain ⟨hc9, h⟩ := sm_gd_e h
      obtain ⟨p10, hc_p10, h⟩ := sm_bd_e h
      refine sm_callVi (q := 24) (As := [.inr (.inl r3)]) (S := []) (e_X10_openTo hc_p10) mv_X11_266 hc9 rfl (by decide) (Nat.le_of_ble_eq_true rfl) dX11_toBeDone_21 rfl ?_
      refine sm_istore (L' := [(4, .inl p10.1), (3, .inr (.inl r3)), (0, .inr (.inl a0)), (1, .inl a1), (2, .inl a2)]) (q := 26) dX11_toBeDone_24 rfl (by decide) rfl ?_
      refine sm_aload_n (q := 27) dX11_toBeDone_26 rfl rfl 2 rfl ?_
      refine sm_getR (r := R a0 8) (q := 30) dX11_toBeDone_27 rfl fk_X11_55 hc1 (by decide) (by decide) rfl ?_
      refine sm_aload_n (q := 31) dX11_toBeDone_30 rfl rfl 1 rfl ?_
      obtain ⟨hc11, h⟩ := sm_gd_e h
      obtain ⟨p12, hc_p12, h⟩ := sm_bd_e h
      refine sm_callVv (q := 34) (As := [.inr (.inl r3)]) (S := []) (e_X4_become hc_p12) mv_X11_220 hc11 rfl (by decide) (Nat.le_of_ble_eq_true rfl) dX11_toBeDone_31 rfl ?_
      refine sm_iconst (v := 0) (q := 35) dX11_toBeDone_34 rfl (by decide) ?_
      refine sm_istore (L' := [(5, .inl (0 : Int32)), (4, .inl p10.1), (3, .inr (.inl r3)), (0, .inr (.inl a0)), (1, .inl a1), (2, .inl a2)]) (q := 37) dX11_toBeDone_35 rfl (by decide) rfl ?_
      refine sm_pick [3, 5, 1, 0] rfl ?_
      exact w_X11_toBeDone_37 hl N R N _ _ _ _ _ _ h
    · obtain rfl := Option.some.inj h
      exact sm_callSX (E := E9) (As := [.inl a2, .inl (0 : Int32), .inl (30 : Int32)]) (S := []) (ex_X11_needBetween hl hc_p5) ms_X11_255 rfl (by decide) (Nat.le_of_ble_eq_true rfl) dX11_toBeDone_10
  · obtain rfl := Option.some.inj h
    exact sm_callVX (E := E9) (As := [.inl a1]) (S := []) (ex_X11_needPupil hl hc_p2) mv_X11_193 hc1 rfl (by decide) (Nat.le_of_ble_eq_true rfl) dX11_toBeDone_2
theorem e_X11_toBeDone {l : Launch} (hl : l.stackTraces = false) {N : Nat} {R : Nat → Nat → Nat} {a0 : Nat} {a1 : Int32} {a2 : Int32} {I : (Nat → Nat → Int32)} {y : ((Int32 ⊕ String) × (Nat → Nat → Int32))} (h : f_X11_toBeDone N R a0 a1 a2 I = some y) : sm_E l 5 mX11_toBeDone [.inr (.inl a0), .inl a1, .inl a2] (I, R) (sm_oI y.1) (y.2, R) :=
  sm_meth (by decide) (Nat.le_of_ble_eq_true rfl) (w_X11_toBeDone hl N R a0 a1 a2 I y h)
theorem ek_X11_toBeDone {l : Launch} (hl : l.stackTraces = false) {N : Nat} {R : Nat → Nat → Nat} {a0 : Nat} {a1 : Int32} {a2 : Int32} {I : (Nat → Nat → Int32)} {r : Int32} {J : (Nat → Nat → Int32)} (h : f_X11_toBeDone N R a0 a1 a2 I = some (.inl r, J)) : sm_E l 5 mX11_toBeDone [.inr (.inl a0), .inl a1, .inl a2] (I, R) (.inl (some (.inl r))) (J, R) := by
  have h1 := e_X11_toBeDone (l := l) hl h
  exact h1
theorem ex_X11_toBeDone {l : Launch} (hl : l.stackTraces = false) {N : Nat} {R : Nat → Nat → Nat} {a0 : Nat} {a1 : Int32} {a2 : Int32} {I : (Nat → Nat → Int32)} {E : String} {J : (Nat → Nat → Int32)} (h : f_X11_toBeDone N R a0 a1 a2 I = some (.inr E, J)) : sm_E l 5 mX11_toBeDone [.inr (.inl a0), .inl a1, .inl a2] (I, R) (.inr E) (J, R) := by
  have h1 := e_X11_toBeDone (l := l) hl h
  exact h1
def f_X11_fits (N : Nat) (R : Nat → Nat → Nat) : Nat → Int32 → Int32 → (Nat → Nat → Int32) → Option ((Int32 ⊕ String) × (Nat → Nat → Int32)) := fun a0 a1 a2 I =>
  sm_gd (sm_kd a0 = (11, 16)) <|
  sm_tb (f_X11_needPupil N R a0 a1 I) fun r3 J4 =>
  sm_tb (f_X11_needPiece N R a0 a2 J4) fun r6 J7 =>
  sm_gd (sm_kd r3 = (4, 6)) <|
  sm_gd (sm_kd (R a0 3) = (7, 9)) <|
  (f_X7_barsThatFit N R (R a0 3) (J7 r3 0) a2 J7).bind fun p10 =>
  some (.inl p10.1, p10.2)
set_option maxHeartbeats 4000000 in
set_option maxRecDepth 100000 in
theorem w_X11_fits {l : Launch} (hl : l.stackTraces = false) (N : Nat) (R : Nat → Nat → Nat) : ∀ (a0 : Nat) (a1 : Int32) (a2 : Int32) (I : (Nat → Nat → Int32)) (y : ((Int32 ⊕ String) × (Nat → Nat → Int32))), f_X11_fits N R a0 a1 a2 I = some y → sm_W l 2 mX11_fits 0 [(0, .inr (.inl a0)), (1, .inl a1), (2, .inl a2)] [] (I, R) (sm_oI y.1) (y.2, R) := by
  intro a0 a1 a2 I y h
  unfold f_X11_fits at h
  refine sm_aload_n (q := 1) dX11_fits_0 rfl rfl 0 rfl ?_
  refine sm_iload_n (q := 2) dX11_fits_1 rfl rfl 1 rfl ?_
  obtain ⟨hc1, h⟩ := sm_gd_e h
  rcases sm_tb_e h with ⟨r3, J4, hc_p2, h⟩ | ⟨E9, J9, hc_p2, h⟩
  · refine sm_callVr (q := 5) (As := [.inl a1]) (S := []) (ek_X11_needPupil hl hc_p2) mv_X11_193 hc1 rfl (by decide) (Nat.le_of_ble_eq_true rfl) dX11_fits_2 rfl ?_
    refine sm_astore_n (L' := [(3, .inr (.inl r3)), (0, .inr (.inl a0)), (1, .inl a1), (2, .inl a2)]) (q := 6) dX11_fits_5 rfl rfl (by decide) rfl ?_
    refine sm_aload_n (q := 7) dX11_fits_6 rfl rfl 1 rfl ?_
    refine sm_iload_n (q := 8) dX11_fits_7 rfl rfl 3 rfl ?_
    rcases sm_tb_e h with ⟨r6, J7, hc_p5, h⟩ | ⟨E9, J9, hc_p5, h⟩
    · refine sm_callVv (q := 11) (As := [.inl a2]) (S := []) (ek_X11_needPiece hl hc_p5) mv_X11_173 hc1 rfl (by decide) (Nat.le_of_ble_eq_true rfl) dX11_fits_8 rfl ?_
      refine sm_aload_n (q := 12) dX11_fits_11 rfl rfl 1 rfl ?_
      refine sm_getR (r := R a0 3) (q := 15) dX11_fits_12 rfl fk_X11_23 hc1 (by decide) (by decide) rfl ?_
      refine sm_aload_n (q := 16) dX11_fits_15 rfl rfl 0 rfl ?_
      obtain ⟨hc8, h⟩ := sm_gd_e h
      refine sm_getI (q := 19) dX11_fits_16 rfl fk_X11_197 hc8 (by decide) (by decide) ?_
      refine sm_iload_n (q := 20) dX11_fits_19 rfl rfl 3 rfl ?_
      obtain ⟨hc9, h⟩ := sm_gd_e h
      obtain ⟨p10, hc_p10, h⟩ := sm_bd_e h
      refine sm_callVi (q := 23) (As := [.inl (J7 r3 0), .inl a2]) (S := []) (e_X7_barsThatFit hc_p10) mv_X11_286 hc9 rfl (by decide) (Nat.le_of_ble_eq_true rfl) dX11_fits_20 rfl ?_
      obtain rfl := Option.some.inj h
      exact sm_iret dX11_fits_23 rfl
    · obtain rfl := Option.some.inj h
      exact sm_callVX (E := E9) (As := [.inl a2]) (S := []) (ex_X11_needPiece hl hc_p5) mv_X11_173 hc1 rfl (by decide) (Nat.le_of_ble_eq_true rfl) dX11_fits_8
  · obtain rfl := Option.some.inj h
    exact sm_callVX (E := E9) (As := [.inl a1]) (S := []) (ex_X11_needPupil hl hc_p2) mv_X11_193 hc1 rfl (by decide) (Nat.le_of_ble_eq_true rfl) dX11_fits_2
theorem e_X11_fits {l : Launch} (hl : l.stackTraces = false) {N : Nat} {R : Nat → Nat → Nat} {a0 : Nat} {a1 : Int32} {a2 : Int32} {I : (Nat → Nat → Int32)} {y : ((Int32 ⊕ String) × (Nat → Nat → Int32))} (h : f_X11_fits N R a0 a1 a2 I = some y) : sm_E l 2 mX11_fits [.inr (.inl a0), .inl a1, .inl a2] (I, R) (sm_oI y.1) (y.2, R) :=
  sm_meth (by decide) (Nat.le_of_ble_eq_true rfl) (w_X11_fits hl N R a0 a1 a2 I y h)
theorem ek_X11_fits {l : Launch} (hl : l.stackTraces = false) {N : Nat} {R : Nat → Nat → Nat} {a0 : Nat} {a1 : Int32} {a2 : Int32} {I : (Nat → Nat → Int32)} {r : Int32} {J : (Nat → Nat → Int32)} (h : f_X11_fits N R a0 a1 a2 I = some (.inl r, J)) : sm_E l 2 mX11_fits [.inr (.inl a0), .inl a1, .inl a2] (I, R) (.inl (some (.inl r))) (J, R) := by
  have h1 := e_X11_fits (l := l) hl h
  exact h1
theorem ex_X11_fits {l : Launch} (hl : l.stackTraces = false) {N : Nat} {R : Nat → Nat → Nat} {a0 : Nat} {a1 : Int32} {a2 : Int32} {I : (Nat → Nat → Int32)} {E : String} {J : (Nat → Nat → Int32)} (h : f_X11_fits N R a0 a1 a2 I = some (.inr E, J)) : sm_E l 2 mX11_fits [.inr (.inl a0), .inl a1, .inl a2] (I, R) (.inr E) (J, R) := by
  have h1 := e_X11_fits (l := l) hl h
  exact h1
def f_X11_repertoire_11 (N : Nat) (R : Nat → Nat → Nat) : Nat → Nat → Nat → Int32 → Int32 → (Nat → Nat → Int32) → Option ((Int32 ⊕ String) × (Nat → Nat → Int32))
  | 0, _, _, _, _, _ => none
  | n + 1, a0, a2, a3, a4, I =>
    sm_gd (sm_kd a0 = (11, 16)) <|
    sm_gd (sm_kd (R a0 3) = (7, 9)) <|
    if (I (R a0 3) 3) ≤ a4 then (
      some (.inl a3, I))
    else (
      sm_gd (sm_kd a2 = (4, 6)) <|
      (f_X7_barsThatFit N R (R a0 3) (I a2 0) a4 I).bind fun p5 =>
      sm_gd ((sm_kd (R (R a0 3) 0)).1 = 13 ∧ ¬ (a4 < 0 ∨ (sm_kd (R (R a0 3) 0)).2 ≤ (a4).toNatClampNeg)) <|
      if p5.1 = (p5.2 (R (R a0 3) 0) (a4).toNatClampNeg) then (
        f_X11_repertoire_11 N R n a0 a2 (a3 ||| ((1 : Int32) <<< (a4 &&& 31))) (a4 + 1) p5.2)
      else (
        f_X11_repertoire_11 N R n a0 a2 a3 (a4 + 1) p5.2))
def f_X11_repertoire (N : Nat) (R : Nat → Nat → Nat) : Nat → Int32 → (Nat → Nat → Int32) → Option ((Int32 ⊕ String) × (Nat → Nat → Int32)) := fun a0 a1 I =>
  sm_gd (sm_kd a0 = (11, 16)) <|
  sm_tb (f_X11_needPupil N R a0 a1 I) fun r3 J4 =>
  f_X11_repertoire_11 N R N a0 r3 (0 : Int32) (0 : Int32) J4
set_option maxHeartbeats 4000000 in
set_option maxRecDepth 100000 in
theorem w_X11_repertoire_11 {l : Launch} (hl : l.stackTraces = false) (N : Nat) (R : Nat → Nat → Nat) : ∀ (n : Nat) (a0 : Nat) (a2 : Nat) (a3 : Int32) (a4 : Int32) (I : (Nat → Nat → Int32)) (y : ((Int32 ⊕ String) × (Nat → Nat → Int32))), f_X11_repertoire_11 N R n a0 a2 a3 a4 I = some y → sm_W l 2 mX11_repertoire 11 [(0, .inr (.inl a0)), (2, .inr (.inl a2)), (3, .inl a3), (4, .inl a4)] [] (I, R) (sm_oI y.1) (y.2, R) := by
  intro n
  induction n with
  | zero => intro a0 a2 a3 a4 I y h; cases h
  | succ n ih =>
    intro a0 a2 a3 a4 I y h
    rw [f_X11_repertoire_11] at h
    refine sm_iload (q := 13) dX11_repertoire_11 rfl 3 rfl ?_
    refine sm_aload_n (q := 14) dX11_repertoire_13 rfl rfl 0 rfl ?_
    obtain ⟨hc1, h⟩ := sm_gd_e h
    refine sm_getR (r := R a0 3) (q := 17) dX11_repertoire_14 rfl fk_X11_23 hc1 (by decide) (by decide) rfl ?_
    obtain ⟨hc2, h⟩ := sm_gd_e h
    refine sm_getI (q := 20) dX11_repertoire_17 rfl fk_X11_129 hc2 (by decide) (by decide) ?_
    rcases sm_if_e h with ⟨hb3, h⟩ | ⟨hb3, h⟩
    · refine sm_icmp_ge (tgt := 62) (q := 23) dX11_repertoire_20 (by decide) rfl (fun _ => ?_) (fun hn => absurd hb3 hn)
      refine sm_iload_n (q := 63) dX11_repertoire_62 rfl rfl 2 rfl ?_
      obtain rfl := Option.some.inj h
      exact sm_iret dX11_repertoire_63 rfl
    · refine sm_icmp_ge (tgt := 62) (q := 23) dX11_repertoire_20 (by decide) rfl (fun ht => absurd ht hb3) (fun _ => ?_)
      refine sm_aload_n (q := 24) dX11_repertoire_23 rfl rfl 0 rfl ?_
      refine sm_getR (r := R a0 3) (q := 27) dX11_repertoire_24 rfl fk_X11_23 hc1 (by decide) (by decide) rfl ?_
      refine sm_aload_n (q := 28) dX11_repertoire_27 rfl rfl 1 rfl ?_
      obtain ⟨hc4, h⟩ := sm_gd_e h
      refine sm_getI (q := 31) dX11_repertoire_28 rfl fk_X11_197 hc4 (by decide) (by decide) ?_
      refine sm_iload (q := 33) dX11_repertoire_31 rfl 3 rfl ?_
      obtain ⟨p5, hc_p5, h⟩ := sm_bd_e h
      refine sm_callVi (q := 36) (As := [.inl (I a2 0), .inl a4]) (S := []) (e_X7_barsThatFit hc_p5) mv_X11_286 hc2 rfl (by decide) (Nat.le_of_ble_eq_true rfl) dX11_repertoire_33 rfl ?_
      refine sm_aload_n (q := 37) dX11_repertoire_36 rfl rfl 0 rfl ?_
      refine sm_getR (r := R a0 3) (q := 40) dX11_repertoire_37 rfl fk_X11_23 hc1 (by decide) (by decide) rfl ?_
      refine sm_getR (r := R (R a0 3) 0) (q := 43) dX11_repertoire_40 rfl fk_X11_176 hc2 (by decide) (by decide) rfl ?_
      refine sm_iload (q := 45) dX11_repertoire_43 rfl 3 rfl ?_
      obtain ⟨hc6, h⟩ := sm_gd_e h
      refine sm_iald (n := (sm_kd (R (R a0 3) 0)).2) (q := 46) dX11_repertoire_45 rfl (Prod.ext hc6.1 rfl) hc6.2 ?_
      rcases sm_if_e h with ⟨hb7, h⟩ | ⟨hb7, h⟩
      · refine sm_icmp_ne (tgt := 56) (q := 49) dX11_repertoire_46 (by decide) rfl (fun hn => absurd hb7 hn) (fun _ => ?_)
        refine sm_iload_n (q := 50) dX11_repertoire_49 rfl rfl 2 rfl ?_
        refine sm_iconst (v := 1) (q := 51) dX11_repertoire_50 rfl (by decide) ?_
        refine sm_iload (q := 53) dX11_repertoire_51 rfl 3 rfl ?_
        refine sm_ishl (q := 54) dX11_repertoire_53 rfl ?_
        refine sm_ior (q := 55) dX11_repertoire_54 rfl ?_
        refine sm_istore_n (L' := [(3, .inl (a3 ||| ((1 : Int32) <<< (a4 &&& 31)))), (0, .inr (.inl a0)), (2, .inr (.inl a2)), (4, .inl a4)]) (q := 56) dX11_repertoire_55 rfl rfl (by decide) rfl ?_
        refine sm_iinc (v := (a4 + 1)) (L' := [(4, .inl (a4 + 1)), (3, .inl (a3 ||| ((1 : Int32) <<< (a4 &&& 31)))), (0, .inr (.inl a0)), (2, .inr (.inl a2))]) (q := 59) dX11_repertoire_56 rfl 3 rfl rfl (by decide) rfl ?_
        refine sm_goto (q := 11) dX11_repertoire_59 (by decide) ?_
        refine sm_pick [2, 3, 1, 0] rfl ?_
        exact ih _ _ _ _ _ _ h
      · refine sm_icmp_ne (tgt := 56) (q := 49) dX11_repertoire_46 (by decide) rfl (fun _ => ?_) (fun he => absurd he hb7)
        refine sm_iinc (v := (a4 + 1)) (L' := [(4, .inl (a4 + 1)), (0, .inr (.inl a0)), (2, .inr (.inl a2)), (3, .inl a3)]) (q := 59) dX11_repertoire_56 rfl 3 rfl rfl (by decide) rfl ?_
        refine sm_goto (q := 11) dX11_repertoire_59 (by decide) ?_
        refine sm_pick [1, 2, 3, 0] rfl ?_
        exact ih _ _ _ _ _ _ h
set_option maxHeartbeats 4000000 in
set_option maxRecDepth 100000 in
theorem w_X11_repertoire {l : Launch} (hl : l.stackTraces = false) (N : Nat) (R : Nat → Nat → Nat) : ∀ (a0 : Nat) (a1 : Int32) (I : (Nat → Nat → Int32)) (y : ((Int32 ⊕ String) × (Nat → Nat → Int32))), f_X11_repertoire N R a0 a1 I = some y → sm_W l 2 mX11_repertoire 0 [(0, .inr (.inl a0)), (1, .inl a1)] [] (I, R) (sm_oI y.1) (y.2, R) := by
  intro a0 a1 I y h
  unfold f_X11_repertoire at h
  refine sm_aload_n (q := 1) dX11_repertoire_0 rfl rfl 0 rfl ?_
  refine sm_iload_n (q := 2) dX11_repertoire_1 rfl rfl 1 rfl ?_
  obtain ⟨hc1, h⟩ := sm_gd_e h
  rcases sm_tb_e h with ⟨r3, J4, hc_p2, h⟩ | ⟨E9, J9, hc_p2, h⟩
  · refine sm_callVr (q := 5) (As := [.inl a1]) (S := []) (ek_X11_needPupil hl hc_p2) mv_X11_193 hc1 rfl (by decide) (Nat.le_of_ble_eq_true rfl) dX11_repertoire_2 rfl ?_
    refine sm_astore_n (L' := [(2, .inr (.inl r3)), (0, .inr (.inl a0)), (1, .inl a1)]) (q := 6) dX11_repertoire_5 rfl rfl (by decide) rfl ?_
    refine sm_iconst (v := 0) (q := 7) dX11_repertoire_6 rfl (by decide) ?_
    refine sm_istore_n (L' := [(3, .inl (0 : Int32)), (2, .inr (.inl r3)), (0, .inr (.inl a0)), (1, .inl a1)]) (q := 8) dX11_repertoire_7 rfl rfl (by decide) rfl ?_
    refine sm_iconst (v := 0) (q := 9) dX11_repertoire_8 rfl (by decide) ?_
    refine sm_istore (L' := [(4, .inl (0 : Int32)), (3, .inl (0 : Int32)), (2, .inr (.inl r3)), (0, .inr (.inl a0)), (1, .inl a1)]) (q := 11) dX11_repertoire_9 rfl (by decide) rfl ?_
    refine sm_pick [3, 2, 1, 0] rfl ?_
    exact w_X11_repertoire_11 hl N R N _ _ _ _ _ _ h
  · obtain rfl := Option.some.inj h
    exact sm_callVX (E := E9) (As := [.inl a1]) (S := []) (ex_X11_needPupil hl hc_p2) mv_X11_193 hc1 rfl (by decide) (Nat.le_of_ble_eq_true rfl) dX11_repertoire_2
theorem e_X11_repertoire {l : Launch} (hl : l.stackTraces = false) {N : Nat} {R : Nat → Nat → Nat} {a0 : Nat} {a1 : Int32} {I : (Nat → Nat → Int32)} {y : ((Int32 ⊕ String) × (Nat → Nat → Int32))} (h : f_X11_repertoire N R a0 a1 I = some y) : sm_E l 2 mX11_repertoire [.inr (.inl a0), .inl a1] (I, R) (sm_oI y.1) (y.2, R) :=
  sm_meth (by decide) (Nat.le_of_ble_eq_true rfl) (w_X11_repertoire hl N R a0 a1 I y h)
theorem ek_X11_repertoire {l : Launch} (hl : l.stackTraces = false) {N : Nat} {R : Nat → Nat → Nat} {a0 : Nat} {a1 : Int32} {I : (Nat → Nat → Int32)} {r : Int32} {J : (Nat → Nat → Int32)} (h : f_X11_repertoire N R a0 a1 I = some (.inl r, J)) : sm_E l 2 mX11_repertoire [.inr (.inl a0), .inl a1] (I, R) (.inl (some (.inl r))) (J, R) := by
  have h1 := e_X11_repertoire (l := l) hl h
  exact h1
theorem ex_X11_repertoire {l : Launch} (hl : l.stackTraces = false) {N : Nat} {R : Nat → Nat → Nat} {a0 : Nat} {a1 : Int32} {I : (Nat → Nat → Int32)} {E : String} {J : (Nat → Nat → Int32)} (h : f_X11_repertoire N R a0 a1 I = some (.inr E, J)) : sm_E l 2 mX11_repertoire [.inr (.inl a0), .inl a1] (I, R) (.inr E) (J, R) := by
  have h1 := e_X11_repertoire (l := l) hl h
  exact h1
def f_X11_choice_11 (N : Nat) (R : Nat → Nat → Nat) : Nat → Int32 → (Nat → Nat → Int32) → Option ((Int32 ⊕ String) × (Nat → Nat → Int32)) := fun a0 a1 I =>
  sm_gd (sm_kd a0 = (11, 16)) <|
  sm_gd (sm_kd (R a0 13) = (1, 2)) <|
  (f_X1_weigh N R (R a0 13) (R a0 3) I).bind fun p3 =>
  if a1 = (-1 : Int32) then (
    (f_X1_most N R (R a0 13) p3.2).bind fun p5 =>
    some (.inl p5.1, p5.2))
  else (
    (f_X1_pieceFor N R (R a0 13) (R a0 3) a1 p3.2).bind fun p6 =>
    some (.inl p6.1, p6.2))
def f_X11_choice (N : Nat) (R : Nat → Nat → Nat) : Nat → Int32 → (Nat → Nat → Int32) → Option ((Int32 ⊕ String) × (Nat → Nat → Int32)) := fun a0 a1 I =>
  if a1 = (-1 : Int32) then (
    f_X11_choice_11 N R a0 a1 I)
  else (
    sm_gd (sm_kd a0 = (11, 16)) <|
    sm_tb (f_X11_needPupil N R a0 a1 I) fun r4 J5 =>
    f_X11_choice_11 N R a0 a1 J5)
set_option maxHeartbeats 4000000 in
set_option maxRecDepth 100000 in
theorem w_X11_choice_11 {l : Launch} (hl : l.stackTraces = false) (N : Nat) (R : Nat → Nat → Nat) : ∀ (a0 : Nat) (a1 : Int32) (I : (Nat → Nat → Int32)) (y : ((Int32 ⊕ String) × (Nat → Nat → Int32))), f_X11_choice_11 N R a0 a1 I = some y → sm_W l 3 mX11_choice 11 [(0, .inr (.inl a0)), (1, .inl a1)] [] (I, R) (sm_oI y.1) (y.2, R) := by
  intro a0 a1 I y h
  unfold f_X11_choice_11 at h
  refine sm_aload_n (q := 12) dX11_choice_11 rfl rfl 0 rfl ?_
  obtain ⟨hc1, h⟩ := sm_gd_e h
  refine sm_getR (r := R a0 13) (q := 15) dX11_choice_12 rfl fk_X11_82 hc1 (by decide) (by decide) rfl ?_
  refine sm_aload_n (q := 16) dX11_choice_15 rfl rfl 0 rfl ?_
  refine sm_getR (r := R a0 3) (q := 19) dX11_choice_16 rfl fk_X11_23 hc1 (by decide) (by decide) rfl ?_
  obtain ⟨hc2, h⟩ := sm_gd_e h
  obtain ⟨p3, hc_p3, h⟩ := sm_bd_e h
  refine sm_callVv (q := 22) (As := [.inr (.inl (R a0 3))]) (S := []) (e_X1_weigh hc_p3) mv_X11_289 hc2 rfl (by decide) (Nat.le_of_ble_eq_true rfl) dX11_choice_19 rfl ?_
  refine sm_iload_n (q := 23) dX11_choice_22 rfl rfl 1 rfl ?_
  refine sm_iconst (v := -1) (q := 24) dX11_choice_23 rfl (by decide) ?_
  rcases sm_if_e h with ⟨hb4, h⟩ | ⟨hb4, h⟩
  · refine sm_icmp_ne (tgt := 37) (q := 27) dX11_choice_24 (by decide) rfl (fun hn => absurd hb4 hn) (fun _ => ?_)
    refine sm_aload_n (q := 28) dX11_choice_27 rfl rfl 0 rfl ?_
    refine sm_getR (r := R a0 13) (q := 31) dX11_choice_28 rfl fk_X11_82 hc1 (by decide) (by decide) rfl ?_
    obtain ⟨p5, hc_p5, h⟩ := sm_bd_e h
    refine sm_callVi (q := 34) (As := []) (S := []) (e_X1_most hc_p5) mv_X11_293 hc2 rfl (by decide) (Nat.le_of_ble_eq_true rfl) dX11_choice_31 rfl ?_
    refine sm_goto (q := 49) dX11_choice_34 (by decide) ?_
    obtain rfl := Option.some.inj h
    exact sm_iret dX11_choice_49 rfl
  · refine sm_icmp_ne (tgt := 37) (q := 27) dX11_choice_24 (by decide) rfl (fun _ => ?_) (fun he => absurd he hb4)
    refine sm_aload_n (q := 38) dX11_choice_37 rfl rfl 0 rfl ?_
    refine sm_getR (r := R a0 13) (q := 41) dX11_choice_38 rfl fk_X11_82 hc1 (by decide) (by decide) rfl ?_
    refine sm_aload_n (q := 42) dX11_choice_41 rfl rfl 0 rfl ?_
    refine sm_getR (r := R a0 3) (q := 45) dX11_choice_42 rfl fk_X11_23 hc1 (by decide) (by decide) rfl ?_
    refine sm_iload_n (q := 46) dX11_choice_45 rfl rfl 1 rfl ?_
    obtain ⟨p6, hc_p6, h⟩ := sm_bd_e h
    refine sm_callVi (q := 49) (As := [.inr (.inl (R a0 3)), .inl a1]) (S := []) (e_X1_pieceFor hc_p6) mv_X11_296 hc2 rfl (by decide) (Nat.le_of_ble_eq_true rfl) dX11_choice_46 rfl ?_
    obtain rfl := Option.some.inj h
    exact sm_iret dX11_choice_49 rfl
set_option maxHeartbeats 4000000 in
set_option maxRecDepth 100000 in
theorem w_X11_choice {l : Launch} (hl : l.stackTraces = false) (N : Nat) (R : Nat → Nat → Nat) : ∀ (a0 : Nat) (a1 : Int32) (I : (Nat → Nat → Int32)) (y : ((Int32 ⊕ String) × (Nat → Nat → Int32))), f_X11_choice N R a0 a1 I = some y → sm_W l 3 mX11_choice 0 [(0, .inr (.inl a0)), (1, .inl a1)] [] (I, R) (sm_oI y.1) (y.2, R) := by
  intro a0 a1 I y h
  unfold f_X11_choice at h
  refine sm_iload_n (q := 1) dX11_choice_0 rfl rfl 1 rfl ?_
  refine sm_iconst (v := -1) (q := 2) dX11_choice_1 rfl (by decide) ?_
  rcases sm_if_e h with ⟨hb1, h⟩ | ⟨hb1, h⟩
  · refine sm_icmp_eq (tgt := 11) (q := 5) dX11_choice_2 (by decide) rfl (fun _ => ?_) (fun hn => absurd hb1 hn)
    refine sm_pick [0, 1] rfl ?_
    exact w_X11_choice_11 hl N R _ _ _ _ h
  · refine sm_icmp_eq (tgt := 11) (q := 5) dX11_choice_2 (by decide) rfl (fun ht => absurd ht hb1) (fun _ => ?_)
    refine sm_aload_n (q := 6) dX11_choice_5 rfl rfl 0 rfl ?_
    refine sm_iload_n (q := 7) dX11_choice_6 rfl rfl 1 rfl ?_
    obtain ⟨hc2, h⟩ := sm_gd_e h
    rcases sm_tb_e h with ⟨r4, J5, hc_p3, h⟩ | ⟨E9, J9, hc_p3, h⟩
    · refine sm_callVr (q := 10) (As := [.inl a1]) (S := []) (ek_X11_needPupil hl hc_p3) mv_X11_193 hc2 rfl (by decide) (Nat.le_of_ble_eq_true rfl) dX11_choice_7 rfl ?_
      refine sm_pop (q := 11) dX11_choice_10 rfl rfl ?_
      refine sm_pick [0, 1] rfl ?_
      exact w_X11_choice_11 hl N R _ _ _ _ h
    · obtain rfl := Option.some.inj h
      exact sm_callVX (E := E9) (As := [.inl a1]) (S := []) (ex_X11_needPupil hl hc_p3) mv_X11_193 hc2 rfl (by decide) (Nat.le_of_ble_eq_true rfl) dX11_choice_7
theorem e_X11_choice {l : Launch} (hl : l.stackTraces = false) {N : Nat} {R : Nat → Nat → Nat} {a0 : Nat} {a1 : Int32} {I : (Nat → Nat → Int32)} {y : ((Int32 ⊕ String) × (Nat → Nat → Int32))} (h : f_X11_choice N R a0 a1 I = some y) : sm_E l 3 mX11_choice [.inr (.inl a0), .inl a1] (I, R) (sm_oI y.1) (y.2, R) :=
  sm_meth (by decide) (Nat.le_of_ble_eq_true rfl) (w_X11_choice hl N R a0 a1 I y h)
theorem ek_X11_choice {l : Launch} (hl : l.stackTraces = false) {N : Nat} {R : Nat → Nat → Nat} {a0 : Nat} {a1 : Int32} {I : (Nat → Nat → Int32)} {r : Int32} {J : (Nat → Nat → Int32)} (h : f_X11_choice N R a0 a1 I = some (.inl r, J)) : sm_E l 3 mX11_choice [.inr (.inl a0), .inl a1] (I, R) (.inl (some (.inl r))) (J, R) := by
  have h1 := e_X11_choice (l := l) hl h
  exact h1
theorem ex_X11_choice {l : Launch} (hl : l.stackTraces = false) {N : Nat} {R : Nat → Nat → Nat} {a0 : Nat} {a1 : Int32} {I : (Nat → Nat → Int32)} {E : String} {J : (Nat → Nat → Int32)} (h : f_X11_choice N R a0 a1 I = some (.inr E, J)) : sm_E l 3 mX11_choice [.inr (.inl a0), .inl a1] (I, R) (.inr E) (J, R) := by
  have h1 := e_X11_choice (l := l) hl h
  exact h1
def f_X11_hardest_20 (N : Nat) (R : Nat → Nat → Nat) (k_6 : Nat → Int32 → Int32 → Int32 → (Nat → Nat → Int32) → Option (Int32 × (Nat → Nat → Int32))) : Nat → Nat → Int32 → Int32 → Int32 → Int32 → (Nat → Nat → Int32) → Option (Int32 × (Nat → Nat → Int32))
  | 0, _, _, _, _, _, _ => none
  | n + 1, a0, a1, a2, a3, a4, I =>
    sm_gd (sm_kd a0 = (11, 16)) <|
    sm_gd (sm_kd (R a0 3) = (7, 9)) <|
    sm_gd ((sm_kd (R (R a0 3) 0)).1 = 13 ∧ ¬ (a3 < 0 ∨ (sm_kd (R (R a0 3) 0)).2 ≤ (a3).toNatClampNeg)) <|
    if (I (R (R a0 3) 0) (a3).toNatClampNeg) ≤ a4 then (
      k_6 a0 a1 a2 (a3 + 1) I)
    else (
      (f_X7_hardOf N R (R a0 3) a3 a4 I).bind fun p5 =>
      if p5.1 ≤ a2 then (
        f_X11_hardest_20 N R k_6 n a0 a1 a2 a3 (a4 + 1) p5.2)
      else (
        (f_X7_hardOf N R (R a0 3) a3 a4 p5.2).bind fun p7 =>
        f_X11_hardest_20 N R k_6 n a0 a3 p7.1 a3 (a4 + 1) p7.2))
def f_X11_hardest_6 (N : Nat) (R : Nat → Nat → Nat) : Nat → Nat → Int32 → Int32 → Int32 → (Nat → Nat → Int32) → Option (Int32 × (Nat → Nat → Int32))
  | 0, _, _, _, _, _ => none
  | n + 1, a0, a1, a2, a3, I =>
    sm_gd (sm_kd a0 = (11, 16)) <|
    sm_gd (sm_kd (R a0 3) = (7, 9)) <|
    if (I (R a0 3) 3) ≤ a3 then (
      some (a1, I))
    else (
      f_X11_hardest_20 N R (fun z0 z1 z2 z3 J => f_X11_hardest_6 N R n z0 z1 z2 z3 J) N a0 a1 a2 a3 (0 : Int32) I)
def f_X11_hardest (N : Nat) (R : Nat → Nat → Nat) : Nat → (Nat → Nat → Int32) → Option (Int32 × (Nat → Nat → Int32)) := fun a0 I =>
  f_X11_hardest_6 N R N a0 (-1 : Int32) (0 : Int32) (0 : Int32) I
set_option maxHeartbeats 4000000 in
set_option maxRecDepth 100000 in
theorem w_X11_hardest_20 {l : Launch} (N : Nat) (R : Nat → Nat → Nat) (k_6 : Nat → Int32 → Int32 → Int32 → (Nat → Nat → Int32) → Option (Int32 × (Nat → Nat → Int32))) (hk_6 : ∀ (a0 : Nat) (a1 : Int32) (a2 : Int32) (a3 : Int32) (I : (Nat → Nat → Int32)) (y : (Int32 × (Nat → Nat → Int32))), k_6 a0 a1 a2 a3 I = some y → sm_W l 1 mX11_hardest 6 [(0, .inr (.inl a0)), (1, .inl a1), (2, .inl a2), (3, .inl a3)] [] (I, R) (.inl (some (.inl y.1))) (y.2, R)) : ∀ (n : Nat) (a0 : Nat) (a1 : Int32) (a2 : Int32) (a3 : Int32) (a4 : Int32) (I : (Nat → Nat → Int32)) (y : (Int32 × (Nat → Nat → Int32))), f_X11_hardest_20 N R k_6 n a0 a1 a2 a3 a4 I = some y → sm_W l 1 mX11_hardest 20 [(0, .inr (.inl a0)), (1, .inl a1), (2, .inl a2), (3, .inl a3), (4, .inl a4)] [] (I, R) (.inl (some (.inl y.1))) (y.2, R) := by
  intro n
  induction n with
  | zero => intro a0 a1 a2 a3 a4 I y h; cases h
  | succ n ih =>
    intro a0 a1 a2 a3 a4 I y h
    rw [f_X11_hardest_20] at h
    refine sm_iload (q := 22) dX11_hardest_20 rfl 4 rfl ?_
    refine sm_aload_n (q := 23) dX11_hardest_22 rfl rfl 0 rfl ?_
    obtain ⟨hc1, h⟩ := sm_gd_e h
    refine sm_getR (r := R a0 3) (q := 26) dX11_hardest_23 rfl fk_X11_23 hc1 (by decide) (by decide) rfl ?_
    obtain ⟨hc2, h⟩ := sm_gd_e h
    refine sm_getR (r := R (R a0 3) 0) (q := 29) dX11_hardest_26 rfl fk_X11_176 hc2 (by decide) (by decide) rfl ?_
    refine sm_iload_n (q := 30) dX11_hardest_29 rfl rfl 3 rfl ?_
    obtain ⟨hc3, h⟩ := sm_gd_e h
    refine sm_iald (n := (sm_kd (R (R a0 3) 0)).2) (q := 31) dX11_hardest_30 rfl (Prod.ext hc3.1 rfl) hc3.2 ?_
    rcases sm_if_e h with ⟨hb4, h⟩ | ⟨hb4, h⟩
    · refine sm_icmp_ge (tgt := 67) (q := 34) dX11_hardest_31 (by decide) rfl (fun _ => ?_) (fun hn => absurd hb4 hn)
      refine sm_iinc (v := (a3 + 1)) (L' := [(3, .inl (a3 + 1)), (0, .inr (.inl a0)), (1, .inl a1), (2, .inl a2), (4, .inl a4)]) (q := 70) dX11_hardest_67 rfl 3 rfl rfl (by decide) rfl ?_
      refine sm_goto (q := 6) dX11_hardest_70 (by decide) ?_
      refine sm_pick [1, 2, 3, 0] rfl ?_
      exact hk_6 _ _ _ _ _ _ h
    · refine sm_icmp_ge (tgt := 67) (q := 34) dX11_hardest_31 (by decide) rfl (fun ht => absurd ht hb4) (fun _ => ?_)
      refine sm_aload_n (q := 35) dX11_hardest_34 rfl rfl 0 rfl ?_
      refine sm_getR (r := R a0 3) (q := 38) dX11_hardest_35 rfl fk_X11_23 hc1 (by decide) (by decide) rfl ?_
      refine sm_iload_n (q := 39) dX11_hardest_38 rfl rfl 3 rfl ?_
      refine sm_iload (q := 41) dX11_hardest_39 rfl 4 rfl ?_
      obtain ⟨p5, hc_p5, h⟩ := sm_bd_e h
      refine sm_callVi (q := 44) (As := [.inl a3, .inl a4]) (S := []) (e_X7_hardOf hc_p5) mv_X11_189 hc2 rfl (by decide) (Nat.le_of_ble_eq_true rfl) dX11_hardest_41 rfl ?_
      refine sm_iload_n (q := 45) dX11_hardest_44 rfl rfl 2 rfl ?_
      rcases sm_if_e h with ⟨hb6, h⟩ | ⟨hb6, h⟩
      · refine sm_icmp_le (tgt := 61) (q := 48) dX11_hardest_45 (by decide) rfl (fun _ => ?_) (fun hn => absurd hb6 hn)
        refine sm_iinc (v := (a4 + 1)) (L' := [(4, .inl (a4 + 1)), (0, .inr (.inl a0)), (1, .inl a1), (2, .inl a2), (3, .inl a3)]) (q := 64) dX11_hardest_61 rfl 4 rfl rfl (by decide) rfl ?_
        refine sm_goto (q := 20) dX11_hardest_64 (by decide) ?_
        refine sm_pick [1, 2, 3, 4, 0] rfl ?_
        exact ih _ _ _ _ _ _ _ h
      · refine sm_icmp_le (tgt := 61) (q := 48) dX11_hardest_45 (by decide) rfl (fun ht => absurd ht hb6) (fun _ => ?_)
        refine sm_aload_n (q := 49) dX11_hardest_48 rfl rfl 0 rfl ?_
        refine sm_getR (r := R a0 3) (q := 52) dX11_hardest_49 rfl fk_X11_23 hc1 (by decide) (by decide) rfl ?_
        refine sm_iload_n (q := 53) dX11_hardest_52 rfl rfl 3 rfl ?_
        refine sm_iload (q := 55) dX11_hardest_53 rfl 4 rfl ?_
        obtain ⟨p7, hc_p7, h⟩ := sm_bd_e h
        refine sm_callVi (q := 58) (As := [.inl a3, .inl a4]) (S := []) (e_X7_hardOf hc_p7) mv_X11_189 hc2 rfl (by decide) (Nat.le_of_ble_eq_true rfl) dX11_hardest_55 rfl ?_
        refine sm_istore_n (L' := [(2, .inl p7.1), (0, .inr (.inl a0)), (1, .inl a1), (3, .inl a3), (4, .inl a4)]) (q := 59) dX11_hardest_58 rfl rfl (by decide) rfl ?_
        refine sm_iload_n (q := 60) dX11_hardest_59 rfl rfl 3 rfl ?_
        refine sm_istore_n (L' := [(1, .inl a3), (2, .inl p7.1), (0, .inr (.inl a0)), (3, .inl a3), (4, .inl a4)]) (q := 61) dX11_hardest_60 rfl rfl (by decide) rfl ?_
        refine sm_iinc (v := (a4 + 1)) (L' := [(4, .inl (a4 + 1)), (1, .inl a3), (2, .inl p7.1), (0, .inr (.inl a0)), (3, .inl a3)]) (q := 64) dX11_hardest_61 rfl 4 rfl rfl (by decide) rfl ?_
        refine sm_goto (q := 20) dX11_hardest_64 (by decide) ?_
        refine sm_pick [3, 1, 2, 4, 0] rfl ?_
        exact ih _ _ _ _ _ _ _ h
set_option maxHeartbeats 4000000 in
set_option maxRecDepth 100000 in
theorem w_X11_hardest_6 {l : Launch} (N : Nat) (R : Nat → Nat → Nat) : ∀ (n : Nat) (a0 : Nat) (a1 : Int32) (a2 : Int32) (a3 : Int32) (I : (Nat → Nat → Int32)) (y : (Int32 × (Nat → Nat → Int32))), f_X11_hardest_6 N R n a0 a1 a2 a3 I = some y → sm_W l 1 mX11_hardest 6 [(0, .inr (.inl a0)), (1, .inl a1), (2, .inl a2), (3, .inl a3)] [] (I, R) (.inl (some (.inl y.1))) (y.2, R) := by
  intro n
  induction n with
  | zero => intro a0 a1 a2 a3 I y h; cases h
  | succ n ih =>
    intro a0 a1 a2 a3 I y h
    rw [f_X11_hardest_6] at h
    refine sm_iload_n (q := 7) dX11_hardest_6 rfl rfl 3 rfl ?_
    refine sm_aload_n (q := 8) dX11_hardest_7 rfl rfl 0 rfl ?_
    obtain ⟨hc1, h⟩ := sm_gd_e h
    refine sm_getR (r := R a0 3) (q := 11) dX11_hardest_8 rfl fk_X11_23 hc1 (by decide) (by decide) rfl ?_
    obtain ⟨hc2, h⟩ := sm_gd_e h
    refine sm_getI (q := 14) dX11_hardest_11 rfl fk_X11_129 hc2 (by decide) (by decide) ?_
    rcases sm_if_e h with ⟨hb3, h⟩ | ⟨hb3, h⟩
    · refine sm_icmp_ge (tgt := 73) (q := 17) dX11_hardest_14 (by decide) rfl (fun _ => ?_) (fun hn => absurd hb3 hn)
      refine sm_iload_n (q := 74) dX11_hardest_73 rfl rfl 1 rfl ?_
      obtain rfl := Option.some.inj h
      exact sm_iret dX11_hardest_74 rfl
    · refine sm_icmp_ge (tgt := 73) (q := 17) dX11_hardest_14 (by decide) rfl (fun ht => absurd ht hb3) (fun _ => ?_)
      refine sm_iconst (v := 0) (q := 18) dX11_hardest_17 rfl (by decide) ?_
      refine sm_istore (L' := [(4, .inl (0 : Int32)), (0, .inr (.inl a0)), (1, .inl a1), (2, .inl a2), (3, .inl a3)]) (q := 20) dX11_hardest_18 rfl (by decide) rfl ?_
      refine sm_pick [1, 2, 3, 4, 0] rfl ?_
      exact w_X11_hardest_20 N R (fun z0 z1 z2 z3 J => f_X11_hardest_6 N R n z0 z1 z2 z3 J) (fun z0 z1 z2 z3 J y h => ih z0 z1 z2 z3 J y h) N _ _ _ _ _ _ _ h
set_option maxHeartbeats 4000000 in
set_option maxRecDepth 100000 in
theorem w_X11_hardest {l : Launch} (N : Nat) (R : Nat → Nat → Nat) : ∀ (a0 : Nat) (I : (Nat → Nat → Int32)) (y : (Int32 × (Nat → Nat → Int32))), f_X11_hardest N R a0 I = some y → sm_W l 1 mX11_hardest 0 [(0, .inr (.inl a0))] [] (I, R) (.inl (some (.inl y.1))) (y.2, R) := by
  intro a0 I y h
  unfold f_X11_hardest at h
  refine sm_iconst (v := -1) (q := 1) dX11_hardest_0 rfl (by decide) ?_
  refine sm_istore_n (L' := [(1, .inl (-1 : Int32)), (0, .inr (.inl a0))]) (q := 2) dX11_hardest_1 rfl rfl (by decide) rfl ?_
  refine sm_iconst (v := 0) (q := 3) dX11_hardest_2 rfl (by decide) ?_
  refine sm_istore_n (L' := [(2, .inl (0 : Int32)), (1, .inl (-1 : Int32)), (0, .inr (.inl a0))]) (q := 4) dX11_hardest_3 rfl rfl (by decide) rfl ?_
  refine sm_iconst (v := 0) (q := 5) dX11_hardest_4 rfl (by decide) ?_
  refine sm_istore_n (L' := [(3, .inl (0 : Int32)), (2, .inl (0 : Int32)), (1, .inl (-1 : Int32)), (0, .inr (.inl a0))]) (q := 6) dX11_hardest_5 rfl rfl (by decide) rfl ?_
  refine sm_pick [3, 2, 1, 0] rfl ?_
  exact w_X11_hardest_6 N R N _ _ _ _ _ _ h
theorem e_X11_hardest {l : Launch} {N : Nat} {R : Nat → Nat → Nat} {a0 : Nat} {I : (Nat → Nat → Int32)} {y : (Int32 × (Nat → Nat → Int32))} (h : f_X11_hardest N R a0 I = some y) : sm_E l 1 mX11_hardest [.inr (.inl a0)] (I, R) (.inl (some (.inl y.1))) (y.2, R) :=
  sm_meth (by decide) (Nat.le_of_ble_eq_true rfl) (w_X11_hardest N R a0 I y h)
def f_X11_playAhead_78 (N : Nat) (R : Nat → Nat → Nat) (k_22 : Nat → Int32 → Int32 → Int32 → Int32 → Int32 → (Nat → Nat → Int32) → Option (Int32 × (Nat → Nat → Int32))) : Nat → Int32 → Int32 → Int32 → Int32 → Int32 → Int32 → (Nat → Nat → Int32) → Option (Int32 × (Nat → Nat → Int32)) := fun a0 a1 a2 a3 a4 a5 b0 I =>
  if b0 = 0 then (
    k_22 a0 a1 a2 a3 a4 (a5 + 1) I)
  else (
    if ((a2 >>> (a5 &&& 31)) &&& (1 : Int32)) = (1 : Int32) then (
      k_22 a0 a1 a2 a3 (a4 + 1) (a5 + 1) I)
    else (
      k_22 a0 a1 a2 a3 a4 (a5 + 1) I))
def f_X11_playAhead_22 (N : Nat) (R : Nat → Nat → Nat) : Nat → Nat → Int32 → Int32 → Int32 → Int32 → Int32 → (Nat → Nat → Int32) → Option (Int32 × (Nat → Nat → Int32))
  | 0, _, _, _, _, _, _, _ => none
  | n + 1, a0, a1, a2, a3, a4, a5, I =>
    sm_gd (sm_kd a0 = (11, 16)) <|
    sm_gd (sm_kd (R a0 3) = (7, 9)) <|
    sm_gd (sm_kd (R (R a0 3) 5) = (10, 4)) <|
    if (I (R (R a0 3) 5) 1) ≤ a5 then (
      some (a4, I))
    else (
      sm_gd ((sm_kd (R (R (R a0 3) 5) 0)).1 = 16 ∧ ¬ (a5 < 0 ∨ (sm_kd (R (R (R a0 3) 5) 0)).2 ≤ (a5).toNatClampNeg)) <|
      sm_gd (sm_kd (R (R (R (R a0 3) 5) 0) (a5).toNatClampNeg) = (4, 6)) <|
      if (I (R (R (R (R a0 3) 5) 0) (a5).toNatClampNeg) 0) < a3 then (
        f_X11_playAhead_78 N R (fun z0 z1 z2 z3 z4 z5 J => f_X11_playAhead_22 N R n z0 z1 z2 z3 z4 z5 J) a0 a1 a2 a3 a4 a5 (1 : Int32) I)
      else (
        if (I (R (R (R (R a0 3) 5) 0) (a5).toNatClampNeg) 0) = a3 then (
          if a1 ≤ a5 then (
            f_X11_playAhead_78 N R (fun z0 z1 z2 z3 z4 z5 J => f_X11_playAhead_22 N R n z0 z1 z2 z3 z4 z5 J) a0 a1 a2 a3 a4 a5 (0 : Int32) I)
          else (
            f_X11_playAhead_78 N R (fun z0 z1 z2 z3 z4 z5 J => f_X11_playAhead_22 N R n z0 z1 z2 z3 z4 z5 J) a0 a1 a2 a3 a4 a5 (1 : Int32) I))
        else (
          f_X11_playAhead_78 N R (fun z0 z1 z2 z3 z4 z5 J => f_X11_playAhead_22 N R n z0 z1 z2 z3 z4 z5 J) a0 a1 a2 a3 a4 a5 (0 : Int32) I)))
def f_X11_playAhead (N : Nat) (R : Nat → Nat → Nat) : Nat → Int32 → Int32 → (Nat → Nat → Int32) → Option (Int32 × (Nat → Nat → Int32)) := fun a0 a1 a2 I =>
  sm_gd (sm_kd a0 = (11, 16)) <|
  sm_gd (sm_kd (R a0 3) = (7, 9)) <|
  sm_gd (sm_kd (R (R a0 3) 5) = (10, 4)) <|
  sm_gd ((sm_kd (R (R (R a0 3) 5) 0)).1 = 16 ∧ ¬ (a1 < 0 ∨ (sm_kd (R (R (R a0 3) 5) 0)).2 ≤ (a1).toNatClampNeg)) <|
  sm_gd (sm_kd (R (R (R (R a0 3) 5) 0) (a1).toNatClampNeg) = (4, 6)) <|
  f_X11_playAhead_22 N R N a0 a1 a2 (I (R (R (R (R a0 3) 5) 0) (a1).toNatClampNeg) 0) (0 : Int32) (0 : Int32) I
set_option maxHeartbeats 4000000 in
set_option maxRecDepth 100000 in
theorem w_X11_playAhead_78 {l : Launch} (N : Nat) (R : Nat → Nat → Nat) (k_22 : Nat → Int32 → Int32 → Int32 → Int32 → Int32 → (Nat → Nat → Int32) → Option (Int32 × (Nat → Nat → Int32))) (hk_22 : ∀ (a0 : Nat) (a1 : Int32) (a2 : Int32) (a3 : Int32) (a4 : Int32) (a5 : Int32) (I : (Nat → Nat → Int32)) (y : (Int32 × (Nat → Nat → Int32))), k_22 a0 a1 a2 a3 a4 a5 I = some y → sm_W l 0 mX11_playAhead 22 [(0, .inr (.inl a0)), (1, .inl a1), (2, .inl a2), (3, .inl a3), (4, .inl a4), (5, .inl a5)] [] (I, R) (.inl (some (.inl y.1))) (y.2, R)) : ∀ (a0 : Nat) (a1 : Int32) (a2 : Int32) (a3 : Int32) (a4 : Int32) (a5 : Int32) (b0 : Int32) (I : (Nat → Nat → Int32)) (y : (Int32 × (Nat → Nat → Int32))), f_X11_playAhead_78 N R k_22 a0 a1 a2 a3 a4 a5 b0 I = some y → sm_W l 0 mX11_playAhead 78 [(0, .inr (.inl a0)), (1, .inl a1), (2, .inl a2), (3, .inl a3), (4, .inl a4), (5, .inl a5)] [.inl b0] (I, R) (.inl (some (.inl y.1))) (y.2, R) := by
  intro a0 a1 a2 a3 a4 a5 b0 I y h
  unfold f_X11_playAhead_78 at h
  refine sm_istore (L' := [(7, .inl b0), (0, .inr (.inl a0)), (1, .inl a1), (2, .inl a2), (3, .inl a3), (4, .inl a4), (5, .inl a5)]) (q := 80) dX11_playAhead_78 rfl (by decide) rfl ?_
  refine sm_iload (q := 82) dX11_playAhead_80 rfl 0 rfl ?_
  rcases sm_if_e h with ⟨hb1, h⟩ | ⟨hb1, h⟩
  · refine sm_if_eq (tgt := 98) (q := 85) dX11_playAhead_82 (by decide) rfl (fun _ => ?_) (fun hn => absurd hb1 hn)
    refine sm_iinc (v := (a5 + 1)) (L' := [(5, .inl (a5 + 1)), (7, .inl b0), (0, .inr (.inl a0)), (1, .inl a1), (2, .inl a2), (3, .inl a3), (4, .inl a4)]) (q := 101) dX11_playAhead_98 rfl 6 rfl rfl (by decide) rfl ?_
    refine sm_goto (q := 22) dX11_playAhead_101 (by decide) ?_
    refine sm_pick [2, 3, 4, 5, 6, 0] rfl ?_
    exact hk_22 _ _ _ _ _ _ _ _ h
  · refine sm_if_eq (tgt := 98) (q := 85) dX11_playAhead_82 (by decide) rfl (fun ht => absurd ht hb1) (fun _ => ?_)
    refine sm_iload_n (q := 86) dX11_playAhead_85 rfl rfl 3 rfl ?_
    refine sm_iload (q := 88) dX11_playAhead_86 rfl 6 rfl ?_
    refine sm_ishr (q := 89) dX11_playAhead_88 rfl ?_
    refine sm_iconst (v := 1) (q := 90) dX11_playAhead_89 rfl (by decide) ?_
    refine sm_iand (q := 91) dX11_playAhead_90 rfl ?_
    refine sm_iconst (v := 1) (q := 92) dX11_playAhead_91 rfl (by decide) ?_
    rcases sm_if_e h with ⟨hb2, h⟩ | ⟨hb2, h⟩
    · refine sm_icmp_ne (tgt := 98) (q := 95) dX11_playAhead_92 (by decide) rfl (fun hn => absurd hb2 hn) (fun _ => ?_)
      refine sm_iinc (v := (a4 + 1)) (L' := [(4, .inl (a4 + 1)), (7, .inl b0), (0, .inr (.inl a0)), (1, .inl a1), (2, .inl a2), (3, .inl a3), (5, .inl a5)]) (q := 98) dX11_playAhead_95 rfl 5 rfl rfl (by decide) rfl ?_
      refine sm_iinc (v := (a5 + 1)) (L' := [(5, .inl (a5 + 1)), (4, .inl (a4 + 1)), (7, .inl b0), (0, .inr (.inl a0)), (1, .inl a1), (2, .inl a2), (3, .inl a3)]) (q := 101) dX11_playAhead_98 rfl 6 rfl rfl (by decide) rfl ?_
      refine sm_goto (q := 22) dX11_playAhead_101 (by decide) ?_
      refine sm_pick [3, 4, 5, 6, 1, 0] rfl ?_
      exact hk_22 _ _ _ _ _ _ _ _ h
    · refine sm_icmp_ne (tgt := 98) (q := 95) dX11_playAhead_92 (by decide) rfl (fun _ => ?_) (fun he => absurd he hb2)
      refine sm_iinc (v := (a5 + 1)) (L' := [(5, .inl (a5 + 1)), (7, .inl b0), (0, .inr (.inl a0)), (1, .inl a1), (2, .inl a2), (3, .inl a3), (4, .inl a4)]) (q := 101) dX11_playAhead_98 rfl 6 rfl rfl (by decide) rfl ?_
      refine sm_goto (q := 22) dX11_playAhead_101 (by decide) ?_
      refine sm_pick [2, 3, 4, 5, 6, 0] rfl ?_
      exact hk_22 _ _ _ _ _ _ _ _ h
set_option maxHeartbeats 4000000 in
set_option maxRecDepth 100000 in
theorem w_X11_playAhead_22 {l : Launch} (N : Nat) (R : Nat → Nat → Nat) : ∀ (n : Nat) (a0 : Nat) (a1 : Int32) (a2 : Int32) (a3 : Int32) (a4 : Int32) (a5 : Int32) (I : (Nat → Nat → Int32)) (y : (Int32 × (Nat → Nat → Int32))), f_X11_playAhead_22 N R n a0 a1 a2 a3 a4 a5 I = some y → sm_W l 0 mX11_playAhead 22 [(0, .inr (.inl a0)), (1, .inl a1), (2, .inl a2), (3, .inl a3), (4, .inl a4), (5, .inl a5)] [] (I, R) (.inl (some (.inl y.1))) (y.2, R) := by
  intro n
  induction n with
  | zero => intro a0 a1 a2 a3 a4 a5 I y h; cases h
  | succ n ih =>
    intro a0 a1 a2 a3 a4 a5 I y h
    rw [f_X11_playAhead_22] at h
    refine sm_iload (q := 24) dX11_playAhead_22 rfl 5 rfl ?_
    refine sm_aload_n (q := 25) dX11_playAhead_24 rfl rfl 0 rfl ?_
    obtain ⟨hc1, h⟩ := sm_gd_e h
    refine sm_getR (r := R a0 3) (q := 28) dX11_playAhead_25 rfl fk_X11_23 hc1 (by decide) (by decide) rfl ?_
    obtain ⟨hc2, h⟩ := sm_gd_e h
    refine sm_getR (r := R (R a0 3) 5) (q := 31) dX11_playAhead_28 rfl fk_X11_132 hc2 (by decide) (by decide) rfl ?_
    obtain ⟨hc3, h⟩ := sm_gd_e h
    refine sm_getI (q := 34) dX11_playAhead_31 rfl fk_X11_135 hc3 (by decide) (by decide) ?_
    rcases sm_if_e h with ⟨hb4, h⟩ | ⟨hb4, h⟩
    · refine sm_icmp_ge (tgt := 104) (q := 37) dX11_playAhead_34 (by decide) rfl (fun _ => ?_) (fun hn => absurd hb4 hn)
      refine sm_iload (q := 106) dX11_playAhead_104 rfl 4 rfl ?_
      obtain rfl := Option.some.inj h
      exact sm_iret dX11_playAhead_106 rfl
    · refine sm_icmp_ge (tgt := 104) (q := 37) dX11_playAhead_34 (by decide) rfl (fun ht => absurd ht hb4) (fun _ => ?_)
      refine sm_aload_n (q := 38) dX11_playAhead_37 rfl rfl 0 rfl ?_
      refine sm_getR (r := R a0 3) (q := 41) dX11_playAhead_38 rfl fk_X11_23 hc1 (by decide) (by decide) rfl ?_
      refine sm_getR (r := R (R a0 3) 5) (q := 44) dX11_playAhead_41 rfl fk_X11_132 hc2 (by decide) (by decide) rfl ?_
      refine sm_getR (r := R (R (R a0 3) 5) 0) (q := 47) dX11_playAhead_44 rfl fk_X11_165 hc3 (by decide) (by decide) rfl ?_
      refine sm_iload (q := 49) dX11_playAhead_47 rfl 5 rfl ?_
      obtain ⟨hc5, h⟩ := sm_gd_e h
      refine sm_aald (t := 3) (n := (sm_kd (R (R (R a0 3) 5) 0)).2) (q := 50) dX11_playAhead_49 rfl (Prod.ext hc5.1 rfl) (Or.inl ⟨rfl, rfl⟩) hc5.2 rfl ?_
      obtain ⟨hc6, h⟩ := sm_gd_e h
      refine sm_getI (q := 53) dX11_playAhead_50 rfl fk_X11_197 hc6 (by decide) (by decide) ?_
      refine sm_istore (L' := [(6, .inl (I (R (R (R (R a0 3) 5) 0) (a5).toNatClampNeg) 0)), (0, .inr (.inl a0)), (1, .inl a1), (2, .inl a2), (3, .inl a3), (4, .inl a4), (5, .inl a5)]) (q := 55) dX11_playAhead_53 rfl (by decide) rfl ?_
      refine sm_iload (q := 57) dX11_playAhead_55 rfl 0 rfl ?_
      refine sm_iload_n (q := 58) dX11_playAhead_57 rfl rfl 4 rfl ?_
      rcases sm_if_e h with ⟨hb7, h⟩ | ⟨hb7, h⟩
      · refine sm_icmp_lt (tgt := 73) (q := 61) dX11_playAhead_58 (by decide) rfl (fun _ => ?_) (fun hn => absurd hb7 hn)
        refine sm_iconst (v := 1) (q := 74) dX11_playAhead_73 rfl (by decide) ?_
        refine sm_goto (q := 78) dX11_playAhead_74 (by decide) ?_
        refine sm_pick [1, 2, 3, 4, 5, 6] rfl ?_
        exact w_X11_playAhead_78 N R (fun z0 z1 z2 z3 z4 z5 J => f_X11_playAhead_22 N R n z0 z1 z2 z3 z4 z5 J) (fun z0 z1 z2 z3 z4 z5 J y h => ih z0 z1 z2 z3 z4 z5 J y h) _ _ _ _ _ _ _ _ _ h
      · refine sm_icmp_lt (tgt := 73) (q := 61) dX11_playAhead_58 (by decide) rfl (fun ht => absurd ht hb7) (fun _ => ?_)
        refine sm_iload (q := 63) dX11_playAhead_61 rfl 0 rfl ?_
        refine sm_iload_n (q := 64) dX11_playAhead_63 rfl rfl 4 rfl ?_
        rcases sm_if_e h with ⟨hb8, h⟩ | ⟨hb8, h⟩
        · refine sm_icmp_ne (tgt := 77) (q := 67) dX11_playAhead_64 (by decide) rfl (fun hn => absurd hb8 hn) (fun _ => ?_)
          refine sm_iload (q := 69) dX11_playAhead_67 rfl 6 rfl ?_
          refine sm_iload_n (q := 70) dX11_playAhead_69 rfl rfl 2 rfl ?_
          rcases sm_if_e h with ⟨hb9, h⟩ | ⟨hb9, h⟩
          · refine sm_icmp_ge (tgt := 77) (q := 73) dX11_playAhead_70 (by decide) rfl (fun _ => ?_) (fun hn => absurd hb9 hn)
            refine sm_iconst (v := 0) (q := 78) dX11_playAhead_77 rfl (by decide) ?_
            refine sm_pick [1, 2, 3, 4, 5, 6] rfl ?_
            exact w_X11_playAhead_78 N R (fun z0 z1 z2 z3 z4 z5 J => f_X11_playAhead_22 N R n z0 z1 z2 z3 z4 z5 J) (fun z0 z1 z2 z3 z4 z5 J y h => ih z0 z1 z2 z3 z4 z5 J y h) _ _ _ _ _ _ _ _ _ h
          · refine sm_icmp_ge (tgt := 77) (q := 73) dX11_playAhead_70 (by decide) rfl (fun ht => absurd ht hb9) (fun _ => ?_)
            refine sm_iconst (v := 1) (q := 74) dX11_playAhead_73 rfl (by decide) ?_
            refine sm_goto (q := 78) dX11_playAhead_74 (by decide) ?_
            refine sm_pick [1, 2, 3, 4, 5, 6] rfl ?_
            exact w_X11_playAhead_78 N R (fun z0 z1 z2 z3 z4 z5 J => f_X11_playAhead_22 N R n z0 z1 z2 z3 z4 z5 J) (fun z0 z1 z2 z3 z4 z5 J y h => ih z0 z1 z2 z3 z4 z5 J y h) _ _ _ _ _ _ _ _ _ h
        · refine sm_icmp_ne (tgt := 77) (q := 67) dX11_playAhead_64 (by decide) rfl (fun _ => ?_) (fun he => absurd he hb8)
          refine sm_iconst (v := 0) (q := 78) dX11_playAhead_77 rfl (by decide) ?_
          refine sm_pick [1, 2, 3, 4, 5, 6] rfl ?_
          exact w_X11_playAhead_78 N R (fun z0 z1 z2 z3 z4 z5 J => f_X11_playAhead_22 N R n z0 z1 z2 z3 z4 z5 J) (fun z0 z1 z2 z3 z4 z5 J y h => ih z0 z1 z2 z3 z4 z5 J y h) _ _ _ _ _ _ _ _ _ h
set_option maxHeartbeats 4000000 in
set_option maxRecDepth 100000 in
theorem w_X11_playAhead {l : Launch} (N : Nat) (R : Nat → Nat → Nat) : ∀ (a0 : Nat) (a1 : Int32) (a2 : Int32) (I : (Nat → Nat → Int32)) (y : (Int32 × (Nat → Nat → Int32))), f_X11_playAhead N R a0 a1 a2 I = some y → sm_W l 0 mX11_playAhead 0 [(0, .inr (.inl a0)), (1, .inl a1), (2, .inl a2)] [] (I, R) (.inl (some (.inl y.1))) (y.2, R) := by
  intro a0 a1 a2 I y h
  unfold f_X11_playAhead at h
  refine sm_aload_n (q := 1) dX11_playAhead_0 rfl rfl 0 rfl ?_
  obtain ⟨hc1, h⟩ := sm_gd_e h
  refine sm_getR (r := R a0 3) (q := 4) dX11_playAhead_1 rfl fk_X11_23 hc1 (by decide) (by decide) rfl ?_
  obtain ⟨hc2, h⟩ := sm_gd_e h
  refine sm_getR (r := R (R a0 3) 5) (q := 7) dX11_playAhead_4 rfl fk_X11_132 hc2 (by decide) (by decide) rfl ?_
  obtain ⟨hc3, h⟩ := sm_gd_e h
  refine sm_getR (r := R (R (R a0 3) 5) 0) (q := 10) dX11_playAhead_7 rfl fk_X11_165 hc3 (by decide) (by decide) rfl ?_
  refine sm_iload_n (q := 11) dX11_playAhead_10 rfl rfl 1 rfl ?_
  obtain ⟨hc4, h⟩ := sm_gd_e h
  refine sm_aald (t := 3) (n := (sm_kd (R (R (R a0 3) 5) 0)).2) (q := 12) dX11_playAhead_11 rfl (Prod.ext hc4.1 rfl) (Or.inl ⟨rfl, rfl⟩) hc4.2 rfl ?_
  obtain ⟨hc5, h⟩ := sm_gd_e h
  refine sm_getI (q := 15) dX11_playAhead_12 rfl fk_X11_197 hc5 (by decide) (by decide) ?_
  refine sm_istore_n (L' := [(3, .inl (I (R (R (R (R a0 3) 5) 0) (a1).toNatClampNeg) 0)), (0, .inr (.inl a0)), (1, .inl a1), (2, .inl a2)]) (q := 16) dX11_playAhead_15 rfl rfl (by decide) rfl ?_
  refine sm_iconst (v := 0) (q := 17) dX11_playAhead_16 rfl (by decide) ?_
  refine sm_istore (L' := [(4, .inl (0 : Int32)), (3, .inl (I (R (R (R (R a0 3) 5) 0) (a1).toNatClampNeg) 0)), (0, .inr (.inl a0)), (1, .inl a1), (2, .inl a2)]) (q := 19) dX11_playAhead_17 rfl (by decide) rfl ?_
  refine sm_iconst (v := 0) (q := 20) dX11_playAhead_19 rfl (by decide) ?_
  refine sm_istore (L' := [(5, .inl (0 : Int32)), (4, .inl (0 : Int32)), (3, .inl (I (R (R (R (R a0 3) 5) 0) (a1).toNatClampNeg) 0)), (0, .inr (.inl a0)), (1, .inl a1), (2, .inl a2)]) (q := 22) dX11_playAhead_20 rfl (by decide) rfl ?_
  refine sm_pick [3, 4, 5, 2, 1, 0] rfl ?_
  exact w_X11_playAhead_22 N R N _ _ _ _ _ _ _ _ h
theorem e_X11_playAhead {l : Launch} {N : Nat} {R : Nat → Nat → Nat} {a0 : Nat} {a1 : Int32} {a2 : Int32} {I : (Nat → Nat → Int32)} {y : (Int32 × (Nat → Nat → Int32))} (h : f_X11_playAhead N R a0 a1 a2 I = some y) : sm_E l 0 mX11_playAhead [.inr (.inl a0), .inl a1, .inl a2] (I, R) (.inl (some (.inl y.1))) (y.2, R) :=
  sm_meth (by decide) (Nat.le_of_ble_eq_true rfl) (w_X11_playAhead N R a0 a1 a2 I y h)
def f_X11_concert_53 (N : Nat) (R : Nat → Nat → Nat) : Nat → Nat → Int32 → Int32 → Int32 → (Nat → Nat → Int32) → Option ((Int32 ⊕ String) × (Nat → Nat → Int32))
  | 0, _, _, _, _, _ => none
  | n + 1, a0, a2, a3, a4, I =>
    sm_gd (sm_kd a0 = (11, 16)) <|
    sm_gd (sm_kd (R a0 3) = (7, 9)) <|
    sm_gd (sm_kd (R (R a0 3) 5) = (10, 4)) <|
    if (I (R (R a0 3) 5) 1) ≤ a4 then (
      some (.inl (-1 : Int32), I))
    else (
      if ((a3 >>> (a4 &&& 31)) &&& (1 : Int32)) = (1 : Int32) then (
        (f_X11_playAhead N R a0 a4 a3 I).bind fun p6 =>
        if p6.1 = a2 then (
          some (.inl a4, p6.2))
        else (
          f_X11_concert_53 N R n a0 a2 a3 (a4 + 1) p6.2))
      else (
        f_X11_concert_53 N R n a0 a2 a3 (a4 + 1) I))
def f_X11_concert (N : Nat) (R : Nat → Nat → Nat) : Nat → Int32 → Int32 → (Nat → Nat → Int32) → Option ((Int32 ⊕ String) × (Nat → Nat → Int32)) := fun a0 a1 a2 I =>
  if a2 < 0 then (
    some (.inr "java/lang/IllegalArgumentException", I))
  else (
    if a1 < 0 then (
      some (.inr "java/lang/IllegalArgumentException", I))
    else (
      if a1 ≤ (1 : Int32) then (
        if a1 = 0 then (
          sm_gd (sm_kd a0 = (11, 16)) <|
          (f_X11_whoseIsDone N R a0 I).bind fun p6 =>
          f_X11_concert_53 N R N a0 a2 p6.1 (0 : Int32) p6.2)
        else (
          sm_gd (sm_kd a0 = (11, 16)) <|
          sm_gd (sm_kd (R a0 3) = (7, 9)) <|
          sm_gd (sm_kd (R (R a0 3) 5) = (10, 4)) <|
          f_X11_concert_53 N R N a0 a2 (((1 : Int32) <<< ((I (R (R a0 3) 5) 1) &&& 31)) - (1 : Int32)) (0 : Int32) I))
      else (
        some (.inr "java/lang/IllegalArgumentException", I))))
set_option maxHeartbeats 4000000 in
set_option maxRecDepth 100000 in
theorem w_X11_concert_53 {l : Launch} (hl : l.stackTraces = false) (N : Nat) (R : Nat → Nat → Nat) : ∀ (n : Nat) (a0 : Nat) (a2 : Int32) (a3 : Int32) (a4 : Int32) (I : (Nat → Nat → Int32)) (y : ((Int32 ⊕ String) × (Nat → Nat → Int32))), f_X11_concert_53 N R n a0 a2 a3 a4 I = some y → sm_W l 3 mX11_concert 53 [(0, .inr (.inl a0)), (2, .inl a2), (3, .inl a3), (4, .inl a4)] [] (I, R) (sm_oI y.1) (y.2, R) := by
  intro n
  induction n with
  | zero => intro a0 a2 a3 a4 I y h; cases h
  | succ n ih =>
    intro a0 a2 a3 a4 I y h
    rw [f_X11_concert_53] at h
    refine sm_iload (q := 55) dX11_concert_53 rfl 3 rfl ?_
    refine sm_aload_n (q := 56) dX11_concert_55 rfl rfl 0 rfl ?_
    obtain ⟨hc1, h⟩ := sm_gd_e h
    refine sm_getR (r := R a0 3) (q := 59) dX11_concert_56 rfl fk_X11_23 hc1 (by decide) (by decide) rfl ?_
    obtain ⟨hc2, h⟩ := sm_gd_e h
    refine sm_getR (r := R (R a0 3) 5) (q := 62) dX11_concert_59 rfl fk_X11_132 hc2 (by decide) (by decide) rfl ?_
    obtain ⟨hc3, h⟩ := sm_gd_e h
    refine sm_getI (q := 65) dX11_concert_62 rfl fk_X11_135 hc3 (by decide) (by decide) ?_
    rcases sm_if_e h with ⟨hb4, h⟩ | ⟨hb4, h⟩
    · refine sm_icmp_ge (tgt := 98) (q := 68) dX11_concert_65 (by decide) rfl (fun _ => ?_) (fun hn => absurd hb4 hn)
      refine sm_iconst (v := -1) (q := 99) dX11_concert_98 rfl (by decide) ?_
      obtain rfl := Option.some.inj h
      exact sm_iret dX11_concert_99 rfl
    · refine sm_icmp_ge (tgt := 98) (q := 68) dX11_concert_65 (by decide) rfl (fun ht => absurd ht hb4) (fun _ => ?_)
      refine sm_iload_n (q := 69) dX11_concert_68 rfl rfl 2 rfl ?_
      refine sm_iload (q := 71) dX11_concert_69 rfl 3 rfl ?_
      refine sm_ishr (q := 72) dX11_concert_71 rfl ?_
      refine sm_iconst (v := 1) (q := 73) dX11_concert_72 rfl (by decide) ?_
      refine sm_iand (q := 74) dX11_concert_73 rfl ?_
      refine sm_iconst (v := 1) (q := 75) dX11_concert_74 rfl (by decide) ?_
      rcases sm_if_e h with ⟨hb5, h⟩ | ⟨hb5, h⟩
      · refine sm_icmp_ne (tgt := 92) (q := 78) dX11_concert_75 (by decide) rfl (fun hn => absurd hb5 hn) (fun _ => ?_)
        refine sm_aload_n (q := 79) dX11_concert_78 rfl rfl 0 rfl ?_
        refine sm_iload (q := 81) dX11_concert_79 rfl 3 rfl ?_
        refine sm_iload_n (q := 82) dX11_concert_81 rfl rfl 2 rfl ?_
        obtain ⟨p6, hc_p6, h⟩ := sm_bd_e h
        refine sm_callVi (q := 85) (As := [.inl a4, .inl a3]) (S := []) (e_X11_playAhead hc_p6) mv_X11_302 hc1 rfl (by decide) (Nat.le_of_ble_eq_true rfl) dX11_concert_82 rfl ?_
        refine sm_iload_n (q := 86) dX11_concert_85 rfl rfl 1 rfl ?_
        rcases sm_if_e h with ⟨hb7, h⟩ | ⟨hb7, h⟩
        · refine sm_icmp_ne (tgt := 92) (q := 89) dX11_concert_86 (by decide) rfl (fun hn => absurd hb7 hn) (fun _ => ?_)
          refine sm_iload (q := 91) dX11_concert_89 rfl 3 rfl ?_
          obtain rfl := Option.some.inj h
          exact sm_iret dX11_concert_91 rfl
        · refine sm_icmp_ne (tgt := 92) (q := 89) dX11_concert_86 (by decide) rfl (fun _ => ?_) (fun he => absurd he hb7)
          refine sm_iinc (v := (a4 + 1)) (L' := [(4, .inl (a4 + 1)), (0, .inr (.inl a0)), (2, .inl a2), (3, .inl a3)]) (q := 95) dX11_concert_92 rfl 3 rfl rfl (by decide) rfl ?_
          refine sm_goto (q := 53) dX11_concert_95 (by decide) ?_
          refine sm_pick [1, 2, 3, 0] rfl ?_
          exact ih _ _ _ _ _ _ h
      · refine sm_icmp_ne (tgt := 92) (q := 78) dX11_concert_75 (by decide) rfl (fun _ => ?_) (fun he => absurd he hb5)
        refine sm_iinc (v := (a4 + 1)) (L' := [(4, .inl (a4 + 1)), (0, .inr (.inl a0)), (2, .inl a2), (3, .inl a3)]) (q := 95) dX11_concert_92 rfl 3 rfl rfl (by decide) rfl ?_
        refine sm_goto (q := 53) dX11_concert_95 (by decide) ?_
        refine sm_pick [1, 2, 3, 0] rfl ?_
        exact ih _ _ _ _ _ _ h
set_option maxHeartbeats 4000000 in
set_option maxRecDepth 100000 in
theorem w_X11_concert {l : Launch} (hl : l.stackTraces = false) (N : Nat) (R : Nat → Nat → Nat) : ∀ (a0 : Nat) (a1 : Int32) (a2 : Int32) (I : (Nat → Nat → Int32)) (y : ((Int32 ⊕ String) × (Nat → Nat → Int32))), f_X11_concert N R a0 a1 a2 I = some y → sm_W l 3 mX11_concert 0 [(0, .inr (.inl a0)), (1, .inl a1), (2, .inl a2)] [] (I, R) (sm_oI y.1) (y.2, R) := by
  intro a0 a1 a2 I y h
  unfold f_X11_concert at h
  refine sm_iload_n (q := 1) dX11_concert_0 rfl rfl 2 rfl ?_
  rcases sm_if_e h with ⟨hb1, h⟩ | ⟨hb1, h⟩
  · refine sm_if_lt (tgt := 13) (q := 4) dX11_concert_1 (by decide) rfl (fun _ => ?_) (fun hn => absurd hb1 hn)
    obtain rfl := Option.some.inj h
    exact sm_throwW (tx := "no such concert") (j := 24) hl (by decide +kernel) (by decide +kernel) (by decide +kernel) (by decide) bxI_0 bxI_1 bxI_2 bxI_5 cl_X11_104 in_IAE (List.mem_of_getElem? (i := 24) rfl) th_X11_108 tg_X11_104_108 (Nat.le_of_ble_eq_true rfl) dX11_concert_13 dX11_concert_16 dX11_concert_17 dX11_concert_20 dX11_concert_23
  · refine sm_if_lt (tgt := 13) (q := 4) dX11_concert_1 (by decide) rfl (fun ht => absurd ht hb1) (fun _ => ?_)
    refine sm_iload_n (q := 5) dX11_concert_4 rfl rfl 1 rfl ?_
    rcases sm_if_e h with ⟨hb2, h⟩ | ⟨hb2, h⟩
    · refine sm_if_lt (tgt := 13) (q := 8) dX11_concert_5 (by decide) rfl (fun _ => ?_) (fun hn => absurd hb2 hn)
      obtain rfl := Option.some.inj h
      exact sm_throwW (tx := "no such concert") (j := 24) hl (by decide +kernel) (by decide +kernel) (by decide +kernel) (by decide) bxI_0 bxI_1 bxI_2 bxI_5 cl_X11_104 in_IAE (List.mem_of_getElem? (i := 24) rfl) th_X11_108 tg_X11_104_108 (Nat.le_of_ble_eq_true rfl) dX11_concert_13 dX11_concert_16 dX11_concert_17 dX11_concert_20 dX11_concert_23
    · refine sm_if_lt (tgt := 13) (q := 8) dX11_concert_5 (by decide) rfl (fun ht => absurd ht hb2) (fun _ => ?_)
      refine sm_iload_n (q := 9) dX11_concert_8 rfl rfl 1 rfl ?_
      refine sm_iconst (v := 1) (q := 10) dX11_concert_9 rfl (by decide) ?_
      rcases sm_if_e h with ⟨hb3, h⟩ | ⟨hb3, h⟩
      · refine sm_icmp_le (tgt := 24) (q := 13) dX11_concert_10 (by decide) rfl (fun _ => ?_) (fun hn => absurd hb3 hn)
        refine sm_iload_n (q := 25) dX11_concert_24 rfl rfl 1 rfl ?_
        rcases sm_if_e h with ⟨hb4, h⟩ | ⟨hb4, h⟩
        · refine sm_if_ne (tgt := 35) (q := 28) dX11_concert_25 (by decide) rfl (fun hn => absurd hb4 hn) (fun _ => ?_)
          refine sm_aload_n (q := 29) dX11_concert_28 rfl rfl 0 rfl ?_
          obtain ⟨hc5, h⟩ := sm_gd_e h
          obtain ⟨p6, hc_p6, h⟩ := sm_bd_e h
          refine sm_callVi (q := 32) (As := []) (S := []) (e_X11_whoseIsDone hc_p6) mv_X11_148 hc5 rfl (by decide) (Nat.le_of_ble_eq_true rfl) dX11_concert_29 rfl ?_
          refine sm_goto (q := 49) dX11_concert_32 (by decide) ?_
          refine sm_istore_n (L' := [(3, .inl p6.1), (0, .inr (.inl a0)), (1, .inl a1), (2, .inl a2)]) (q := 50) dX11_concert_49 rfl rfl (by decide) rfl ?_
          refine sm_iconst (v := 0) (q := 51) dX11_concert_50 rfl (by decide) ?_
          refine sm_istore (L' := [(4, .inl (0 : Int32)), (3, .inl p6.1), (0, .inr (.inl a0)), (1, .inl a1), (2, .inl a2)]) (q := 53) dX11_concert_51 rfl (by decide) rfl ?_
          refine sm_pick [2, 4, 1, 0] rfl ?_
          exact w_X11_concert_53 hl N R N _ _ _ _ _ _ h
        · refine sm_if_ne (tgt := 35) (q := 28) dX11_concert_25 (by decide) rfl (fun _ => ?_) (fun he => absurd he hb4)
          refine sm_iconst (v := 1) (q := 36) dX11_concert_35 rfl (by decide) ?_
          refine sm_aload_n (q := 37) dX11_concert_36 rfl rfl 0 rfl ?_
          obtain ⟨hc7, h⟩ := sm_gd_e h
          refine sm_getR (r := R a0 3) (q := 40) dX11_concert_37 rfl fk_X11_23 hc7 (by decide) (by decide) rfl ?_
          obtain ⟨hc8, h⟩ := sm_gd_e h
          refine sm_getR (r := R (R a0 3) 5) (q := 43) dX11_concert_40 rfl fk_X11_132 hc8 (by decide) (by decide) rfl ?_
          obtain ⟨hc9, h⟩ := sm_gd_e h
          refine sm_getI (q := 46) dX11_concert_43 rfl fk_X11_135 hc9 (by decide) (by decide) ?_
          refine sm_ishl (q := 47) dX11_concert_46 rfl ?_
          refine sm_iconst (v := 1) (q := 48) dX11_concert_47 rfl (by decide) ?_
          refine sm_isub (q := 49) dX11_concert_48 rfl ?_
          refine sm_istore_n (L' := [(3, .inl (((1 : Int32) <<< ((I (R (R a0 3) 5) 1) &&& 31)) - (1 : Int32))), (0, .inr (.inl a0)), (1, .inl a1), (2, .inl a2)]) (q := 50) dX11_concert_49 rfl rfl (by decide) rfl ?_
          refine sm_iconst (v := 0) (q := 51) dX11_concert_50 rfl (by decide) ?_
          refine sm_istore (L' := [(4, .inl (0 : Int32)), (3, .inl (((1 : Int32) <<< ((I (R (R a0 3) 5) 1) &&& 31)) - (1 : Int32))), (0, .inr (.inl a0)), (1, .inl a1), (2, .inl a2)]) (q := 53) dX11_concert_51 rfl (by decide) rfl ?_
          refine sm_pick [2, 4, 1, 0] rfl ?_
          exact w_X11_concert_53 hl N R N _ _ _ _ _ _ h
      · refine sm_icmp_le (tgt := 24) (q := 13) dX11_concert_10 (by decide) rfl (fun ht => absurd ht hb3) (fun _ => ?_)
        obtain rfl := Option.some.inj h
        exact sm_throwW (tx := "no such concert") (j := 24) hl (by decide +kernel) (by decide +kernel) (by decide +kernel) (by decide) bxI_0 bxI_1 bxI_2 bxI_5 cl_X11_104 in_IAE (List.mem_of_getElem? (i := 24) rfl) th_X11_108 tg_X11_104_108 (Nat.le_of_ble_eq_true rfl) dX11_concert_13 dX11_concert_16 dX11_concert_17 dX11_concert_20 dX11_concert_23
theorem e_X11_concert {l : Launch} (hl : l.stackTraces = false) {N : Nat} {R : Nat → Nat → Nat} {a0 : Nat} {a1 : Int32} {a2 : Int32} {I : (Nat → Nat → Int32)} {y : ((Int32 ⊕ String) × (Nat → Nat → Int32))} (h : f_X11_concert N R a0 a1 a2 I = some y) : sm_E l 3 mX11_concert [.inr (.inl a0), .inl a1, .inl a2] (I, R) (sm_oI y.1) (y.2, R) :=
  sm_meth (by decide) (Nat.le_of_ble_eq_true rfl) (w_X11_concert hl N R a0 a1 a2 I y h)
theorem ek_X11_concert {l : Launch} (hl : l.stackTraces = false) {N : Nat} {R : Nat → Nat → Nat} {a0 : Nat} {a1 : Int32} {a2 : Int32} {I : (Nat → Nat → Int32)} {r : Int32} {J : (Nat → Nat → Int32)} (h : f_X11_concert N R a0 a1 a2 I = some (.inl r, J)) : sm_E l 3 mX11_concert [.inr (.inl a0), .inl a1, .inl a2] (I, R) (.inl (some (.inl r))) (J, R) := by
  have h1 := e_X11_concert (l := l) hl h
  exact h1
theorem ex_X11_concert {l : Launch} (hl : l.stackTraces = false) {N : Nat} {R : Nat → Nat → Nat} {a0 : Nat} {a1 : Int32} {a2 : Int32} {I : (Nat → Nat → Int32)} {E : String} {J : (Nat → Nat → Int32)} (h : f_X11_concert N R a0 a1 a2 I = some (.inr E, J)) : sm_E l 3 mX11_concert [.inr (.inl a0), .inl a1, .inl a2] (I, R) (.inr E) (J, R) := by
  have h1 := e_X11_concert (l := l) hl h
  exact h1
def f_X11_duet_26 (N : Nat) (R : Nat → Nat → Nat) (k_7 : Nat → Int32 → Int32 → Int32 → (Nat → Nat → Int32) → Option (Int32 × (Nat → Nat → Int32))) : Nat → Nat → Int32 → Int32 → Int32 → Int32 → (Nat → Nat → Int32) → Option (Int32 × (Nat → Nat → Int32))
  | 0, _, _, _, _, _, _ => none
  | n + 1, a0, a1, a2, a3, a4, I =>
    sm_gd (sm_kd a0 = (11, 16)) <|
    sm_gd (sm_kd (R a0 3) = (7, 9)) <|
    sm_gd (sm_kd (R (R a0 3) 5) = (10, 4)) <|
    if (I (R (R a0 3) 5) 1) ≤ a4 then (
      k_7 a0 a1 a2 (a3 + 1) I)
    else (
      sm_gd ((sm_kd (R (R (R a0 3) 5) 0)).1 = 16 ∧ ¬ (a3 < 0 ∨ (sm_kd (R (R (R a0 3) 5) 0)).2 ≤ (a3).toNatClampNeg)) <|
      sm_gd (sm_kd (R (R (R (R a0 3) 5) 0) (a3).toNatClampNeg) = (4, 6)) <|
      sm_gd ((sm_kd (R (R (R a0 3) 5) 0)).1 = 16 ∧ ¬ (a4 < 0 ∨ (sm_kd (R (R (R a0 3) 5) 0)).2 ≤ (a4).toNatClampNeg)) <|
      sm_gd (sm_kd (R (R (R (R a0 3) 5) 0) (a4).toNatClampNeg) = (4, 6)) <|
      if a2 ≤ (sm_ab ((I (R (R (R (R a0 3) 5) 0) (a3).toNatClampNeg) 0) - (I (R (R (R (R a0 3) 5) 0) (a4).toNatClampNeg) 0))) then (
        f_X11_duet_26 N R k_7 n a0 a1 a2 a3 (a4 + 1) I)
      else (
        f_X11_duet_26 N R k_7 n a0 (((10 : Int32) * a3) + a4) (sm_ab ((I (R (R (R (R a0 3) 5) 0) (a3).toNatClampNeg) 0) - (I (R (R (R (R a0 3) 5) 0) (a4).toNatClampNeg) 0))) a3 (a4 + 1) I))
def f_X11_duet_7 (N : Nat) (R : Nat → Nat → Nat) : Nat → Nat → Int32 → Int32 → Int32 → (Nat → Nat → Int32) → Option (Int32 × (Nat → Nat → Int32))
  | 0, _, _, _, _, _ => none
  | n + 1, a0, a1, a2, a3, I =>
    sm_gd (sm_kd a0 = (11, 16)) <|
    sm_gd (sm_kd (R a0 3) = (7, 9)) <|
    sm_gd (sm_kd (R (R a0 3) 5) = (10, 4)) <|
    if (I (R (R a0 3) 5) 1) ≤ a3 then (
      some (a1, I))
    else (
      f_X11_duet_26 N R (fun z0 z1 z2 z3 J => f_X11_duet_7 N R n z0 z1 z2 z3 J) N a0 a1 a2 a3 (a3 + (1 : Int32)) I)
def f_X11_duet (N : Nat) (R : Nat → Nat → Nat) : Nat → (Nat → Nat → Int32) → Option (Int32 × (Nat → Nat → Int32)) := fun a0 I =>
  f_X11_duet_7 N R N a0 (-1 : Int32) (100 : Int32) (0 : Int32) I
set_option maxHeartbeats 4000000 in
set_option maxRecDepth 100000 in
theorem w_X11_duet_26 {l : Launch} (N : Nat) (R : Nat → Nat → Nat) (k_7 : Nat → Int32 → Int32 → Int32 → (Nat → Nat → Int32) → Option (Int32 × (Nat → Nat → Int32))) (hk_7 : ∀ (a0 : Nat) (a1 : Int32) (a2 : Int32) (a3 : Int32) (I : (Nat → Nat → Int32)) (y : (Int32 × (Nat → Nat → Int32))), k_7 a0 a1 a2 a3 I = some y → sm_W l 0 mX11_duet 7 [(0, .inr (.inl a0)), (1, .inl a1), (2, .inl a2), (3, .inl a3)] [] (I, R) (.inl (some (.inl y.1))) (y.2, R)) : ∀ (n : Nat) (a0 : Nat) (a1 : Int32) (a2 : Int32) (a3 : Int32) (a4 : Int32) (I : (Nat → Nat → Int32)) (y : (Int32 × (Nat → Nat → Int32))), f_X11_duet_26 N R k_7 n a0 a1 a2 a3 a4 I = some y → sm_W l 0 mX11_duet 26 [(0, .inr (.inl a0)), (1, .inl a1), (2, .inl a2), (3, .inl a3), (4, .inl a4)] [] (I, R) (.inl (some (.inl y.1))) (y.2, R) := by
  intro n
  induction n with
  | zero => intro a0 a1 a2 a3 a4 I y h; cases h
  | succ n ih =>
    intro a0 a1 a2 a3 a4 I y h
    rw [f_X11_duet_26] at h
    refine sm_iload (q := 28) dX11_duet_26 rfl 4 rfl ?_
    refine sm_aload_n (q := 29) dX11_duet_28 rfl rfl 0 rfl ?_
    obtain ⟨hc1, h⟩ := sm_gd_e h
    refine sm_getR (r := R a0 3) (q := 32) dX11_duet_29 rfl fk_X11_23 hc1 (by decide) (by decide) rfl ?_
    obtain ⟨hc2, h⟩ := sm_gd_e h
    refine sm_getR (r := R (R a0 3) 5) (q := 35) dX11_duet_32 rfl fk_X11_132 hc2 (by decide) (by decide) rfl ?_
    obtain ⟨hc3, h⟩ := sm_gd_e h
    refine sm_getI (q := 38) dX11_duet_35 rfl fk_X11_135 hc3 (by decide) (by decide) ?_
    rcases sm_if_e h with ⟨hb4, h⟩ | ⟨hb4, h⟩
    · refine sm_icmp_ge (tgt := 101) (q := 41) dX11_duet_38 (by decide) rfl (fun _ => ?_) (fun hn => absurd hb4 hn)
      refine sm_iinc (v := (a3 + 1)) (L' := [(3, .inl (a3 + 1)), (0, .inr (.inl a0)), (1, .inl a1), (2, .inl a2), (4, .inl a4)]) (q := 104) dX11_duet_101 rfl 3 rfl rfl (by decide) rfl ?_
      refine sm_goto (q := 7) dX11_duet_104 (by decide) ?_
      refine sm_pick [1, 2, 3, 0] rfl ?_
      exact hk_7 _ _ _ _ _ _ h
    · refine sm_icmp_ge (tgt := 101) (q := 41) dX11_duet_38 (by decide) rfl (fun ht => absurd ht hb4) (fun _ => ?_)
      refine sm_aload_n (q := 42) dX11_duet_41 rfl rfl 0 rfl ?_
      refine sm_getR (r := R a0 3) (q := 45) dX11_duet_42 rfl fk_X11_23 hc1 (by decide) (by decide) rfl ?_
      refine sm_getR (r := R (R a0 3) 5) (q := 48) dX11_duet_45 rfl fk_X11_132 hc2 (by decide) (by decide) rfl ?_
      refine sm_getR (r := R (R (R a0 3) 5) 0) (q := 51) dX11_duet_48 rfl fk_X11_165 hc3 (by decide) (by decide) rfl ?_
      refine sm_iload_n (q := 52) dX11_duet_51 rfl rfl 3 rfl ?_
      obtain ⟨hc5, h⟩ := sm_gd_e h
      refine sm_aald (t := 3) (n := (sm_kd (R (R (R a0 3) 5) 0)).2) (q := 53) dX11_duet_52 rfl (Prod.ext hc5.1 rfl) (Or.inl ⟨rfl, rfl⟩) hc5.2 rfl ?_
      obtain ⟨hc6, h⟩ := sm_gd_e h
      refine sm_getI (q := 56) dX11_duet_53 rfl fk_X11_197 hc6 (by decide) (by decide) ?_
      refine sm_aload_n (q := 57) dX11_duet_56 rfl rfl 0 rfl ?_
      refine sm_getR (r := R a0 3) (q := 60) dX11_duet_57 rfl fk_X11_23 hc1 (by decide) (by decide) rfl ?_
      refine sm_getR (r := R (R a0 3) 5) (q := 63) dX11_duet_60 rfl fk_X11_132 hc2 (by decide) (by decide) rfl ?_
      refine sm_getR (r := R (R (R a0 3) 5) 0) (q := 66) dX11_duet_63 rfl fk_X11_165 hc3 (by decide) (by decide) rfl ?_
      refine sm_iload (q := 68) dX11_duet_66 rfl 4 rfl ?_
      obtain ⟨hc7, h⟩ := sm_gd_e h
      refine sm_aald (t := 3) (n := (sm_kd (R (R (R a0 3) 5) 0)).2) (q := 69) dX11_duet_68 rfl (Prod.ext hc7.1 rfl) (Or.inl ⟨rfl, rfl⟩) hc7.2 rfl ?_
      obtain ⟨hc8, h⟩ := sm_gd_e h
      refine sm_getI (q := 72) dX11_duet_69 rfl fk_X11_197 hc8 (by decide) (by decide) ?_
      refine sm_isub (q := 73) dX11_duet_72 rfl ?_
      refine sm_mma (q := 76) dX11_duet_73 rfl mm_X11_305 (Nat.le_of_ble_eq_true rfl) ?_
      refine sm_istore (L' := [(5, .inl (sm_ab ((I (R (R (R (R a0 3) 5) 0) (a3).toNatClampNeg) 0) - (I (R (R (R (R a0 3) 5) 0) (a4).toNatClampNeg) 0)))), (0, .inr (.inl a0)), (1, .inl a1), (2, .inl a2), (3, .inl a3), (4, .inl a4)]) (q := 78) dX11_duet_76 rfl (by decide) rfl ?_
      refine sm_iload (q := 80) dX11_duet_78 rfl 0 rfl ?_
      refine sm_iload_n (q := 81) dX11_duet_80 rfl rfl 3 rfl ?_
      rcases sm_if_e h with ⟨hb9, h⟩ | ⟨hb9, h⟩
      · refine sm_icmp_ge (tgt := 95) (q := 84) dX11_duet_81 (by decide) rfl (fun _ => ?_) (fun hn => absurd hb9 hn)
        refine sm_iinc (v := (a4 + 1)) (L' := [(4, .inl (a4 + 1)), (5, .inl (sm_ab ((I (R (R (R (R a0 3) 5) 0) (a3).toNatClampNeg) 0) - (I (R (R (R (R a0 3) 5) 0) (a4).toNatClampNeg) 0)))), (0, .inr (.inl a0)), (1, .inl a1), (2, .inl a2), (3, .inl a3)]) (q := 98) dX11_duet_95 rfl 5 rfl rfl (by decide) rfl ?_
        refine sm_goto (q := 26) dX11_duet_98 (by decide) ?_
        refine sm_pick [2, 3, 4, 5, 0] rfl ?_
        exact ih _ _ _ _ _ _ _ h
      · refine sm_icmp_ge (tgt := 95) (q := 84) dX11_duet_81 (by decide) rfl (fun ht => absurd ht hb9) (fun _ => ?_)
        refine sm_iload (q := 86) dX11_duet_84 rfl 0 rfl ?_
        refine sm_istore_n (L' := [(2, .inl (sm_ab ((I (R (R (R (R a0 3) 5) 0) (a3).toNatClampNeg) 0) - (I (R (R (R (R a0 3) 5) 0) (a4).toNatClampNeg) 0)))), (5, .inl (sm_ab ((I (R (R (R (R a0 3) 5) 0) (a3).toNatClampNeg) 0) - (I (R (R (R (R a0 3) 5) 0) (a4).toNatClampNeg) 0)))), (0, .inr (.inl a0)), (1, .inl a1), (3, .inl a3), (4, .inl a4)]) (q := 87) dX11_duet_86 rfl rfl (by decide) rfl ?_
        refine sm_bipush (v := 10) (q := 89) dX11_duet_87 rfl (by decide) ?_
        refine sm_iload_n (q := 90) dX11_duet_89 rfl rfl 4 rfl ?_
        refine sm_imul (q := 91) dX11_duet_90 rfl ?_
        refine sm_iload (q := 93) dX11_duet_91 rfl 5 rfl ?_
        refine sm_iadd (q := 94) dX11_duet_93 rfl ?_
        refine sm_istore_n (L' := [(1, .inl (((10 : Int32) * a3) + a4)), (2, .inl (sm_ab ((I (R (R (R (R a0 3) 5) 0) (a3).toNatClampNeg) 0) - (I (R (R (R (R a0 3) 5) 0) (a4).toNatClampNeg) 0)))), (5, .inl (sm_ab ((I (R (R (R (R a0 3) 5) 0) (a3).toNatClampNeg) 0) - (I (R (R (R (R a0 3) 5) 0) (a4).toNatClampNeg) 0)))), (0, .inr (.inl a0)), (3, .inl a3), (4, .inl a4)]) (q := 95) dX11_duet_94 rfl rfl (by decide) rfl ?_
        refine sm_iinc (v := (a4 + 1)) (L' := [(4, .inl (a4 + 1)), (1, .inl (((10 : Int32) * a3) + a4)), (2, .inl (sm_ab ((I (R (R (R (R a0 3) 5) 0) (a3).toNatClampNeg) 0) - (I (R (R (R (R a0 3) 5) 0) (a4).toNatClampNeg) 0)))), (5, .inl (sm_ab ((I (R (R (R (R a0 3) 5) 0) (a3).toNatClampNeg) 0) - (I (R (R (R (R a0 3) 5) 0) (a4).toNatClampNeg) 0)))), (0, .inr (.inl a0)), (3, .inl a3)]) (q := 98) dX11_duet_95 rfl 5 rfl rfl (by decide) rfl ?_
        refine sm_goto (q := 26) dX11_duet_98 (by decide) ?_
        refine sm_pick [4, 1, 2, 5, 0] rfl ?_
        exact ih _ _ _ _ _ _ _ h
set_option maxHeartbeats 4000000 in
set_option maxRecDepth 100000 in
theorem w_X11_duet_7 {l : Launch} (N : Nat) (R : Nat → Nat → Nat) : ∀ (n : Nat) (a0 : Nat) (a1 : Int32) (a2 : Int32) (a3 : Int32) (I : (Nat → Nat → Int32)) (y : (Int32 × (Nat → Nat → Int32))), f_X11_duet_7 N R n a0 a1 a2 a3 I = some y → sm_W l 0 mX11_duet 7 [(0, .inr (.inl a0)), (1, .inl a1), (2, .inl a2), (3, .inl a3)] [] (I, R) (.inl (some (.inl y.1))) (y.2, R) := by
  intro n
  induction n with
  | zero => intro a0 a1 a2 a3 I y h; cases h
  | succ n ih =>
    intro a0 a1 a2 a3 I y h
    rw [f_X11_duet_7] at h
    refine sm_iload_n (q := 8) dX11_duet_7 rfl rfl 3 rfl ?_
    refine sm_aload_n (q := 9) dX11_duet_8 rfl rfl 0 rfl ?_
    obtain ⟨hc1, h⟩ := sm_gd_e h
    refine sm_getR (r := R a0 3) (q := 12) dX11_duet_9 rfl fk_X11_23 hc1 (by decide) (by decide) rfl ?_
    obtain ⟨hc2, h⟩ := sm_gd_e h
    refine sm_getR (r := R (R a0 3) 5) (q := 15) dX11_duet_12 rfl fk_X11_132 hc2 (by decide) (by decide) rfl ?_
    obtain ⟨hc3, h⟩ := sm_gd_e h
    refine sm_getI (q := 18) dX11_duet_15 rfl fk_X11_135 hc3 (by decide) (by decide) ?_
    rcases sm_if_e h with ⟨hb4, h⟩ | ⟨hb4, h⟩
    · refine sm_icmp_ge (tgt := 107) (q := 21) dX11_duet_18 (by decide) rfl (fun _ => ?_) (fun hn => absurd hb4 hn)
      refine sm_iload_n (q := 108) dX11_duet_107 rfl rfl 1 rfl ?_
      obtain rfl := Option.some.inj h
      exact sm_iret dX11_duet_108 rfl
    · refine sm_icmp_ge (tgt := 107) (q := 21) dX11_duet_18 (by decide) rfl (fun ht => absurd ht hb4) (fun _ => ?_)
      refine sm_iload_n (q := 22) dX11_duet_21 rfl rfl 3 rfl ?_
      refine sm_iconst (v := 1) (q := 23) dX11_duet_22 rfl (by decide) ?_
      refine sm_iadd (q := 24) dX11_duet_23 rfl ?_
      refine sm_istore (L' := [(4, .inl (a3 + (1 : Int32))), (0, .inr (.inl a0)), (1, .inl a1), (2, .inl a2), (3, .inl a3)]) (q := 26) dX11_duet_24 rfl (by decide) rfl ?_
      refine sm_pick [1, 2, 3, 4, 0] rfl ?_
      exact w_X11_duet_26 N R (fun z0 z1 z2 z3 J => f_X11_duet_7 N R n z0 z1 z2 z3 J) (fun z0 z1 z2 z3 J y h => ih z0 z1 z2 z3 J y h) N _ _ _ _ _ _ _ h
set_option maxHeartbeats 4000000 in
set_option maxRecDepth 100000 in
theorem w_X11_duet {l : Launch} (N : Nat) (R : Nat → Nat → Nat) : ∀ (a0 : Nat) (I : (Nat → Nat → Int32)) (y : (Int32 × (Nat → Nat → Int32))), f_X11_duet N R a0 I = some y → sm_W l 0 mX11_duet 0 [(0, .inr (.inl a0))] [] (I, R) (.inl (some (.inl y.1))) (y.2, R) := by
  intro a0 I y h
  unfold f_X11_duet at h
  refine sm_iconst (v := -1) (q := 1) dX11_duet_0 rfl (by decide) ?_
  refine sm_istore_n (L' := [(1, .inl (-1 : Int32)), (0, .inr (.inl a0))]) (q := 2) dX11_duet_1 rfl rfl (by decide) rfl ?_
  refine sm_bipush (v := 100) (q := 4) dX11_duet_2 rfl (by decide) ?_
  refine sm_istore_n (L' := [(2, .inl (100 : Int32)), (1, .inl (-1 : Int32)), (0, .inr (.inl a0))]) (q := 5) dX11_duet_4 rfl rfl (by decide) rfl ?_
  refine sm_iconst (v := 0) (q := 6) dX11_duet_5 rfl (by decide) ?_
  refine sm_istore_n (L' := [(3, .inl (0 : Int32)), (2, .inl (100 : Int32)), (1, .inl (-1 : Int32)), (0, .inr (.inl a0))]) (q := 7) dX11_duet_6 rfl rfl (by decide) rfl ?_
  refine sm_pick [3, 2, 1, 0] rfl ?_
  exact w_X11_duet_7 N R N _ _ _ _ _ _ h
theorem e_X11_duet {l : Launch} {N : Nat} {R : Nat → Nat → Nat} {a0 : Nat} {I : (Nat → Nat → Int32)} {y : (Int32 × (Nat → Nat → Int32))} (h : f_X11_duet N R a0 I = some y) : sm_E l 0 mX11_duet [.inr (.inl a0)] (I, R) (.inl (some (.inl y.1))) (y.2, R) :=
  sm_meth (by decide) (Nat.le_of_ble_eq_true rfl) (w_X11_duet N R a0 I y h)
def f_X11_next_16 (N : Nat) (R : Nat → Nat → Nat) : Nat → Nat → Nat → Int32 → (Nat → Nat → Int32) → Option ((Int32 ⊕ String) × (Nat → Nat → Int32))
  | 0, _, _, _, _ => none
  | n + 1, a0, a2, a3, I =>
    if (60 : Int32) < a3 then (
      some (.inl (-1 : Int32), I))
    else (
      sm_gd (sm_kd a0 = (11, 16)) <|
      sm_gd (sm_kd (R a0 3) = (7, 9)) <|
      (f_X7_passWeeks N R (R a0 3) (R a0 8) (1 : Int32) I).bind fun p4 =>
      sm_gd (sm_kd (R a0 8) = (4, 6)) <|
      sm_gd (sm_kd a2 = (4, 6)) <|
      if (p4.2 (R a0 8) 3) ≤ (p4.2 a2 3) then (
        f_X11_next_16 N R n a0 a2 (a3 + 1) p4.2)
      else (
        some (.inl a3, p4.2)))
def f_X11_next (N : Nat) (R : Nat → Nat → Nat) : Nat → Int32 → (Nat → Nat → Int32) → Option ((Int32 ⊕ String) × (Nat → Nat → Int32)) := fun a0 a1 I =>
  sm_gd (sm_kd a0 = (11, 16)) <|
  sm_tb (f_X11_needPupil N R a0 a1 I) fun r3 J4 =>
  sm_gd (sm_kd (R a0 8) = (4, 6)) <|
  (f_X4_become N R (R a0 8) r3 J4).bind fun p6 =>
  f_X11_next_16 N R N a0 r3 (1 : Int32) p6.2
set_option maxHeartbeats 4000000 in
set_option maxRecDepth 100000 in
theorem w_X11_next_16 {l : Launch} (hl : l.stackTraces = false) (N : Nat) (R : Nat → Nat → Nat) : ∀ (n : Nat) (a0 : Nat) (a2 : Nat) (a3 : Int32) (I : (Nat → Nat → Int32)) (y : ((Int32 ⊕ String) × (Nat → Nat → Int32))), f_X11_next_16 N R n a0 a2 a3 I = some y → sm_W l 4 mX11_next 16 [(0, .inr (.inl a0)), (2, .inr (.inl a2)), (3, .inl a3)] [] (I, R) (sm_oI y.1) (y.2, R) := by
  intro n
  induction n with
  | zero => intro a0 a2 a3 I y h; cases h
  | succ n ih =>
    intro a0 a2 a3 I y h
    rw [f_X11_next_16] at h
    refine sm_iload_n (q := 17) dX11_next_16 rfl rfl 2 rfl ?_
    refine sm_bipush (v := 60) (q := 19) dX11_next_17 rfl (by decide) ?_
    rcases sm_if_e h with ⟨hb1, h⟩ | ⟨hb1, h⟩
    · refine sm_icmp_gt (tgt := 56) (q := 22) dX11_next_19 (by decide) rfl (fun _ => ?_) (fun hn => absurd hb1 hn)
      refine sm_iconst (v := -1) (q := 57) dX11_next_56 rfl (by decide) ?_
      obtain rfl := Option.some.inj h
      exact sm_iret dX11_next_57 rfl
    · refine sm_icmp_gt (tgt := 56) (q := 22) dX11_next_19 (by decide) rfl (fun ht => absurd ht hb1) (fun _ => ?_)
      refine sm_aload_n (q := 23) dX11_next_22 rfl rfl 0 rfl ?_
      obtain ⟨hc2, h⟩ := sm_gd_e h
      refine sm_getR (r := R a0 3) (q := 26) dX11_next_23 rfl fk_X11_23 hc2 (by decide) (by decide) rfl ?_
      refine sm_aload_n (q := 27) dX11_next_26 rfl rfl 0 rfl ?_
      refine sm_getR (r := R a0 8) (q := 30) dX11_next_27 rfl fk_X11_55 hc2 (by decide) (by decide) rfl ?_
      refine sm_iconst (v := 1) (q := 31) dX11_next_30 rfl (by decide) ?_
      obtain ⟨hc3, h⟩ := sm_gd_e h
      obtain ⟨p4, hc_p4, h⟩ := sm_bd_e h
      refine sm_callVv (q := 34) (As := [.inr (.inl (R a0 8)), .inl (1 : Int32)]) (S := []) (e_X7_passWeeks hc_p4) mv_X11_234 hc3 rfl (by decide) (Nat.le_of_ble_eq_true rfl) dX11_next_31 rfl ?_
      refine sm_aload_n (q := 35) dX11_next_34 rfl rfl 0 rfl ?_
      refine sm_getR (r := R a0 8) (q := 38) dX11_next_35 rfl fk_X11_55 hc2 (by decide) (by decide) rfl ?_
      obtain ⟨hc5, h⟩ := sm_gd_e h
      refine sm_getI (q := 41) dX11_next_38 rfl fk_X11_206 hc5 (by decide) (by decide) ?_
      refine sm_aload_n (q := 42) dX11_next_41 rfl rfl 1 rfl ?_
      obtain ⟨hc6, h⟩ := sm_gd_e h
      refine sm_getI (q := 45) dX11_next_42 rfl fk_X11_206 hc6 (by decide) (by decide) ?_
      rcases sm_if_e h with ⟨hb7, h⟩ | ⟨hb7, h⟩
      · refine sm_icmp_le (tgt := 50) (q := 48) dX11_next_45 (by decide) rfl (fun _ => ?_) (fun hn => absurd hb7 hn)
        refine sm_iinc (v := (a3 + 1)) (L' := [(3, .inl (a3 + 1)), (0, .inr (.inl a0)), (2, .inr (.inl a2))]) (q := 53) dX11_next_50 rfl 2 rfl rfl (by decide) rfl ?_
        refine sm_goto (q := 16) dX11_next_53 (by decide) ?_
        refine sm_pick [1, 2, 0] rfl ?_
        exact ih _ _ _ _ _ h
      · refine sm_icmp_le (tgt := 50) (q := 48) dX11_next_45 (by decide) rfl (fun ht => absurd ht hb7) (fun _ => ?_)
        refine sm_iload_n (q := 49) dX11_next_48 rfl rfl 2 rfl ?_
        obtain rfl := Option.some.inj h
        exact sm_iret dX11_next_49 rfl
set_option maxHeartbeats 4000000 in
set_option maxRecDepth 100000 in
theorem w_X11_next {l : Launch} (hl : l.stackTraces = false) (N : Nat) (R : Nat → Nat → Nat) : ∀ (a0 : Nat) (a1 : Int32) (I : (Nat → Nat → Int32)) (y : ((Int32 ⊕ String) × (Nat → Nat → Int32))), f_X11_next N R a0 a1 I = some y → sm_W l 4 mX11_next 0 [(0, .inr (.inl a0)), (1, .inl a1)] [] (I, R) (sm_oI y.1) (y.2, R) := by
  intro a0 a1 I y h
  unfold f_X11_next at h
  refine sm_aload_n (q := 1) dX11_next_0 rfl rfl 0 rfl ?_
  refine sm_iload_n (q := 2) dX11_next_1 rfl rfl 1 rfl ?_
  obtain ⟨hc1, h⟩ := sm_gd_e h
  rcases sm_tb_e h with ⟨r3, J4, hc_p2, h⟩ | ⟨E9, J9, hc_p2, h⟩
  · refine sm_callVr (q := 5) (As := [.inl a1]) (S := []) (ek_X11_needPupil hl hc_p2) mv_X11_193 hc1 rfl (by decide) (Nat.le_of_ble_eq_true rfl) dX11_next_2 rfl ?_
    refine sm_astore_n (L' := [(2, .inr (.inl r3)), (0, .inr (.inl a0)), (1, .inl a1)]) (q := 6) dX11_next_5 rfl rfl (by decide) rfl ?_
    refine sm_aload_n (q := 7) dX11_next_6 rfl rfl 1 rfl ?_
    refine sm_getR (r := R a0 8) (q := 10) dX11_next_7 rfl fk_X11_55 hc1 (by decide) (by decide) rfl ?_
    refine sm_aload_n (q := 11) dX11_next_10 rfl rfl 0 rfl ?_
    obtain ⟨hc5, h⟩ := sm_gd_e h
    obtain ⟨p6, hc_p6, h⟩ := sm_bd_e h
    refine sm_callVv (q := 14) (As := [.inr (.inl r3)]) (S := []) (e_X4_become hc_p6) mv_X11_220 hc5 rfl (by decide) (Nat.le_of_ble_eq_true rfl) dX11_next_11 rfl ?_
    refine sm_iconst (v := 1) (q := 15) dX11_next_14 rfl (by decide) ?_
    refine sm_istore_n (L' := [(3, .inl (1 : Int32)), (2, .inr (.inl r3)), (0, .inr (.inl a0)), (1, .inl a1)]) (q := 16) dX11_next_15 rfl rfl (by decide) rfl ?_
    refine sm_pick [2, 1, 0] rfl ?_
    exact w_X11_next_16 hl N R N _ _ _ _ _ h
  · obtain rfl := Option.some.inj h
    exact sm_callVX (E := E9) (As := [.inl a1]) (S := []) (ex_X11_needPupil hl hc_p2) mv_X11_193 hc1 rfl (by decide) (Nat.le_of_ble_eq_true rfl) dX11_next_2
theorem e_X11_next {l : Launch} (hl : l.stackTraces = false) {N : Nat} {R : Nat → Nat → Nat} {a0 : Nat} {a1 : Int32} {I : (Nat → Nat → Int32)} {y : ((Int32 ⊕ String) × (Nat → Nat → Int32))} (h : f_X11_next N R a0 a1 I = some y) : sm_E l 4 mX11_next [.inr (.inl a0), .inl a1] (I, R) (sm_oI y.1) (y.2, R) :=
  sm_meth (by decide) (Nat.le_of_ble_eq_true rfl) (w_X11_next hl N R a0 a1 I y h)
theorem ek_X11_next {l : Launch} (hl : l.stackTraces = false) {N : Nat} {R : Nat → Nat → Nat} {a0 : Nat} {a1 : Int32} {I : (Nat → Nat → Int32)} {r : Int32} {J : (Nat → Nat → Int32)} (h : f_X11_next N R a0 a1 I = some (.inl r, J)) : sm_E l 4 mX11_next [.inr (.inl a0), .inl a1] (I, R) (.inl (some (.inl r))) (J, R) := by
  have h1 := e_X11_next (l := l) hl h
  exact h1
theorem ex_X11_next {l : Launch} (hl : l.stackTraces = false) {N : Nat} {R : Nat → Nat → Nat} {a0 : Nat} {a1 : Int32} {I : (Nat → Nat → Int32)} {E : String} {J : (Nat → Nat → Int32)} (h : f_X11_next N R a0 a1 I = some (.inr E, J)) : sm_E l 4 mX11_next [.inr (.inl a0), .inl a1] (I, R) (.inr E) (J, R) := by
  have h1 := e_X11_next (l := l) hl h
  exact h1
