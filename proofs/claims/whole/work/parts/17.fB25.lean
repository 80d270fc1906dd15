def f_X11_whoHasMost_76 (N : Nat) (R : Nat → Nat → Nat) (k_8 : Nat → Int32 → Int32 → Int32 → Int32 → Int32 → (Nat → Nat → Int32) → Option (Int32 × (Nat → Nat → Int32))) : Nat → Int32 → Int32 → Int32 → Int32 → Int32 → Int32 → (Nat → Nat → Int32) → Option (Int32 × (Nat → Nat → Int32)) := fun a0 a1 a2 a3 a4 a5 b0 I =>
  if b0 ≤ a4 then (
    k_8 a0 a1 a2 a3 a4 (a5 + 1) I)
  else (
    k_8 a0 a1 a2 a5 b0 (a5 + 1) I)
def f_X11_whoHasMost_8 (N : Nat) (R : Nat → Nat → Nat) : Nat → Nat → Int32 → Int32 → Int32 → Int32 → Int32 → (Nat → Nat → Int32) → Option (Int32 × (Nat → Nat → Int32))
  | 0, _, _, _, _, _, _, _ => none
  | n + 1, a0, a1, a2, a3, a4, a5, I =>
    sm_gd (sm_kd a0 = (11, 18)) <|
    sm_gd (sm_kd (R a0 3) = (7, 9)) <|
    sm_gd (sm_kd (R (R a0 3) 5) = (10, 4)) <|
    if (I (R (R a0 3) 5) 1) ≤ a5 then (
      some (a3, I))
    else (
      sm_gd ((sm_kd (R (R (R a0 3) 5) 0)).1 = 16 ∧ ¬ (a5 < 0 ∨ (sm_kd (R (R (R a0 3) 5) 0)).2 ≤ (a5).toNatClampNeg)) <|
      sm_gd (sm_kd (R a0 10) = (4, 6)) <|
      (f_X4_become N R (R a0 10) (R (R (R (R a0 3) 5) 0) (a5).toNatClampNeg) I).bind fun p7 =>
      (f_X7_passWeeks N R (R a0 3) (R a0 10) a1 p7.2).bind fun p8 =>
      if a2 = 0 then (
        f_X11_whoHasMost_76 N R (fun z0 z1 z2 z3 z4 z5 J => f_X11_whoHasMost_8 N R n z0 z1 z2 z3 z4 z5 J) a0 a1 a2 a3 a4 a5 (p8.2 (R a0 10) 0) p8.2)
      else (
        f_X11_whoHasMost_76 N R (fun z0 z1 z2 z3 z4 z5 J => f_X11_whoHasMost_8 N R n z0 z1 z2 z3 z4 z5 J) a0 a1 a2 a3 a4 a5 (p8.2 (R a0 10) 1) p8.2))
def f_X11_whoHasMost (N : Nat) (R : Nat → Nat → Nat) : Nat → Int32 → Int32 → (Nat → Nat → Int32) → Option (Int32 × (Nat → Nat → Int32)) := fun a0 a1 a2 I =>
  f_X11_whoHasMost_8 N R N a0 a1 a2 (-1 : Int32) (-1 : Int32) (0 : Int32) I
set_option maxHeartbeats 4000000 in
set_option maxRecDepth 100000 in
theorem w_X11_whoHasMost_76 {l : Launch} (N : Nat) (R : Nat → Nat → Nat) (k_8 : Nat → Int32 → Int32 → Int32 → Int32 → Int32 → (Nat → Nat → Int32) → Option (Int32 × (Nat → Nat → Int32))) (hk_8 : ∀ (a0 : Nat) (a1 : Int32) (a2 : Int32) (a3 : Int32) (a4 : Int32) (a5 : Int32) (I : (Nat → Nat → Int32)) (y : (Int32 × (Nat → Nat → Int32))), k_8 a0 a1 a2 a3 a4 a5 I = some y → sm_W l 4 mX11_whoHasMost 8 [(0, .inr (.inl a0)), (1, .inl a1), (2, .inl a2), (3, .inl a3), (4, .inl a4), (5, .inl a5)] [] (I, R) (.inl (some (.inl y.1))) (y.2, R)) : ∀ (a0 : Nat) (a1 : Int32) (a2 : Int32) (a3 : Int32) (a4 : Int32) (a5 : Int32) (b0 : Int32) (I : (Nat → Nat → Int32)) (y : (Int32 × (Nat → Nat → Int32))), f_X11_whoHasMost_76 N R k_8 a0 a1 a2 a3 a4 a5 b0 I = some y → sm_W l 4 mX11_whoHasMost 76 [(0, .inr (.inl a0)), (1, .inl a1), (2, .inl a2), (3, .inl a3), (4, .inl a4), (5, .inl a5)] [.inl b0] (I, R) (.inl (some (.inl y.1))) (y.2, R) := by
  intro a0 a1 a2 a3 a4 a5 b0 I y h
  unfold f_X11_whoHasMost_76 at h
  refine sm_istore (L' := [(6, .inl b0), (0, .inr (.inl a0)), (1, .inl a1), (2, .inl a2), (3, .inl a3), (4, .inl a4), (5, .inl a5)]) (q := 78) dX11_whoHasMost_76 rfl (by decide) rfl ?_
  refine sm_iload (q := 80) dX11_whoHasMost_78 rfl 0 rfl ?_
  refine sm_iload (q := 82) dX11_whoHasMost_80 rfl 5 rfl ?_
  rcases sm_if_e h with ⟨hb1, h⟩ | ⟨hb1, h⟩
  · refine sm_icmp_le (tgt := 92) (q := 85) dX11_whoHasMost_82 (by decide) rfl (fun _ => ?_) (fun hn => absurd hb1 hn)
    refine sm_iinc (v := (a5 + 1)) (L' := [(5, .inl (a5 + 1)), (6, .inl b0), (0, .inr (.inl a0)), (1, .inl a1), (2, .inl a2), (3, .inl a3), (4, .inl a4)]) (q := 95) dX11_whoHasMost_92 rfl 6 rfl rfl (by decide) rfl ?_
    refine sm_goto (q := 8) dX11_whoHasMost_95 (by decide) ?_
    refine sm_pick [2, 3, 4, 5, 6, 0] rfl ?_
    exact hk_8 _ _ _ _ _ _ _ _ h
  · refine sm_icmp_le (tgt := 92) (q := 85) dX11_whoHasMost_82 (by decide) rfl (fun ht => absurd ht hb1) (fun _ => ?_)
    refine sm_iload (q := 87) dX11_whoHasMost_85 rfl 0 rfl ?_
    refine sm_istore (L' := [(4, .inl b0), (6, .inl b0), (0, .inr (.inl a0)), (1, .inl a1), (2, .inl a2), (3, .inl a3), (5, .inl a5)]) (q := 89) dX11_whoHasMost_87 rfl (by decide) rfl ?_
    refine sm_iload (q := 91) dX11_whoHasMost_89 rfl 6 rfl ?_
    refine sm_istore_n (L' := [(3, .inl a5), (4, .inl b0), (6, .inl b0), (0, .inr (.inl a0)), (1, .inl a1), (2, .inl a2), (5, .inl a5)]) (q := 92) dX11_whoHasMost_91 rfl rfl (by decide) rfl ?_
    refine sm_iinc (v := (a5 + 1)) (L' := [(5, .inl (a5 + 1)), (3, .inl a5), (4, .inl b0), (6, .inl b0), (0, .inr (.inl a0)), (1, .inl a1), (2, .inl a2)]) (q := 95) dX11_whoHasMost_92 rfl 6 rfl rfl (by decide) rfl ?_
    refine sm_goto (q := 8) dX11_whoHasMost_95 (by decide) ?_
    refine sm_pick [4, 5, 6, 1, 2, 0] rfl ?_
    exact hk_8 _ _ _ _ _ _ _ _ h
set_option maxHeartbeats 4000000 in
set_option maxRecDepth 100000 in
theorem w_X11_whoHasMost_8 {l : Launch} (N : Nat) (R : Nat → Nat → Nat) : ∀ (n : Nat) (a0 : Nat) (a1 : Int32) (a2 : Int32) (a3 : Int32) (a4 : Int32) (a5 : Int32) (I : (Nat → Nat → Int32)) (y : (Int32 × (Nat → Nat → Int32))), f_X11_whoHasMost_8 N R n a0 a1 a2 a3 a4 a5 I = some y → sm_W l 4 mX11_whoHasMost 8 [(0, .inr (.inl a0)), (1, .inl a1), (2, .inl a2), (3, .inl a3), (4, .inl a4), (5, .inl a5)] [] (I, R) (.inl (some (.inl y.1))) (y.2, R) := by
  intro n
  induction n with
  | zero => intro a0 a1 a2 a3 a4 a5 I y h; cases h
  | succ n ih =>
    intro a0 a1 a2 a3 a4 a5 I y h
    rw [f_X11_whoHasMost_8] at h
    refine sm_iload (q := 10) dX11_whoHasMost_8 rfl 5 rfl ?_
    refine sm_aload_n (q := 11) dX11_whoHasMost_10 rfl rfl 0 rfl ?_
    obtain ⟨hc1, h⟩ := sm_gd_e h
    refine sm_getR (r := R a0 3) (q := 14) dX11_whoHasMost_11 rfl fk_X11_20 hc1 (by decide) (by decide) rfl ?_
    obtain ⟨hc2, h⟩ := sm_gd_e h
    refine sm_getR (r := R (R a0 3) 5) (q := 17) dX11_whoHasMost_14 rfl fk_X11_137 hc2 (by decide) (by decide) rfl ?_
    obtain ⟨hc3, h⟩ := sm_gd_e h
    refine sm_getI (q := 20) dX11_whoHasMost_17 rfl fk_X11_140 hc3 (by decide) (by decide) ?_
    rcases sm_if_e h with ⟨hb4, h⟩ | ⟨hb4, h⟩
    · refine sm_icmp_ge (tgt := 98) (q := 23) dX11_whoHasMost_20 (by decide) rfl (fun _ => ?_) (fun hn => absurd hb4 hn)
      refine sm_iload_n (q := 99) dX11_whoHasMost_98 rfl rfl 3 rfl ?_
      obtain rfl := Option.some.inj h
      exact sm_iret dX11_whoHasMost_99 rfl
    · refine sm_icmp_ge (tgt := 98) (q := 23) dX11_whoHasMost_20 (by decide) rfl (fun ht => absurd ht hb4) (fun _ => ?_)
      refine sm_aload_n (q := 24) dX11_whoHasMost_23 rfl rfl 0 rfl ?_
      refine sm_getR (r := R a0 10) (q := 27) dX11_whoHasMost_24 rfl fk_X11_64 hc1 (by decide) (by decide) rfl ?_
      refine sm_aload_n (q := 28) dX11_whoHasMost_27 rfl rfl 0 rfl ?_
      refine sm_getR (r := R a0 3) (q := 31) dX11_whoHasMost_28 rfl fk_X11_20 hc1 (by decide) (by decide) rfl ?_
      refine sm_getR (r := R (R a0 3) 5) (q := 34) dX11_whoHasMost_31 rfl fk_X11_137 hc2 (by decide) (by decide) rfl ?_
      refine sm_getR (r := R (R (R a0 3) 5) 0) (q := 37) dX11_whoHasMost_34 rfl fk_X11_170 hc3 (by decide) (by decide) rfl ?_
      refine sm_iload (q := 39) dX11_whoHasMost_37 rfl 5 rfl ?_
      obtain ⟨hc5, h⟩ := sm_gd_e h
      refine sm_aald (t := 3) (n := (sm_kd (R (R (R a0 3) 5) 0)).2) (q := 40) dX11_whoHasMost_39 rfl (Prod.ext hc5.1 rfl) (Or.inl ⟨rfl, rfl⟩) hc5.2 rfl ?_
      obtain ⟨hc6, h⟩ := sm_gd_e h
      obtain ⟨p7, hc_p7, h⟩ := sm_bd_e h
      refine sm_callVv (q := 43) (As := [.inr (.inl (R (R (R (R a0 3) 5) 0) (a5).toNatClampNeg))]) (S := []) (e_X4_become hc_p7) mv_X11_225 hc6 rfl (by decide) (Nat.le_of_ble_eq_true rfl) dX11_whoHasMost_40 rfl ?_
      refine sm_aload_n (q := 44) dX11_whoHasMost_43 rfl rfl 0 rfl ?_
      refine sm_getR (r := R a0 3) (q := 47) dX11_whoHasMost_44 rfl fk_X11_20 hc1 (by decide) (by decide) rfl ?_
      refine sm_aload_n (q := 48) dX11_whoHasMost_47 rfl rfl 0 rfl ?_
      refine sm_getR (r := R a0 10) (q := 51) dX11_whoHasMost_48 rfl fk_X11_64 hc1 (by decide) (by decide) rfl ?_
      refine sm_iload_n (q := 52) dX11_whoHasMost_51 rfl rfl 1 rfl ?_
      obtain ⟨p8, hc_p8, h⟩ := sm_bd_e h
      refine sm_callVv (q := 55) (As := [.inr (.inl (R a0 10)), .inl a1]) (S := []) (e_X7_passWeeks hc_p8) mv_X11_239 hc2 rfl (by decide) (Nat.le_of_ble_eq_true rfl) dX11_whoHasMost_52 rfl ?_
      refine sm_iload_n (q := 56) dX11_whoHasMost_55 rfl rfl 2 rfl ?_
      rcases sm_if_e h with ⟨hb9, h⟩ | ⟨hb9, h⟩
      · refine sm_if_eq (tgt := 69) (q := 59) dX11_whoHasMost_56 (by decide) rfl (fun _ => ?_) (fun hn => absurd hb9 hn)
        refine sm_aload_n (q := 70) dX11_whoHasMost_69 rfl rfl 0 rfl ?_
        refine sm_getR (r := R a0 10) (q := 73) dX11_whoHasMost_70 rfl fk_X11_64 hc1 (by decide) (by decide) rfl ?_
        refine sm_getI (q := 76) dX11_whoHasMost_73 rfl fk_X11_202 hc6 (by decide) (by decide) ?_
        refine sm_pick [0, 1, 2, 3, 4, 5] rfl ?_
        exact w_X11_whoHasMost_76 N R (fun z0 z1 z2 z3 z4 z5 J => f_X11_whoHasMost_8 N R n z0 z1 z2 z3 z4 z5 J) (fun z0 z1 z2 z3 z4 z5 J y h => ih z0 z1 z2 z3 z4 z5 J y h) _ _ _ _ _ _ _ _ _ h
      · refine sm_if_eq (tgt := 69) (q := 59) dX11_whoHasMost_56 (by decide) rfl (fun ht => absurd ht hb9) (fun _ => ?_)
        refine sm_aload_n (q := 60) dX11_whoHasMost_59 rfl rfl 0 rfl ?_
        refine sm_getR (r := R a0 10) (q := 63) dX11_whoHasMost_60 rfl fk_X11_64 hc1 (by decide) (by decide) rfl ?_
        refine sm_getI (q := 66) dX11_whoHasMost_63 rfl fk_X11_205 hc6 (by decide) (by decide) ?_
        refine sm_goto (q := 76) dX11_whoHasMost_66 (by decide) ?_
        refine sm_pick [0, 1, 2, 3, 4, 5] rfl ?_
        exact w_X11_whoHasMost_76 N R (fun z0 z1 z2 z3 z4 z5 J => f_X11_whoHasMost_8 N R n z0 z1 z2 z3 z4 z5 J) (fun z0 z1 z2 z3 z4 z5 J y h => ih z0 z1 z2 z3 z4 z5 J y h) _ _ _ _ _ _ _ _ _ h
set_option maxHeartbeats 4000000 in
set_option maxRecDepth 100000 in
theorem w_X11_whoHasMost {l : Launch} (N : Nat) (R : Nat → Nat → Nat) : ∀ (a0 : Nat) (a1 : Int32) (a2 : Int32) (I : (Nat → Nat → Int32)) (y : (Int32 × (Nat → Nat → Int32))), f_X11_whoHasMost N R a0 a1 a2 I = some y → sm_W l 4 mX11_whoHasMost 0 [(0, .inr (.inl a0)), (1, .inl a1), (2, .inl a2)] [] (I, R) (.inl (some (.inl y.1))) (y.2, R) := by
  intro a0 a1 a2 I y h
  unfold f_X11_whoHasMost at h
  refine sm_iconst (v := -1) (q := 1) dX11_whoHasMost_0 rfl (by decide) ?_
  refine sm_istore_n (L' := [(3, .inl (-1 : Int32)), (0, .inr (.inl a0)), (1, .inl a1), (2, .inl a2)]) (q := 2) dX11_whoHasMost_1 rfl rfl (by decide) rfl ?_
  refine sm_iconst (v := -1) (q := 3) dX11_whoHasMost_2 rfl (by decide) ?_
  refine sm_istore (L' := [(4, .inl (-1 : Int32)), (3, .inl (-1 : Int32)), (0, .inr (.inl a0)), (1, .inl a1), (2, .inl a2)]) (q := 5) dX11_whoHasMost_3 rfl (by decide) rfl ?_
  refine sm_iconst (v := 0) (q := 6) dX11_whoHasMost_5 rfl (by decide) ?_
  refine sm_istore (L' := [(5, .inl (0 : Int32)), (4, .inl (-1 : Int32)), (3, .inl (-1 : Int32)), (0, .inr (.inl a0)), (1, .inl a1), (2, .inl a2)]) (q := 8) dX11_whoHasMost_6 rfl (by decide) rfl ?_
  refine sm_pick [3, 4, 5, 2, 1, 0] rfl ?_
  exact w_X11_whoHasMost_8 N R N _ _ _ _ _ _ _ _ h
theorem e_X11_whoHasMost {l : Launch} {N : Nat} {R : Nat → Nat → Nat} {a0 : Nat} {a1 : Int32} {a2 : Int32} {I : (Nat → Nat → Int32)} {y : (Int32 × (Nat → Nat → Int32))} (h : f_X11_whoHasMost N R a0 a1 a2 I = some y) : sm_E l 4 mX11_whoHasMost [.inr (.inl a0), .inl a1, .inl a2] (I, R) (.inl (some (.inl y.1))) (y.2, R) :=
  sm_meth (by decide) (Nat.le_of_ble_eq_true rfl) (w_X11_whoHasMost N R a0 a1 a2 I y h)
