def f_X11_playAhead_78 (N : Nat) (R : Nat → Nat → Nat) (k_22 : Nat → Int32 → Int32 → Int32 → Int32 → Int32 → (Nat → Nat → Int32) → Option (Int32 × (Nat → Nat → Int32))) : Nat → Int32 → Int32 → Int32 → Int32 → Int32 → Int32 → (Nat → Nat → Int32) → Option (Int32 × (Nat → Nat → Int32)) := fun a0 a1 a2 a3 a4 a5 b0 I =>
  if b0 = 0 then (
    k_22 a0 a1 a2 a3 a4 (a5 + 1) I)
  else (
    if ((a2 >>> (a5 &&& 31)) &&& (1 : Int32)) = (1 : Int32) then (
      k_22 a0 a1 a2 a3 (a4 + 1) (a5 + 1) I)
    else (
      k_22 a0 a1 a2 a3 a4 (a5 + 1) I))
def f_X11_playAhead_22 (N : Nat) (R : Nat → Nat → Nat) : Nat → Nat → Int32 → Int32 → Int32 → Int32 → Int32 → (Nat → Nat → Int32) → Option (Int32 × (Nat → Nat → Int32))
  | 0, _, _, _, _, _, _, _ => none
  | n + 1, a0, a1, a2, a3, a4, a5, I =>
    sm_gd (sm_kd a0 = (11, 18)) <|
    sm_gd (sm_kd (R a0 3) = (7, 9)) <|
    sm_gd (sm_kd (R (R a0 3) 5) = (10, 4)) <|
    if (I (R (R a0 3) 5) 1) ≤ a5 then (
      some (a4, I))
    else (
      sm_gd ((sm_kd (R (R (R a0 3) 5) 0)).1 = 16 ∧ ¬ (a5 < 0 ∨ (sm_kd (R (R (R a0 3) 5) 0)).2 ≤ (a5).toNatClampNeg)) <|
      sm_gd (sm_kd (R (R (R (R a0 3) 5) 0) (a5).toNatClampNeg) = (4, 6)) <|
      if (I (R (R (R (R a0 3) 5) 0) (a5).toNatClampNeg) 0) < a3 then (
        f_X11_playAhead_78 N R (fun z0 z1 z2 z3 z4 z5 J => f_X11_playAhead_22 N R n z0 z1 z2 z3 z4 z5 J) a0 a1 a2 a3 a4 a5 (1 : Int32) I)
      else (
        if (I (R (R (R (R a0 3) 5) 0) (a5).toNatClampNeg) 0) = a3 then (
          if a1 ≤ a5 then (
            f_X11_playAhead_78 N R (fun z0 z1 z2 z3 z4 z5 J => f_X11_playAhead_22 N R n z0 z1 z2 z3 z4 z5 J) a0 a1 a2 a3 a4 a5 (0 : Int32) I)
          else (
            f_X11_playAhead_78 N R (fun z0 z1 z2 z3 z4 z5 J => f_X11_playAhead_22 N R n z0 z1 z2 z3 z4 z5 J) a0 a1 a2 a3 a4 a5 (1 : Int32) I))
        else (
          f_X11_playAhead_78 N R (fun z0 z1 z2 z3 z4 z5 J => f_X11_playAhead_22 N R n z0 z1 z2 z3 z4 z5 J) a0 a1 a2 a3 a4 a5 (0 : Int32) I)))
def f_X11_playAhead (N : Nat) (R : Nat → Nat → Nat) : Nat → Int32 → Int32 → (Nat → Nat → Int32) → Option (Int32 × (Nat → Nat → Int32)) := fun a0 a1 a2 I =>
  sm_gd (sm_kd a0 = (11, 18)) <|
  sm_gd (sm_kd (R a0 3) = (7, 9)) <|
  sm_gd (sm_kd (R (R a0 3) 5) = (10, 4)) <|
  sm_gd ((sm_kd (R (R (R a0 3) 5) 0)).1 = 16 ∧ ¬ (a1 < 0 ∨ (sm_kd (R (R (R a0 3) 5) 0)).2 ≤ (a1).toNatClampNeg)) <|
  sm_gd (sm_kd (R (R (R (R a0 3) 5) 0) (a1).toNatClampNeg) = (4, 6)) <|
  f_X11_playAhead_22 N R N a0 a1 a2 (I (R (R (R (R a0 3) 5) 0) (a1).toNatClampNeg) 0) (0 : Int32) (0 : Int32) I
set_option maxHeartbeats 4000000 in
set_option maxRecDepth 100000 in
theorem w_X11_playAhead_78 {l : Launch} (N : Nat) (R : Nat → Nat → Nat) (k_22 : Nat → Int32 → Int32 → Int32 → Int32 → Int32 → (Nat → Nat → Int32) → Option (Int32 × (Nat → Nat → Int32))) (hk_22 : ∀ (a0 : Nat) (a1 : Int32) (a2 : Int32) (a3 : Int32) (a4 : Int32) (a5 : Int32) (I : (Nat → Nat → Int32)) (y : (Int32 × (Nat → Nat → Int32))), k_22 a0 a1 a2 a3 a4 a5 I = some y → sm_W l 0 mX11_playAhead 22 [(0, .inr (.inl a0)), (1, .inl a1), (2, .inl a2), (3, .inl a3), (4, .inl a4), (5, .inl a5)] [] (I, R) (.inl (some (.inl y.1))) (y.2, R)) : ∀ (a0 : Nat) (a1 : Int32) (a2 : Int32) (a3 : Int32) (a4 : Int32) (a5 : Int32) (b0 : Int32) (I : (Nat → Nat → Int32)) (y : (Int32 × (Nat → Nat → Int32))), f_X11_playAhead_78 N R k_22 a0 a1 a2 a3 a4 a5 b0 I = some y → sm_W l 0 mX11_playAhead 78 [(0, .inr (.inl a0)), (1, .inl a1), (2, .inl a2), (3, .inl a3), (4, .inl a4), (5, .inl a5)] [.inl b0] (I, R) (.inl (some (.inl y.1))) (y.2, R) := by
  intro a0 a1 a2 a3 a4 a5 b0 I y h
  unfold f_X11_playAhead_78 at h
  refine sm_istore (L' := [(7, .inl b0), (0, .inr (.inl a0)), (1, .inl a1), (2, .inl a2), (3, .inl a3), (4, .inl a4), (5, .inl a5)]) (q := 80) dX11_playAhead_78 rfl (by decide) rfl ?_
  refine sm_iload (q := 82) dX11_playAhead_80 rfl 0 rfl ?_
  rcases sm_if_e h with ⟨hb1, h⟩ | ⟨hb1, h⟩
  · refine sm_if_eq (tgt := 98) (q := 85) dX11_playAhead_82 (by decide) rfl (fun _ => ?_) (fun hn => absurd hb1 hn)
    refine sm_iinc (v := (a5 + 1)) (L' := [(5, .inl (a5 + 1)), (7, .inl b0), (0, .inr (.inl a0)), (1, .inl a1), (2, .inl a2), (3, .inl a3), (4, .inl a4)]) (q := 101) dX11_playAhead_98 rfl 6 rfl rfl (by decide) rfl ?_
    refine sm_goto (q := 22) dX11_playAhead_101 (by decide) ?_
    refine sm_pick [2, 3, 4, 5, 6, 0] rfl ?_
    exact hk_22 _ _ _ _ _ _ _ _ h
  · refine sm_if_eq (tgt := 98) (q := 85) dX11_playAhead_82 (by decide) rfl (fun ht => absurd ht hb1) (fun _ => ?_)
    refine sm_iload_n (q := 86) dX11_playAhead_85 rfl rfl 3 rfl ?_
    refine sm_iload (q := 88) dX11_playAhead_86 rfl 6 rfl ?_
    refine sm_ishr (q := 89) dX11_playAhead_88 rfl ?_
    refine sm_iconst (v := 1) (q := 90) dX11_playAhead_89 rfl (by decide) ?_
    refine sm_iand (q := 91) dX11_playAhead_90 rfl ?_
    refine sm_iconst (v := 1) (q := 92) dX11_playAhead_91 rfl (by decide) ?_
    rcases sm_if_e h with ⟨hb2, h⟩ | ⟨hb2, h⟩
    · refine sm_icmp_ne (tgt := 98) (q := 95) dX11_playAhead_92 (by decide) rfl (fun hn => absurd hb2 hn) (fun _ => ?_)
      refine sm_iinc (v := (a4 + 1)) (L' := [(4, .inl (a4 + 1)), (7, .inl b0), (0, .inr (.inl a0)), (1, .inl a1), (2, .inl a2), (3, .inl a3), (5, .inl a5)]) (q := 98) dX11_playAhead_95 rfl 5 rfl rfl (by decide) rfl ?_
      refine sm_iinc (v := (a5 + 1)) (L' := [(5, .inl (a5 + 1)), (4, .inl (a4 + 1)), (7, .inl b0), (0, .inr (.inl a0)), (1, .inl a1), (2, .inl a2), (3, .inl a3)]) (q := 101) dX11_playAhead_98 rfl 6 rfl rfl (by decide) rfl ?_
      refine sm_goto (q := 22) dX11_playAhead_101 (by decide) ?_
      refine sm_pick [3, 4, 5, 6, 1, 0] rfl ?_
      exact hk_22 _ _ _ _ _ _ _ _ h
    · refine sm_icmp_ne (tgt := 98) (q := 95) dX11_playAhead_92 (by decide) rfl (fun _ => ?_) (fun he => absurd he hb2)
      refine sm_iinc (v := (a5 + 1)) (L' := [(5, .inl (a5 + 1)), (7, .inl b0), (0, .inr (.inl a0)), (1, .inl a1), (2, .inl a2), (3, .inl a3), (4, .inl a4)]) (q := 101) dX11_playAhead_98 rfl 6 rfl rfl (by decide) rfl ?_
      refine sm_goto (q := 22) dX11_playAhead_101 (by decide) ?_
      refine sm_pick [2, 3, 4, 5, 6, 0] rfl ?_
      exact hk_22 _ _ _ _ _ _ _ _ h
set_option maxHeartbeats 4000000 in
set_option maxRecDepth 100000 in
theorem w_X11_playAhead_22 {l : Launch} (N : Nat) (R : Nat → Nat → Nat) : ∀ (n : Nat) (a0 : Nat) (a1 : Int32) (a2 : Int32) (a3 : Int32) (a4 : Int32) (a5 : Int32) (I : (Nat → Nat → Int32)) (y : (Int32 × (Nat → Nat → Int32))), f_X11_playAhead_22 N R n a0 a1 a2 a3 a4 a5 I = some y → sm_W l 0 mX11_playAhead 22 [(0, .inr (.inl a0)), (1, .inl a1), (2, .inl a2), (3, .inl a3), (4, .inl a4), (5, .inl a5)] [] (I, R) (.inl (some (.inl y.1))) (y.2, R) := by
  intro n
  induction n with
  | zero => intro a0 a1 a2 a3 a4 a5 I y h; cases h
  | succ n ih =>
    intro a0 a1 a2 a3 a4 a5 I y h
    rw [f_X11_playAhead_22] at h
    refine sm_iload (q := 24) dX11_playAhead_22 rfl 5 rfl ?_
    refine sm_aload_n (q := 25) dX11_playAhead_24 rfl rfl 0 rfl ?_
    obtain ⟨hc1, h⟩ := sm_gd_e h
    refine sm_getR (r := R a0 3) (q := 28) dX11_playAhead_25 rfl fk_X11_20 hc1 (by decide) (by decide) rfl ?_
    obtain ⟨hc2, h⟩ := sm_gd_e h
    refine sm_getR (r := R (R a0 3) 5) (q := 31) dX11_playAhead_28 rfl fk_X11_137 hc2 (by decide) (by decide) rfl ?_
    obtain ⟨hc3, h⟩ := sm_gd_e h
    refine sm_getI (q := 34) dX11_playAhead_31 rfl fk_X11_140 hc3 (by decide) (by decide) ?_
    rcases sm_if_e h with ⟨hb4, h⟩ | ⟨hb4, h⟩
    · refine sm_icmp_ge (tgt := 104) (q := 37) dX11_playAhead_34 (by decide) rfl (fun _ => ?_) (fun hn => absurd hb4 hn)
      refine sm_iload (q := 106) dX11_playAhead_104 rfl 4 rfl ?_
      obtain rfl := Option.some.inj h
      exact sm_iret dX11_playAhead_106 rfl
    · refine sm_icmp_ge (tgt := 104) (q := 37) dX11_playAhead_34 (by decide) rfl (fun ht => absurd ht hb4) (fun _ => ?_)
      refine sm_aload_n (q := 38) dX11_playAhead_37 rfl rfl 0 rfl ?_
      refine sm_getR (r := R a0 3) (q := 41) dX11_playAhead_38 rfl fk_X11_20 hc1 (by decide) (by decide) rfl ?_
      refine sm_getR (r := R (R a0 3) 5) (q := 44) dX11_playAhead_41 rfl fk_X11_137 hc2 (by decide) (by decide) rfl ?_
      refine sm_getR (r := R (R (R a0 3) 5) 0) (q := 47) dX11_playAhead_44 rfl fk_X11_170 hc3 (by decide) (by decide) rfl ?_
      refine sm_iload (q := 49) dX11_playAhead_47 rfl 5 rfl ?_
      obtain ⟨hc5, h⟩ := sm_gd_e h
      refine sm_aald (t := 3) (n := (sm_kd (R (R (R a0 3) 5) 0)).2) (q := 50) dX11_playAhead_49 rfl (Prod.ext hc5.1 rfl) (Or.inl ⟨rfl, rfl⟩) hc5.2 rfl ?_
      obtain ⟨hc6, h⟩ := sm_gd_e h
      refine sm_getI (q := 53) dX11_playAhead_50 rfl fk_X11_202 hc6 (by decide) (by decide) ?_
      refine sm_istore (L' := [(6, .inl (I (R (R (R (R a0 3) 5) 0) (a5).toNatClampNeg) 0)), (0, .inr (.inl a0)), (1, .inl a1), (2, .inl a2), (3, .inl a3), (4, .inl a4), (5, .inl a5)]) (q := 55) dX11_playAhead_53 rfl (by decide) rfl ?_
      refine sm_iload (q := 57) dX11_playAhead_55 rfl 0 rfl ?_
      refine sm_iload_n (q := 58) dX11_playAhead_57 rfl rfl 4 rfl ?_
      rcases sm_if_e h with ⟨hb7, h⟩ | ⟨hb7, h⟩
      · refine sm_icmp_lt (tgt := 73) (q := 61) dX11_playAhead_58 (by decide) rfl (fun _ => ?_) (fun hn => absurd hb7 hn)
        refine sm_iconst (v := 1) (q := 74) dX11_playAhead_73 rfl (by decide) ?_
        refine sm_goto (q := 78) dX11_playAhead_74 (by decide) ?_
        refine sm_pick [1, 2, 3, 4, 5, 6] rfl ?_
        exact w_X11_playAhead_78 N R (fun z0 z1 z2 z3 z4 z5 J => f_X11_playAhead_22 N R n z0 z1 z2 z3 z4 z5 J) (fun z0 z1 z2 z3 z4 z5 J y h => ih z0 z1 z2 z3 z4 z5 J y h) _ _ _ _ _ _ _ _ _ h
      · refine sm_icmp_lt (tgt := 73) (q := 61) dX11_playAhead_58 (by decide) rfl (fun ht => absurd ht hb7) (fun _ => ?_)
        refine sm_iload (q := 63) dX11_playAhead_61 rfl 0 rfl ?_
        refine sm_iload_n (q := 64) dX11_playAhead_63 rfl rfl 4 rfl ?_
        rcases sm_if_e h with ⟨hb8, h⟩ | ⟨hb8, h⟩
        · refine sm_icmp_ne (tgt := 77) (q := 67) dX11_playAhead_64 (by decide) rfl (fun hn => absurd hb8 hn) (fun _ => ?_)
          refine sm_iload (q := 69) dX11_playAhead_67 rfl 6 rfl ?_
          refine sm_iload_n (q := 70) dX11_playAhead_69 rfl rfl 2 rfl ?_
          rcases sm_if_e h with ⟨hb9, h⟩ | ⟨hb9, h⟩
          · refine sm_icmp_ge (tgt := 77) (q := 73) dX11_playAhead_70 (by decide) rfl (fun _ => ?_) (fun hn => absurd hb9 hn)
            refine sm_iconst (v := 0) (q := 78) dX11_playAhead_77 rfl (by decide) ?_
            refine sm_pick [1, 2, 3, 4, 5, 6] rfl ?_
            exact w_X11_playAhead_78 N R (fun z0 z1 z2 z3 z4 z5 J => f_X11_playAhead_22 N R n z0 z1 z2 z3 z4 z5 J) (fun z0 z1 z2 z3 z4 z5 J y h => ih z0 z1 z2 z3 z4 z5 J y h) _ _ _ _ _ _ _ _ _ h
          · refine sm_icmp_ge (tgt := 77) (q := 73) dX11_playAhead_70 (by decide) rfl (fun ht => absurd ht hb9) (fun _ => ?_)
            refine sm_iconst (v := 1) (q := 74) dX11_playAhead_73 rfl (by decide) ?_
            refine sm_goto (q := 78) dX11_playAhead_74 (by decide) ?_
            refine sm_pick [1, 2, 3, 4, 5, 6] rfl ?_
            exact w_X11_playAhead_78 N R (fun z0 z1 z2 z3 z4 z5 J => f_X11_playAhead_22 N R n z0 z1 z2 z3 z4 z5 J) (fun z0 z1 z2 z3 z4 z5 J y h => ih z0 z1 z2 z3 z4 z5 J y h) _ _ _ _ _ _ _ _ _ h
        · refine sm_icmp_ne (tgt := 77) (q := 67) dX11_playAhead_64 (by decide) rfl (fun _ => ?_) (fun he => absurd he hb8)
          refine sm_iconst (v := 0) (q := 78) dX11_playAhead_77 rfl (by decide) ?_
          refine sm_pick [1, 2, 3, 4, 5, 6] rfl ?_
          exact w_X11_playAhead_78 N R (fun z0 z1 z2 z3 z4 z5 J => f_X11_playAhead_22 N R n z0 z1 z2 z3 z4 z5 J) (fun z0 z1 z2 z3 z4 z5 J y h => ih z0 z1 z2 z3 z4 z5 J y h) _ _ _ _ _ _ _ _ _ h
set_option maxHeartbeats 4000000 in
set_option maxRecDepth 100000 in
theorem w_X11_playAhead {l : Launch} (N : Nat) (R : Nat → Nat → Nat) : ∀ (a0 : Nat) (a1 : Int32) (a2 : Int32) (I : (Nat → Nat → Int32)) (y : (Int32 × (Nat → Nat → Int32))), f_X11_playAhead N R a0 a1 a2 I = some y → sm_W l 0 mX11_playAhead 0 [(0, .inr (.inl a0)), (1, .inl a1), (2, .inl a2)] [] (I, R) (.inl (some (.inl y.1))) (y.2, R) := by
  intro a0 a1 a2 I y h
  unfold f_X11_playAhead at h
  refine sm_aload_n (q := 1) dX11_playAhead_0 rfl rfl 0 rfl ?_
  obtain ⟨hc1, h⟩ := sm_gd_e h
  refine sm_getR (r := R a0 3) (q := 4) dX11_playAhead_1 rfl fk_X11_20 hc1 (by decide) (by decide) rfl ?_
  obtain ⟨hc2, h⟩ := sm_gd_e h
  refine sm_getR (r := R (R a0 3) 5) (q := 7) dX11_playAhead_4 rfl fk_X11_137 hc2 (by decide) (by decide) rfl ?_
  obtain ⟨hc3, h⟩ := sm_gd_e h
  refine sm_getR (r := R (R (R a0 3) 5) 0) (q := 10) dX11_playAhead_7 rfl fk_X11_170 hc3 (by decide) (by decide) rfl ?_
  refine sm_iload_n (q := 11) dX11_playAhead_10 rfl rfl 1 rfl ?_
  obtain ⟨hc4, h⟩ := sm_gd_e h
  refine sm_aald (t := 3) (n := (sm_kd (R (R (R a0 3) 5) 0)).2) (q := 12) dX11_playAhead_11 rfl (Prod.ext hc4.1 rfl) (Or.inl ⟨rfl, rfl⟩) hc4.2 rfl ?_
  obtain ⟨hc5, h⟩ := sm_gd_e h
  refine sm_getI (q := 15) dX11_playAhead_12 rfl fk_X11_202 hc5 (by decide) (by decide) ?_
  refine sm_istore_n (L' := [(3, .inl (I (R (R (R (R a0 3) 5) 0) (a1).toNatClampNeg) 0)), (0, .inr (.inl a0)), (1, .inl a1), (2, .inl a2)]) (q := 16) dX11_playAhead_15 rfl rfl (by decide) rfl ?_
  refine sm_iconst (v := 0) (q := 17) dX11_playAhead_16 rfl (by decide) ?_
  refine sm_istore (L' := [(4, .inl (0 : Int32)), (3, .inl (I (R (R (R (R a0 3) 5) 0) (a1).toNatClampNeg) 0)), (0, .inr (.inl a0)), (1, .inl a1), (2, .inl a2)]) (q := 19) dX11_playAhead_17 rfl (by decide) rfl ?_
  refine sm_iconst (v := 0) (q := 20) dX11_playAhead_19 rfl (by decide) ?_
  refine sm_istore (L' := [(5, .inl (0 : Int32)), (4, .inl (0 : Int32)), (3, .inl (I (R (R (R (R a0 3) 5) 0) (a1).toNatClampNeg) 0)), (0, .inr (.inl a0)), (1, .inl a1), (2, .inl a2)]) (q := 22) dX11_playAhead_20 rfl (by decide) rfl ?_
  refine sm_pick [3, 4, 5, 2, 1, 0] rfl ?_
  exact w_X11_playAhead_22 N R N _ _ _ _ _ _ _ _ h
theorem e_X11_playAhead {l : Launch} {N : Nat} {R : Nat → Nat → Nat} {a0 : Nat} {a1 : Int32} {a2 : Int32} {I : (Nat → Nat → Int32)} {y : (Int32 × (Nat → Nat → Int32))} (h : f_X11_playAhead N R a0 a1 a2 I = some y) : sm_E l 0 mX11_playAhead [.inr (.inl a0), .inl a1, .inl a2] (I, R) (.inl (some (.inl y.1))) (y.2, R) :=
  sm_meth (by decide) (Nat.le_of_ble_eq_true rfl) (w_X11_playAhead N R a0 a1 a2 I y h)
