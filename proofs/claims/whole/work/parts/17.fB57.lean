def f_X11_dreamOfChance (N : Nat) (R : Nat → Nat → Nat) : Nat → (Nat → Nat → Int32) → Option (Unit × (Nat → Nat → Int32)) := fun a0 I =>
  sm_gd (sm_kd a0 = (11, 18)) <|
  (f_X11_draw N R a0 (5 : Int32) I).bind fun p2 =>
  if p2.1 ≤ (2 : Int32) then (
    sm_gd (sm_kd (R a0 12) = (10, 4)) <|
    (f_X11_draw N R a0 (p2.2 (R a0 12) 1) p2.2).bind fun p5 =>
    if p5.1 < 0 then (
      some ((), p5.2))
    else (
      if p5.1 < (7 : Int32) then (
        sm_gd ((sm_kd (R (R a0 12) 0)).1 = 16 ∧ ¬ (p5.1 < 0 ∨ (sm_kd (R (R a0 12) 0)).2 ≤ (p5.1).toNatClampNeg)) <|
        if p2.1 = 0 then (
          (f_X11_draw N R a0 (30 : Int32) p5.2).bind fun p10 =>
          (f_X10_couldGo N R (R a0 12) (R (R (R a0 12) 0) (p5.1).toNatClampNeg) (p10.1 + (1 : Int32)) p10.2).bind fun p11 =>
          if p11.1 = 0 then (
            some ((), p11.2))
          else (
            sm_gd (sm_kd (R a0 3) = (7, 9)) <|
            (f_X7_goThrough N R (R a0 3) (R (R (R a0 12) 0) (p5.1).toNatClampNeg) (p10.1 + (1 : Int32)) p11.2).bind fun p14 =>
            some ((), p14.2)))
        else (
          if p2.1 = (1 : Int32) then (
            sm_gd (sm_kd (R (R (R a0 12) 0) (p5.1).toNatClampNeg) = (4, 6)) <|
            (f_X4_addSore N R (R (R (R a0 12) 0) (p5.1).toNatClampNeg) (3 : Int32) p5.2).bind fun p17 =>
            some ((), p17.2))
          else (
            sm_gd (sm_kd (R (R (R a0 12) 0) (p5.1).toNatClampNeg) = (4, 6)) <|
            (f_X4_addSore N R (R (R (R a0 12) 0) (p5.1).toNatClampNeg) (-3 : Int32) p5.2).bind fun p19 =>
            some ((), p19.2))))
      else (
        some ((), p5.2))))
  else (
    some ((), p2.2))
set_option maxHeartbeats 4000000 in
set_option maxRecDepth 100000 in
theorem w_X11_dreamOfChance {l : Launch} (N : Nat) (R : Nat → Nat → Nat) : ∀ (a0 : Nat) (I : (Nat → Nat → Int32)) (y : (Unit × (Nat → Nat → Int32))), f_X11_dreamOfChance N R a0 I = some y → sm_W l 4 mX11_dreamOfChance 0 [(0, .inr (.inl a0))] [] (I, R) (.inl none) (y.2, R) := by
  intro a0 I y h
  unfold f_X11_dreamOfChance at h
  refine sm_aload_n (q := 1) dX11_dreamOfChance_0 rfl rfl 0 rfl ?_
  refine sm_iconst (v := 5) (q := 2) dX11_dreamOfChance_1 rfl (by decide) ?_
  obtain ⟨hc1, h⟩ := sm_gd_e h
  obtain ⟨p2, hc_p2, h⟩ := sm_bd_e h
  refine sm_callVi (q := 5) (As := [.inl (5 : Int32)]) (S := []) (e_X11_draw hc_p2) mv_X11_363 hc1 rfl (by decide) (Nat.le_of_ble_eq_true rfl) dX11_dreamOfChance_2 rfl ?_
  refine sm_istore_n (L' := [(1, .inl p2.1), (0, .inr (.inl a0))]) (q := 6) dX11_dreamOfChance_5 rfl rfl (by decide) rfl ?_
  refine sm_iload_n (q := 7) dX11_dreamOfChance_6 rfl rfl 0 rfl ?_
  refine sm_iconst (v := 2) (q := 8) dX11_dreamOfChance_7 rfl (by decide) ?_
  rcases sm_if_e h with ⟨hb3, h⟩ | ⟨hb3, h⟩
  · refine sm_icmp_le (tgt := 12) (q := 11) dX11_dreamOfChance_8 (by decide) rfl (fun _ => ?_) (fun hn => absurd hb3 hn)
    refine sm_aload_n (q := 13) dX11_dreamOfChance_12 rfl rfl 1 rfl ?_
    refine sm_aload_n (q := 14) dX11_dreamOfChance_13 rfl rfl 1 rfl ?_
    refine sm_getR (r := R a0 12) (q := 17) dX11_dreamOfChance_14 rfl fk_X11_74 hc1 (by decide) (by decide) rfl ?_
    obtain ⟨hc4, h⟩ := sm_gd_e h
    refine sm_getI (q := 20) dX11_dreamOfChance_17 rfl fk_X11_140 hc4 (by decide) (by decide) ?_
    obtain ⟨p5, hc_p5, h⟩ := sm_bd_e h
    refine sm_callVi (q := 23) (As := [.inl (p2.2 (R a0 12) 1)]) (S := []) (e_X11_draw hc_p5) mv_X11_363 hc1 rfl (by decide) (Nat.le_of_ble_eq_true rfl) dX11_dreamOfChance_20 rfl ?_
    refine sm_istore_n (L' := [(2, .inl p5.1), (1, .inl p2.1), (0, .inr (.inl a0))]) (q := 24) dX11_dreamOfChance_23 rfl rfl (by decide) rfl ?_
    refine sm_iload_n (q := 25) dX11_dreamOfChance_24 rfl rfl 0 rfl ?_
    rcases sm_if_e h with ⟨hb6, h⟩ | ⟨hb6, h⟩
    · refine sm_if_lt (tgt := 34) (q := 28) dX11_dreamOfChance_25 (by decide) rfl (fun _ => ?_) (fun hn => absurd hb6 hn)
      obtain rfl := Option.some.inj h
      exact sm_vret dX11_dreamOfChance_34 rfl
    · refine sm_if_lt (tgt := 34) (q := 28) dX11_dreamOfChance_25 (by decide) rfl (fun ht => absurd ht hb6) (fun _ => ?_)
      refine sm_iload_n (q := 29) dX11_dreamOfChance_28 rfl rfl 0 rfl ?_
      refine sm_bipush (v := 7) (q := 31) dX11_dreamOfChance_29 rfl (by decide) ?_
      rcases sm_if_e h with ⟨hb7, h⟩ | ⟨hb7, h⟩
      · refine sm_icmp_lt (tgt := 35) (q := 34) dX11_dreamOfChance_31 (by decide) rfl (fun _ => ?_) (fun hn => absurd hb7 hn)
        refine sm_aload_n (q := 36) dX11_dreamOfChance_35 rfl rfl 2 rfl ?_
        refine sm_getR (r := R a0 12) (q := 39) dX11_dreamOfChance_36 rfl fk_X11_74 hc1 (by decide) (by decide) rfl ?_
        refine sm_getR (r := R (R a0 12) 0) (q := 42) dX11_dreamOfChance_39 rfl fk_X11_170 hc4 (by decide) (by decide) rfl ?_
        refine sm_iload_n (q := 43) dX11_dreamOfChance_42 rfl rfl 0 rfl ?_
        obtain ⟨hc8, h⟩ := sm_gd_e h
        refine sm_aald (t := 3) (n := (sm_kd (R (R a0 12) 0)).2) (q := 44) dX11_dreamOfChance_43 rfl (Prod.ext hc8.1 rfl) (Or.inl ⟨rfl, rfl⟩) hc8.2 rfl ?_
        refine sm_astore_n (L' := [(3, .inr (.inl (R (R (R a0 12) 0) (p5.1).toNatClampNeg))), (2, .inl p5.1), (1, .inl p2.1), (0, .inr (.inl a0))]) (q := 45) dX11_dreamOfChance_44 rfl rfl (by decide) rfl ?_
        refine sm_iload_n (q := 46) dX11_dreamOfChance_45 rfl rfl 2 rfl ?_
        rcases sm_if_e h with ⟨hb9, h⟩ | ⟨hb9, h⟩
        · refine sm_if_ne (tgt := 85) (q := 49) dX11_dreamOfChance_46 (by decide) rfl (fun hn => absurd hb9 hn) (fun _ => ?_)
          refine sm_aload_n (q := 50) dX11_dreamOfChance_49 rfl rfl 3 rfl ?_
          refine sm_bipush (v := 30) (q := 52) dX11_dreamOfChance_50 rfl (by decide) ?_
          obtain ⟨p10, hc_p10, h⟩ := sm_bd_e h
          refine sm_callVi (q := 55) (As := [.inl (30 : Int32)]) (S := []) (e_X11_draw hc_p10) mv_X11_363 hc1 rfl (by decide) (Nat.le_of_ble_eq_true rfl) dX11_dreamOfChance_52 rfl ?_
          refine sm_iconst (v := 1) (q := 56) dX11_dreamOfChance_55 rfl (by decide) ?_
          refine sm_iadd (q := 57) dX11_dreamOfChance_56 rfl ?_
          refine sm_istore (L' := [(4, .inl (p10.1 + (1 : Int32))), (3, .inr (.inl (R (R (R a0 12) 0) (p5.1).toNatClampNeg))), (2, .inl p5.1), (1, .inl p2.1), (0, .inr (.inl a0))]) (q := 59) dX11_dreamOfChance_57 rfl (by decide) rfl ?_
          refine sm_aload_n (q := 60) dX11_dreamOfChance_59 rfl rfl 4 rfl ?_
          refine sm_getR (r := R a0 12) (q := 63) dX11_dreamOfChance_60 rfl fk_X11_74 hc1 (by decide) (by decide) rfl ?_
          refine sm_aload_n (q := 64) dX11_dreamOfChance_63 rfl rfl 1 rfl ?_
          refine sm_iload (q := 66) dX11_dreamOfChance_64 rfl 0 rfl ?_
          obtain ⟨p11, hc_p11, h⟩ := sm_bd_e h
          refine sm_callVi (q := 69) (As := [.inr (.inl (R (R (R a0 12) 0) (p5.1).toNatClampNeg)), .inl (p10.1 + (1 : Int32))]) (S := []) (e_X10_couldGo hc_p11) mv_X11_243 hc4 rfl (by decide) (Nat.le_of_ble_eq_true rfl) dX11_dreamOfChance_66 rfl ?_
          rcases sm_if_e h with ⟨hb12, h⟩ | ⟨hb12, h⟩
          · refine sm_if_eq (tgt := 82) (q := 72) dX11_dreamOfChance_69 (by decide) rfl (fun _ => ?_) (fun hn => absurd hb12 hn)
            refine sm_goto (q := 100) dX11_dreamOfChance_82 (by decide) ?_
            obtain rfl := Option.some.inj h
            exact sm_vret dX11_dreamOfChance_100 rfl
          · refine sm_if_eq (tgt := 82) (q := 72) dX11_dreamOfChance_69 (by decide) rfl (fun ht => absurd ht hb12) (fun _ => ?_)
            refine sm_aload_n (q := 73) dX11_dreamOfChance_72 rfl rfl 4 rfl ?_
            refine sm_getR (r := R a0 3) (q := 76) dX11_dreamOfChance_73 rfl fk_X11_20 hc1 (by decide) (by decide) rfl ?_
            refine sm_aload_n (q := 77) dX11_dreamOfChance_76 rfl rfl 1 rfl ?_
            refine sm_iload (q := 79) dX11_dreamOfChance_77 rfl 0 rfl ?_
            obtain ⟨hc13, h⟩ := sm_gd_e h
            obtain ⟨p14, hc_p14, h⟩ := sm_bd_e h
            refine sm_callVv (q := 82) (As := [.inr (.inl (R (R (R a0 12) 0) (p5.1).toNatClampNeg)), .inl (p10.1 + (1 : Int32))]) (S := []) (e_X7_goThrough hc_p14) mv_X11_247 hc13 rfl (by decide) (Nat.le_of_ble_eq_true rfl) dX11_dreamOfChance_79 rfl ?_
            refine sm_goto (q := 100) dX11_dreamOfChance_82 (by decide) ?_
            obtain rfl := Option.some.inj h
            exact sm_vret dX11_dreamOfChance_100 rfl
        · refine sm_if_ne (tgt := 85) (q := 49) dX11_dreamOfChance_46 (by decide) rfl (fun _ => ?_) (fun he => absurd he hb9)
          refine sm_aload_n (q := 86) dX11_dreamOfChance_85 rfl rfl 0 rfl ?_
          refine sm_iload_n (q := 87) dX11_dreamOfChance_86 rfl rfl 2 rfl ?_
          refine sm_iconst (v := 1) (q := 88) dX11_dreamOfChance_87 rfl (by decide) ?_
          rcases sm_if_e h with ⟨hb15, h⟩ | ⟨hb15, h⟩
          · refine sm_icmp_ne (tgt := 95) (q := 91) dX11_dreamOfChance_88 (by decide) rfl (fun hn => absurd hb15 hn) (fun _ => ?_)
            refine sm_iconst (v := 3) (q := 92) dX11_dreamOfChance_91 rfl (by decide) ?_
            refine sm_goto (q := 97) dX11_dreamOfChance_92 (by decide) ?_
            obtain ⟨hc16, h⟩ := sm_gd_e h
            obtain ⟨p17, hc_p17, h⟩ := sm_bd_e h
            refine sm_callVv (q := 100) (As := [.inl (3 : Int32)]) (S := []) (e_X4_addSore hc_p17) mv_X11_250 hc16 rfl (by decide) (Nat.le_of_ble_eq_true rfl) dX11_dreamOfChance_97 rfl ?_
            obtain rfl := Option.some.inj h
            exact sm_vret dX11_dreamOfChance_100 rfl
          · refine sm_icmp_ne (tgt := 95) (q := 91) dX11_dreamOfChance_88 (by decide) rfl (fun _ => ?_) (fun he => absurd he hb15)
            refine sm_bipush (v := -3) (q := 97) dX11_dreamOfChance_95 rfl (by decide) ?_
            obtain ⟨hc18, h⟩ := sm_gd_e h
            obtain ⟨p19, hc_p19, h⟩ := sm_bd_e h
            refine sm_callVv (q := 100) (As := [.inl (-3 : Int32)]) (S := []) (e_X4_addSore hc_p19) mv_X11_250 hc18 rfl (by decide) (Nat.le_of_ble_eq_true rfl) dX11_dreamOfChance_97 rfl ?_
            obtain rfl := Option.some.inj h
            exact sm_vret dX11_dreamOfChance_100 rfl
      · refine sm_icmp_lt (tgt := 35) (q := 34) dX11_dreamOfChance_31 (by decide) rfl (fun ht => absurd ht hb7) (fun _ => ?_)
        obtain rfl := Option.some.inj h
        exact sm_vret dX11_dreamOfChance_34 rfl
  · refine sm_icmp_le (tgt := 12) (q := 11) dX11_dreamOfChance_8 (by decide) rfl (fun ht => absurd ht hb3) (fun _ => ?_)
    obtain rfl := Option.some.inj h
    exact sm_vret dX11_dreamOfChance_11 rfl
theorem e_X11_dreamOfChance {l : Launch} {N : Nat} {R : Nat → Nat → Nat} {a0 : Nat} {I : (Nat → Nat → Int32)} {y : (Unit × (Nat → Nat → Int32))} (h : f_X11_dreamOfChance N R a0 I = some y) : sm_E l 4 mX11_dreamOfChance [.inr (.inl a0)] (I, R) (.inl none) (y.2, R) :=
  sm_meth (by decide) (Nat.le_of_ble_eq_true rfl) (w_X11_dreamOfChance N R a0 I y h)
