def f_X11_years_57 (N : Nat) (R : Nat → Nat → Nat) (k_34 : Nat → Int32 → Int32 → Int32 → (Nat → Nat → Int32) → Option ((Int32 ⊕ String) × (Nat → Nat → Int32))) : Nat → Nat → Int32 → Int32 → Int32 → Int32 → (Nat → Nat → Int32) → Option ((Int32 ⊕ String) × (Nat → Nat → Int32))
  | 0, _, _, _, _, _, _ => none
  | n + 1, a0, a2, a3, a4, a5, I =>
    sm_gd (sm_kd a0 = (11, 18)) <|
    sm_gd (sm_kd (R a0 12) = (10, 4)) <|
    if (I (R a0 12) 1) ≤ a5 then (
      k_34 a0 a2 a3 (a4 + 1) I)
    else (
      sm_gd ((sm_kd (R (R a0 12) 0)).1 = 16 ∧ ¬ (a5 < 0 ∨ (sm_kd (R (R a0 12) 0)).2 ≤ (a5).toNatClampNeg)) <|
      sm_gd (sm_kd (R a0 3) = (7, 9)) <|
      (f_X7_passWeeks N R (R a0 3) (R (R (R a0 12) 0) (a5).toNatClampNeg) (1 : Int32) I).bind fun p6 =>
      f_X11_years_57 N R k_34 n a0 a2 a3 a4 (a5 + 1) p6.2)
def f_X11_years_34 (N : Nat) (R : Nat → Nat → Nat) : Nat → Nat → Int32 → Int32 → Int32 → (Nat → Nat → Int32) → Option ((Int32 ⊕ String) × (Nat → Nat → Int32))
  | 0, _, _, _, _, _ => none
  | n + 1, a0, a2, a3, a4, I =>
    if a2 ≤ a4 then (
      if a3 = 0 then (
        sm_gd (sm_kd a0 = (11, 18)) <|
        sm_gd (sm_kd (R a0 12) = (10, 4)) <|
        (f_X10_barsOfAll N R (R a0 12) I).bind fun p5 =>
        sm_gd (sm_kd (R a0 3) = (7, 9)) <|
        sm_gd (sm_kd (R (R a0 3) 5) = (10, 4)) <|
        (f_X10_barsOfAll N R (R (R a0 3) 5) p5.2).bind fun p8 =>
        some (.inl (p5.1 - p8.1), p8.2))
      else (
        if a3 = (1 : Int32) then (
          sm_gd (sm_kd a0 = (11, 18)) <|
          (f_X11_piecesDoneInDream N R a0 I).bind fun p11 =>
          some (.inl p11.1, p11.2))
        else (
          sm_gd (sm_kd a0 = (11, 18)) <|
          sm_gd (sm_kd (R a0 12) = (10, 4)) <|
          (f_X10_skillOfAll N R (R a0 12) I).bind fun p14 =>
          some (.inl p14.1, p14.2))))
    else (
      sm_gd (sm_kd a0 = (11, 18)) <|
      sm_gd (sm_kd (R a0 12) = (10, 4)) <|
      if (I (R a0 12) 1) ≤ 0 then (
        f_X11_years_57 N R (fun z0 z1 z2 z3 J => f_X11_years_34 N R n z0 z1 z2 z3 J) N a0 a2 a3 a4 (0 : Int32) I)
      else (
        (f_X11_dreamOfChance N R a0 I).bind fun p18 =>
        f_X11_years_57 N R (fun z0 z1 z2 z3 J => f_X11_years_34 N R n z0 z1 z2 z3 J) N a0 a2 a3 a4 (0 : Int32) p18.2))
def f_X11_years (N : Nat) (R : Nat → Nat → Nat) : Nat → Int32 → Int32 → Int32 → (Nat → Nat → Int32) → Option ((Int32 ⊕ String) × (Nat → Nat → Int32)) := fun a0 a1 a2 a3 I =>
  sm_tb (f_X11_needWhat N R a3 (2 : Int32) I) fun r2 J3 =>
  sm_tb (f_X11_needBetween N R a2 (0 : Int32) (60 : Int32) J3) fun r5 J6 =>
  sm_gd (sm_kd a0 = (11, 18)) <|
  sm_lt (sm_up J6 a0 (sm_up (J6 a0) 17 a1)) fun I8 =>
  sm_gd (sm_kd (R a0 3) = (7, 9)) <|
  sm_gd (sm_kd (R a0 12) = (10, 4)) <|
  (f_X10_become N R (R a0 12) (R (R a0 3) 5) I8).bind fun p11 =>
  f_X11_years_34 N R N a0 a2 a3 (0 : Int32) p11.2
set_option maxHeartbeats 4000000 in
set_option maxRecDepth 100000 in
theorem w_X11_years_57 {l : Launch} (hl : l.stackTraces = false) (N : Nat) (R : Nat → Nat → Nat) (k_34 : Nat → Int32 → Int32 → Int32 → (Nat → Nat → Int32) → Option ((Int32 ⊕ String) × (Nat → Nat → Int32))) (hk_34 : ∀ (a0 : Nat) (a2 : Int32) (a3 : Int32) (a4 : Int32) (I : (Nat → Nat → Int32)) (y : ((Int32 ⊕ String) × (Nat → Nat → Int32))), k_34 a0 a2 a3 a4 I = some y → sm_W l 5 mX11_years 34 [(0, .inr (.inl a0)), (2, .inl a2), (3, .inl a3), (4, .inl a4)] [] (I, R) (sm_oI y.1) (y.2, R)) : ∀ (n : Nat) (a0 : Nat) (a2 : Int32) (a3 : Int32) (a4 : Int32) (a5 : Int32) (I : (Nat → Nat → Int32)) (y : ((Int32 ⊕ String) × (Nat → Nat → Int32))), f_X11_years_57 N R k_34 n a0 a2 a3 a4 a5 I = some y → sm_W l 5 mX11_years 57 [(0, .inr (.inl a0)), (2, .inl a2), (3, .inl a3), (4, .inl a4), (5, .inl a5)] [] (I, R) (sm_oI y.1) (y.2, R) := by
  intro n
  induction n with
  | zero => intro a0 a2 a3 a4 a5 I y h; cases h
  | succ n ih =>
    intro a0 a2 a3 a4 a5 I y h
    rw [f_X11_years_57] at h
    refine sm_iload (q := 59) dX11_years_57 rfl 4 rfl ?_
    refine sm_aload_n (q := 60) dX11_years_59 rfl rfl 0 rfl ?_
    obtain ⟨hc1, h⟩ := sm_gd_e h
    refine sm_getR (r := R a0 12) (q := 63) dX11_years_60 rfl fk_X11_74 hc1 (by decide) (by decide) rfl ?_
    obtain ⟨hc2, h⟩ := sm_gd_e h
    refine sm_getI (q := 66) dX11_years_63 rfl fk_X11_140 hc2 (by decide) (by decide) ?_
    rcases sm_if_e h with ⟨hb3, h⟩ | ⟨hb3, h⟩
    · refine sm_icmp_ge (tgt := 93) (q := 69) dX11_years_66 (by decide) rfl (fun _ => ?_) (fun hn => absurd hb3 hn)
      refine sm_iinc (v := (a4 + 1)) (L' := [(4, .inl (a4 + 1)), (0, .inr (.inl a0)), (2, .inl a2), (3, .inl a3), (5, .inl a5)]) (q := 96) dX11_years_93 rfl 3 rfl rfl (by decide) rfl ?_
      refine sm_goto (q := 34) dX11_years_96 (by decide) ?_
      refine sm_pick [1, 2, 3, 0] rfl ?_
      exact hk_34 _ _ _ _ _ _ h
    · refine sm_icmp_ge (tgt := 93) (q := 69) dX11_years_66 (by decide) rfl (fun ht => absurd ht hb3) (fun _ => ?_)
      refine sm_aload_n (q := 70) dX11_years_69 rfl rfl 0 rfl ?_
      refine sm_getR (r := R a0 3) (q := 73) dX11_years_70 rfl fk_X11_20 hc1 (by decide) (by decide) rfl ?_
      refine sm_aload_n (q := 74) dX11_years_73 rfl rfl 0 rfl ?_
      refine sm_getR (r := R a0 12) (q := 77) dX11_years_74 rfl fk_X11_74 hc1 (by decide) (by decide) rfl ?_
      refine sm_getR (r := R (R a0 12) 0) (q := 80) dX11_years_77 rfl fk_X11_170 hc2 (by decide) (by decide) rfl ?_
      refine sm_iload (q := 82) dX11_years_80 rfl 4 rfl ?_
      obtain ⟨hc4, h⟩ := sm_gd_e h
      refine sm_aald (t := 3) (n := (sm_kd (R (R a0 12) 0)).2) (q := 83) dX11_years_82 rfl (Prod.ext hc4.1 rfl) (Or.inl ⟨rfl, rfl⟩) hc4.2 rfl ?_
      refine sm_iconst (v := 1) (q := 84) dX11_years_83 rfl (by decide) ?_
      obtain ⟨hc5, h⟩ := sm_gd_e h
      obtain ⟨p6, hc_p6, h⟩ := sm_bd_e h
      refine sm_callVv (q := 87) (As := [.inr (.inl (R (R (R a0 12) 0) (a5).toNatClampNeg)), .inl (1 : Int32)]) (S := []) (e_X7_passWeeks hc_p6) mv_X11_239 hc5 rfl (by decide) (Nat.le_of_ble_eq_true rfl) dX11_years_84 rfl ?_
      refine sm_iinc (v := (a5 + 1)) (L' := [(5, .inl (a5 + 1)), (0, .inr (.inl a0)), (2, .inl a2), (3, .inl a3), (4, .inl a4)]) (q := 90) dX11_years_87 rfl 4 rfl rfl (by decide) rfl ?_
      refine sm_goto (q := 57) dX11_years_90 (by decide) ?_
      refine sm_pick [1, 2, 3, 4, 0] rfl ?_
      exact ih _ _ _ _ _ _ _ h
set_option maxHeartbeats 4000000 in
set_option maxRecDepth 100000 in
theorem w_X11_years_34 {l : Launch} (hl : l.stackTraces = false) (N : Nat) (R : Nat → Nat → Nat) : ∀ (n : Nat) (a0 : Nat) (a2 : Int32) (a3 : Int32) (a4 : Int32) (I : (Nat → Nat → Int32)) (y : ((Int32 ⊕ String) × (Nat → Nat → Int32))), f_X11_years_34 N R n a0 a2 a3 a4 I = some y → sm_W l 5 mX11_years 34 [(0, .inr (.inl a0)), (2, .inl a2), (3, .inl a3), (4, .inl a4)] [] (I, R) (sm_oI y.1) (y.2, R) := by
  intro n
  induction n with
  | zero => intro a0 a2 a3 a4 I y h; cases h
  | succ n ih =>
    intro a0 a2 a3 a4 I y h
    rw [f_X11_years_34] at h
    refine sm_iload (q := 36) dX11_years_34 rfl 3 rfl ?_
    refine sm_iload_n (q := 37) dX11_years_36 rfl rfl 1 rfl ?_
    rcases sm_if_e h with ⟨hb1, h⟩ | ⟨hb1, h⟩
    · refine sm_icmp_ge (tgt := 99) (q := 40) dX11_years_37 (by decide) rfl (fun _ => ?_) (fun hn => absurd hb1 hn)
      refine sm_iload_n (q := 100) dX11_years_99 rfl rfl 2 rfl ?_
      rcases sm_if_e h with ⟨hb2, h⟩ | ⟨hb2, h⟩
      · refine sm_if_ne (tgt := 122) (q := 103) dX11_years_100 (by decide) rfl (fun hn => absurd hb2 hn) (fun _ => ?_)
        refine sm_aload_n (q := 104) dX11_years_103 rfl rfl 0 rfl ?_
        obtain ⟨hc3, h⟩ := sm_gd_e h
        refine sm_getR (r := R a0 12) (q := 107) dX11_years_104 rfl fk_X11_74 hc3 (by decide) (by decide) rfl ?_
        obtain ⟨hc4, h⟩ := sm_gd_e h
        obtain ⟨p5, hc_p5, h⟩ := sm_bd_e h
        refine sm_callVi (q := 110) (As := []) (S := []) (e_X10_barsOfAll hc_p5) mv_X11_357 hc4 rfl (by decide) (Nat.le_of_ble_eq_true rfl) dX11_years_107 rfl ?_
        refine sm_aload_n (q := 111) dX11_years_110 rfl rfl 0 rfl ?_
        refine sm_getR (r := R a0 3) (q := 114) dX11_years_111 rfl fk_X11_20 hc3 (by decide) (by decide) rfl ?_
        obtain ⟨hc6, h⟩ := sm_gd_e h
        refine sm_getR (r := R (R a0 3) 5) (q := 117) dX11_years_114 rfl fk_X11_137 hc6 (by decide) (by decide) rfl ?_
        obtain ⟨hc7, h⟩ := sm_gd_e h
        obtain ⟨p8, hc_p8, h⟩ := sm_bd_e h
        refine sm_callVi (q := 120) (As := []) (S := [.inl p5.1]) (e_X10_barsOfAll hc_p8) mv_X11_357 hc7 rfl (by decide) (Nat.le_of_ble_eq_true rfl) dX11_years_117 rfl ?_
        refine sm_isub (q := 121) dX11_years_120 rfl ?_
        obtain rfl := Option.some.inj h
        exact sm_iret dX11_years_121 rfl
      · refine sm_if_ne (tgt := 122) (q := 103) dX11_years_100 (by decide) rfl (fun _ => ?_) (fun he => absurd he hb2)
        refine sm_iload_n (q := 123) dX11_years_122 rfl rfl 2 rfl ?_
        refine sm_iconst (v := 1) (q := 124) dX11_years_123 rfl (by decide) ?_
        rcases sm_if_e h with ⟨hb9, h⟩ | ⟨hb9, h⟩
        · refine sm_icmp_ne (tgt := 134) (q := 127) dX11_years_124 (by decide) rfl (fun hn => absurd hb9 hn) (fun _ => ?_)
          refine sm_aload_n (q := 128) dX11_years_127 rfl rfl 0 rfl ?_
          obtain ⟨hc10, h⟩ := sm_gd_e h
          obtain ⟨p11, hc_p11, h⟩ := sm_bd_e h
          refine sm_callVi (q := 131) (As := []) (S := []) (e_X11_piecesDoneInDream hc_p11) mv_X11_360 hc10 rfl (by decide) (Nat.le_of_ble_eq_true rfl) dX11_years_128 rfl ?_
          refine sm_goto (q := 141) dX11_years_131 (by decide) ?_
          obtain rfl := Option.some.inj h
          exact sm_iret dX11_years_141 rfl
        · refine sm_icmp_ne (tgt := 134) (q := 127) dX11_years_124 (by decide) rfl (fun _ => ?_) (fun he => absurd he hb9)
          refine sm_aload_n (q := 135) dX11_years_134 rfl rfl 0 rfl ?_
          obtain ⟨hc12, h⟩ := sm_gd_e h
          refine sm_getR (r := R a0 12) (q := 138) dX11_years_135 rfl fk_X11_74 hc12 (by decide) (by decide) rfl ?_
          obtain ⟨hc13, h⟩ := sm_gd_e h
          obtain ⟨p14, hc_p14, h⟩ := sm_bd_e h
          refine sm_callVi (q := 141) (As := []) (S := []) (e_X10_skillOfAll hc_p14) mv_X11_157 hc13 rfl (by decide) (Nat.le_of_ble_eq_true rfl) dX11_years_138 rfl ?_
          obtain rfl := Option.some.inj h
          exact sm_iret dX11_years_141 rfl
    · refine sm_icmp_ge (tgt := 99) (q := 40) dX11_years_37 (by decide) rfl (fun ht => absurd ht hb1) (fun _ => ?_)
      refine sm_aload_n (q := 41) dX11_years_40 rfl rfl 0 rfl ?_
      obtain ⟨hc15, h⟩ := sm_gd_e h
      refine sm_getR (r := R a0 12) (q := 44) dX11_years_41 rfl fk_X11_74 hc15 (by decide) (by decide) rfl ?_
      obtain ⟨hc16, h⟩ := sm_gd_e h
      refine sm_getI (q := 47) dX11_years_44 rfl fk_X11_140 hc16 (by decide) (by decide) ?_
      rcases sm_if_e h with ⟨hb17, h⟩ | ⟨hb17, h⟩
      · refine sm_if_le (tgt := 54) (q := 50) dX11_years_47 (by decide) rfl (fun _ => ?_) (fun hn => absurd hb17 hn)
        refine sm_iconst (v := 0) (q := 55) dX11_years_54 rfl (by decide) ?_
        refine sm_istore (L' := [(5, .inl (0 : Int32)), (0, .inr (.inl a0)), (2, .inl a2), (3, .inl a3), (4, .inl a4)]) (q := 57) dX11_years_55 rfl (by decide) rfl ?_
        refine sm_pick [1, 2, 3, 4, 0] rfl ?_
        exact w_X11_years_57 hl N R (fun z0 z1 z2 z3 J => f_X11_years_34 N R n z0 z1 z2 z3 J) (fun z0 z1 z2 z3 J y h => ih z0 z1 z2 z3 J y h) N _ _ _ _ _ _ _ h
      · refine sm_if_le (tgt := 54) (q := 50) dX11_years_47 (by decide) rfl (fun ht => absurd ht hb17) (fun _ => ?_)
        refine sm_aload_n (q := 51) dX11_years_50 rfl rfl 0 rfl ?_
        obtain ⟨p18, hc_p18, h⟩ := sm_bd_e h
        refine sm_callVv (q := 54) (As := []) (S := []) (e_X11_dreamOfChance hc_p18) mv_X11_354 hc15 rfl (by decide) (Nat.le_of_ble_eq_true rfl) dX11_years_51 rfl ?_
        refine sm_iconst (v := 0) (q := 55) dX11_years_54 rfl (by decide) ?_
        refine sm_istore (L' := [(5, .inl (0 : Int32)), (0, .inr (.inl a0)), (2, .inl a2), (3, .inl a3), (4, .inl a4)]) (q := 57) dX11_years_55 rfl (by decide) rfl ?_
        refine sm_pick [1, 2, 3, 4, 0] rfl ?_
        exact w_X11_years_57 hl N R (fun z0 z1 z2 z3 J => f_X11_years_34 N R n z0 z1 z2 z3 J) (fun z0 z1 z2 z3 J y h => ih z0 z1 z2 z3 J y h) N _ _ _ _ _ _ _ h
set_option maxHeartbeats 4000000 in
set_option maxRecDepth 100000 in
theorem w_X11_years {l : Launch} (hl : l.stackTraces = false) (N : Nat) (R : Nat → Nat → Nat) : ∀ (a0 : Nat) (a1 : Int32) (a2 : Int32) (a3 : Int32) (I : (Nat → Nat → Int32)) (y : ((Int32 ⊕ String) × (Nat → Nat → Int32))), f_X11_years N R a0 a1 a2 a3 I = some y → sm_W l 5 mX11_years 0 [(0, .inr (.inl a0)), (1, .inl a1), (2, .inl a2), (3, .inl a3)] [] (I, R) (sm_oI y.1) (y.2, R) := by
  intro a0 a1 a2 a3 I y h
  unfold f_X11_years at h
  refine sm_iload_n (q := 1) dX11_years_0 rfl rfl 3 rfl ?_
  refine sm_iconst (v := 2) (q := 2) dX11_years_1 rfl (by decide) ?_
  rcases sm_tb_e h with ⟨r2, J3, hc_p1, h⟩ | ⟨E9, J9, hc_p1, h⟩
  · refine sm_callSv (q := 5) (As := [.inl a3, .inl (2 : Int32)]) (S := []) (ek_X11_needWhat hl hc_p1) ms_X11_256 rfl (by decide) (Nat.le_of_ble_eq_true rfl) dX11_years_2 rfl ?_
    refine sm_iload_n (q := 6) dX11_years_5 rfl rfl 2 rfl ?_
    refine sm_iconst (v := 0) (q := 7) dX11_years_6 rfl (by decide) ?_
    refine sm_bipush (v := 60) (q := 9) dX11_years_7 rfl (by decide) ?_
    rcases sm_tb_e h with ⟨r5, J6, hc_p4, h⟩ | ⟨E9, J9, hc_p4, h⟩
    · refine sm_callSv (q := 12) (As := [.inl a2, .inl (0 : Int32), .inl (60 : Int32)]) (S := []) (ek_X11_needBetween hl hc_p4) ms_X11_260 rfl (by decide) (Nat.le_of_ble_eq_true rfl) dX11_years_9 rfl ?_
      refine sm_aload_n (q := 13) dX11_years_12 rfl rfl 0 rfl ?_
      refine sm_iload_n (q := 14) dX11_years_13 rfl rfl 1 rfl ?_
      obtain ⟨hc7, h⟩ := sm_gd_e h
      obtain ⟨I8, hI8, h⟩ := sm_lt_e h
      refine sm_putI (q := 17) dX11_years_14 rfl fk_X11_349 hc7 (by decide) (by decide) ?_
      refine sm_memI hI8 ?_
      refine sm_aload_n (q := 18) dX11_years_17 rfl rfl 0 rfl ?_
      refine sm_getR (r := R a0 12) (q := 21) dX11_years_18 rfl fk_X11_74 hc7 (by decide) (by decide) rfl ?_
      refine sm_aload_n (q := 22) dX11_years_21 rfl rfl 0 rfl ?_
      refine sm_getR (r := R a0 3) (q := 25) dX11_years_22 rfl fk_X11_20 hc7 (by decide) (by decide) rfl ?_
      obtain ⟨hc9, h⟩ := sm_gd_e h
      refine sm_getR (r := R (R a0 3) 5) (q := 28) dX11_years_25 rfl fk_X11_137 hc9 (by decide) (by decide) rfl ?_
      obtain ⟨hc10, h⟩ := sm_gd_e h
      obtain ⟨p11, hc_p11, h⟩ := sm_bd_e h
      refine sm_callVv (q := 31) (As := [.inr (.inl (R (R a0 3) 5))]) (S := []) (e_X10_become hc_p11) mv_X11_352 hc10 rfl (by decide) (Nat.le_of_ble_eq_true rfl) dX11_years_28 rfl ?_
      refine sm_iconst (v := 0) (q := 32) dX11_years_31 rfl (by decide) ?_
      refine sm_istore (L' := [(4, .inl (0 : Int32)), (0, .inr (.inl a0)), (1, .inl a1), (2, .inl a2), (3, .inl a3)]) (q := 34) dX11_years_32 rfl (by decide) rfl ?_
      refine sm_pick [1, 3, 4, 0] rfl ?_
      exact w_X11_years_34 hl N R N _ _ _ _ _ _ h
    · obtain rfl := Option.some.inj h
      exact sm_callSX (E := E9) (As := [.inl a2, .inl (0 : Int32), .inl (60 : Int32)]) (S := []) (ex_X11_needBetween hl hc_p4) ms_X11_260 rfl (by decide) (Nat.le_of_ble_eq_true rfl) dX11_years_9
  · obtain rfl := Option.some.inj h
    exact sm_callSX (E := E9) (As := [.inl a3, .inl (2 : Int32)]) (S := []) (ex_X11_needWhat hl hc_p1) ms_X11_256 rfl (by decide) (Nat.le_of_ble_eq_true rfl) dX11_years_2
theorem e_X11_years {l : Launch} (hl : l.stackTraces = false) {N : Nat} {R : Nat → Nat → Nat} {a0 : Nat} {a1 : Int32} {a2 : Int32} {a3 : Int32} {I : (Nat → Nat → Int32)} {y : ((Int32 ⊕ String) × (Nat → Nat → Int32))} (h : f_X11_years N R a0 a1 a2 a3 I = some y) : sm_E l 5 mX11_years [.inr (.inl a0), .inl a1, .inl a2, .inl a3] (I, R) (sm_oI y.1) (y.2, R) :=
  sm_meth (by decide) (Nat.le_of_ble_eq_true rfl) (w_X11_years hl N R a0 a1 a2 a3 I y h)
theorem ek_X11_years {l : Launch} (hl : l.stackTraces = false) {N : Nat} {R : Nat → Nat → Nat} {a0 : Nat} {a1 : Int32} {a2 : Int32} {a3 : Int32} {I : (Nat → Nat → Int32)} {r : Int32} {J : (Nat → Nat → Int32)} (h : f_X11_years N R a0 a1 a2 a3 I = some (.inl r, J)) : sm_E l 5 mX11_years [.inr (.inl a0), .inl a1, .inl a2, .inl a3] (I, R) (.inl (some (.inl r))) (J, R) := by
  have h1 := e_X11_years (l := l) hl h
  exact h1
theorem ex_X11_years {l : Launch} (hl : l.stackTraces = false) {N : Nat} {R : Nat → Nat → Nat} {a0 : Nat} {a1 : Int32} {a2 : Int32} {a3 : Int32} {I : (Nat → Nat → Int32)} {E : String} {J : (Nat → Nat → Int32)} (h : f_X11_years N R a0 a1 a2 a3 I = some (.inr E, J)) : sm_E l 5 mX11_years [.inr (.inl a0), .inl a1, .inl a2, .inl a3] (I, R) (.inr E) (J, R) := by
  have h1 := e_X11_years (l := l) hl h
  exact h1
