def sm_s1 {α : Type} (I : Nat → Nat → α) (k j : Nat) (x : α) : Nat → Nat → α := sm_up I k (sm_up (I k) j x)
theorem sn_dfs {α : Type} {I : Nat → Nat → α} {z : Nat → α} {t0 t1 a j : Nat} {x : α} (h : ∀ k, t0 ≤ k → I k = z) (ht : t0 ≤ t1) (ha : a < t1) : ∀ k, t1 ≤ k → sm_s1 I a j x k = z := sn_dft h ht ha
theorem sn_mono {α : Type} {I : Nat → Nat → α} {z : Nat → α} {t0 t1 : Nat} (h : ∀ k, t0 ≤ k → I k = z) (ht : t0 ≤ t1) : ∀ k, t1 ≤ k → I k = z := fun k hk => h k (Nat.le_trans ht hk)
theorem kd_0 : sm_kd 0 = (11, 16) := by decide +kernel
theorem kd_1 : sm_kd 1 = (5, 11) := by decide +kernel
theorem kd_2 : sm_kd 2 = (14, 700) := by decide +kernel
theorem kd_3 : sm_kd 3 = (7, 9) := by decide +kernel
theorem kd_4 : sm_kd 4 = (13, 6) := by decide +kernel
theorem kd_5 : sm_kd 5 = (13, 6) := by decide +kernel
theorem kd_6 : sm_kd 6 = (13, 48) := by decide +kernel
theorem kd_7 : sm_kd 7 = (6, 4) := by decide +kernel
theorem kd_8 : sm_kd 8 = (13, 700) := by decide +kernel
theorem kd_9 : sm_kd 9 = (13, 64) := by decide +kernel
theorem kd_10 : sm_kd 10 = (10, 4) := by decide +kernel
theorem kd_11 : sm_kd 11 = (16, 7) := by decide +kernel
theorem kd_12 : sm_kd 12 = (4, 6) := by decide +kernel
theorem kd_13 : sm_kd 13 = (4, 6) := by decide +kernel
theorem kd_14 : sm_kd 14 = (4, 6) := by decide +kernel
theorem kd_15 : sm_kd 15 = (4, 6) := by decide +kernel
theorem kd_16 : sm_kd 16 = (4, 6) := by decide +kernel
theorem kd_17 : sm_kd 17 = (4, 6) := by decide +kernel
theorem kd_18 : sm_kd 18 = (4, 6) := by decide +kernel
theorem kd_19 : sm_kd 19 = (13, 6) := by decide +kernel
theorem kd_20 : sm_kd 20 = (13, 9) := by decide +kernel
theorem kd_21 : sm_kd 21 = (13, 9) := by decide +kernel
theorem kd_22 : sm_kd 22 = (7, 9) := by decide +kernel
theorem kd_23 : sm_kd 23 = (13, 6) := by decide +kernel
theorem kd_24 : sm_kd 24 = (13, 6) := by decide +kernel
theorem kd_25 : sm_kd 25 = (13, 48) := by decide +kernel
theorem kd_26 : sm_kd 26 = (6, 4) := by decide +kernel
theorem kd_27 : sm_kd 27 = (13, 700) := by decide +kernel
theorem kd_28 : sm_kd 28 = (13, 64) := by decide +kernel
theorem kd_29 : sm_kd 29 = (10, 4) := by decide +kernel
theorem kd_30 : sm_kd 30 = (16, 7) := by decide +kernel
theorem kd_31 : sm_kd 31 = (4, 6) := by decide +kernel
theorem kd_32 : sm_kd 32 = (4, 6) := by decide +kernel
theorem kd_33 : sm_kd 33 = (4, 6) := by decide +kernel
theorem kd_34 : sm_kd 34 = (4, 6) := by decide +kernel
theorem kd_35 : sm_kd 35 = (4, 6) := by decide +kernel
theorem kd_36 : sm_kd 36 = (4, 6) := by decide +kernel
theorem kd_37 : sm_kd 37 = (4, 6) := by decide +kernel
theorem kd_38 : sm_kd 38 = (13, 6) := by decide +kernel
theorem kd_39 : sm_kd 39 = (13, 9) := by decide +kernel
theorem kd_40 : sm_kd 40 = (13, 9) := by decide +kernel
theorem kd_41 : sm_kd 41 = (0, 3) := by decide +kernel
theorem kd_42 : sm_kd 42 = (13, 1480) := by decide +kernel
theorem kd_43 : sm_kd 43 = (9, 4) := by decide +kernel
theorem kd_44 : sm_kd 44 = (13, 8) := by decide +kernel
theorem kd_45 : sm_kd 45 = (13, 8) := by decide +kernel
theorem kd_46 : sm_kd 46 = (13, 8) := by decide +kernel
theorem kd_47 : sm_kd 47 = (13, 3) := by decide +kernel
theorem kd_48 : sm_kd 48 = (3, 5) := by decide +kernel
theorem kd_49 : sm_kd 49 = (13, 37) := by decide +kernel
theorem kd_50 : sm_kd 50 = (0, 3) := by decide +kernel
theorem kd_51 : sm_kd 51 = (13, 1480) := by decide +kernel
theorem kd_52 : sm_kd 52 = (9, 4) := by decide +kernel
theorem kd_53 : sm_kd 53 = (13, 8) := by decide +kernel
theorem kd_54 : sm_kd 54 = (13, 8) := by decide +kernel
theorem kd_55 : sm_kd 55 = (13, 8) := by decide +kernel
theorem kd_56 : sm_kd 56 = (13, 3) := by decide +kernel
theorem kd_57 : sm_kd 57 = (4, 6) := by decide +kernel
theorem kd_58 : sm_kd 58 = (4, 6) := by decide +kernel
theorem kd_59 : sm_kd 59 = (10, 4) := by decide +kernel
theorem kd_60 : sm_kd 60 = (16, 7) := by decide +kernel
theorem kd_61 : sm_kd 61 = (4, 6) := by decide +kernel
theorem kd_62 : sm_kd 62 = (4, 6) := by decide +kernel
theorem kd_63 : sm_kd 63 = (4, 6) := by decide +kernel
theorem kd_64 : sm_kd 64 = (4, 6) := by decide +kernel
theorem kd_65 : sm_kd 65 = (4, 6) := by decide +kernel
theorem kd_66 : sm_kd 66 = (4, 6) := by decide +kernel
theorem kd_67 : sm_kd 67 = (4, 6) := by decide +kernel
theorem kd_68 : sm_kd 68 = (13, 61) := by decide +kernel
theorem kd_69 : sm_kd 69 = (8, 5) := by decide +kernel
theorem kd_70 : sm_kd 70 = (13, 7) := by decide +kernel
theorem kd_71 : sm_kd 71 = (4, 6) := by decide +kernel
theorem kd_72 : sm_kd 72 = (15, 100) := by decide +kernel
theorem kd_73 : sm_kd 73 = (1, 2) := by decide +kernel
theorem kd_74 : sm_kd 74 = (13, 512) := by decide +kernel
theorem kd_75 : sm_kd 75 = (13, 42) := by decide +kernel
theorem kd_76 : sm_kd 76 = (2, 3) := by decide +kernel
theorem kd_77 : sm_kd 77 = (15, 2) := by decide +kernel
theorem kd_78 : sm_kd 78 = (13, 8) := by decide +kernel
theorem kd_79 : sm_kd 79 = (4, 6) := by decide +kernel
theorem kd_80 : sm_kd 80 = (12, 59) := by decide +kernel
theorem kd_81 : sm_kd 81 = (17, 2) := by decide +kernel
theorem kd_82 : sm_kd 82 = (17, 2) := by decide +kernel
theorem kd_83 : sm_kd 83 = (17, 6) := by decide +kernel
theorem kd_84 : sm_kd 84 = (13, 8) := by decide +kernel
theorem kd_85 : sm_kd 85 = (13, 12) := by decide +kernel
theorem kd_86 : sm_kd 86 = (13, 12) := by decide +kernel
theorem kd_87 : sm_kd 87 = (13, 96) := by decide +kernel
theorem kd_88 : sm_kd 88 = (13, 14) := by decide +kernel
theorem kd_89 : sm_kd 89 = (13, 14) := by decide +kernel
theorem kd_90 : sm_kd 90 = (13, 14) := by decide +kernel
theorem kd_91 : sm_kd 91 = (13, 14) := by decide +kernel
theorem kd_92 : sm_kd 92 = (13, 1400) := by decide +kernel
theorem kd_93 : sm_kd 93 = (13, 3) := by decide +kernel
theorem kd_94 : sm_kd 94 = (13, 700) := by decide +kernel
theorem kd_95 : sm_kd 95 = (13, 7) := by decide +kernel
theorem kd_96 : sm_kd 96 = (13, 7) := by decide +kernel
theorem kd_97 : sm_kd 97 = (13, 7) := by decide +kernel
theorem kd_98 : sm_kd 98 = (13, 7) := by decide +kernel
theorem kd_99 : sm_kd 99 = (13, 7) := by decide +kernel
theorem kd_100 : sm_kd 100 = (13, 1480) := by decide +kernel
theorem kd_101 : sm_kd 101 = (13, 6) := by decide +kernel
theorem kd_102 : sm_kd 102 = (13, 64) := by decide +kernel
theorem kd_103 : sm_kd 103 = (13, 37) := by decide +kernel
theorem kd_104 : sm_kd 104 = (13, 37) := by decide +kernel
theorem kd_105 : sm_kd 105 = (13, 512) := by decide +kernel
theorem kd_106 : sm_kd 106 = (13, 81) := by decide +kernel
theorem kd_107 : sm_kd 107 = (13, 8) := by decide +kernel
theorem kd_108 : sm_kd 108 = (13, 8) := by decide +kernel
theorem kd_109 : sm_kd 109 = (13, 8) := by decide +kernel
theorem kd_110 : sm_kd 110 = (13, 37) := by decide +kernel
theorem kd_111 : sm_kd 111 = (13, 140) := by decide +kernel
theorem kd_112 : sm_kd 112 = (13, 980) := by decide +kernel
theorem kd_113 : sm_kd 113 = (13, 8) := by decide +kernel
theorem kd_114 : sm_kd 114 = (13, 37) := by decide +kernel
theorem kd_115 : sm_kd 115 = (13, 1480) := by decide +kernel
theorem kd_116 : sm_kd 116 = (13, 8) := by decide +kernel
theorem kd_117 : sm_kd 117 = (13, 8) := by decide +kernel
theorem kd_118 : sm_kd 118 = (13, 8) := by decide +kernel
theorem kd_119 : sm_kd 119 = (13, 3) := by decide +kernel
theorem ob_im : Cond.instanceMethod objectInit ∈ sm_gt := sm_g1 33 (by decide +kernel) rfl
theorem ob_co : Cond.code objectInit ⟨#[0xb1]⟩ 1 none ∈ sm_gt := sm_g1 34 (by decide +kernel) rfl
theorem ar_int : Cond.arrayClass .int ∈ sm_gt := sm_g1 69 (by decide +kernel) rfl
theorem ar_byte : Cond.arrayClass .byte ∈ sm_gt := sm_g1 68 (by decide +kernel) rfl
theorem ar_boolean : Cond.arrayClass .boolean ∈ sm_gt := sm_g2 90 (by decide +kernel) rfl
abbrev mX0_init : sm_I := (yX0_init, cX0_init, 1, none)
theorem ik_X0_init : sn_mk 0 mX0_init := ⟨in_X0, sm_g1 238 (by decide +kernel) rfl, sm_g1 237 (by decide +kernel) rfl, rfl, rfl, by decide, by decide, by decide +kernel, by decide⟩
theorem df_X0 : ∀ j, j < 3 → defaultValue (tyX0 j) = if sm_isR 0 j = true then .null else .int 0 := by decide +kernel
theorem dw_X0 : ∀ j, j < 3 → ∀ q : vw_C, sm_cs[0]? = some q → (q.2.1 j).1 = RX0 := by
  intro j hj q hq
  have hq : (RX0, TX0, 3) = q := Option.some.inj hq
  subst hq
  exact (show ∀ j, j < 3 → (TX0 j).1 = RX0 by decide +kernel) j hj
theorem it_X0 : Cond.instantiable RX0 3 ∈ sm_gt := sm_g1 235 (by decide +kernel) rfl
abbrev mX1_init : sm_I := (yX1_init, cX1_init, 1, none)
theorem ik_X1_init : sn_mk 0 mX1_init := ⟨in_X1, sm_g2 95 (by decide +kernel) rfl, sm_g2 94 (by decide +kernel) rfl, rfl, rfl, by decide, by decide, by decide +kernel, by decide⟩
theorem df_X1 : ∀ j, j < 2 → defaultValue (tyX1 j) = if sm_isR 1 j = true then .null else .int 0 := by decide +kernel
theorem dw_X1 : ∀ j, j < 2 → ∀ q : vw_C, sm_cs[1]? = some q → (q.2.1 j).1 = RX1 := by
  intro j hj q hq
  have hq : (RX1, TX1, 2) = q := Option.some.inj hq
  subst hq
  exact (show ∀ j, j < 2 → (TX1 j).1 = RX1 by decide +kernel) j hj
theorem it_X1 : Cond.instantiable RX1 2 ∈ sm_gt := sm_g2 92 (by decide +kernel) rfl
abbrev mX2_init : sm_I := (yX2_init, cX2_init, 1, none)
theorem ik_X2_init : sn_mk 0 mX2_init := ⟨in_X2, sm_g2 108 (by decide +kernel) rfl, sm_g2 107 (by decide +kernel) rfl, rfl, rfl, by decide, by decide, by decide +kernel, by decide⟩
theorem df_X2 : ∀ j, j < 3 → defaultValue (tyX2 j) = if sm_isR 2 j = true then .null else .int 0 := by decide +kernel
theorem dw_X2 : ∀ j, j < 3 → ∀ q : vw_C, sm_cs[2]? = some q → (q.2.1 j).1 = RX2 := by
  intro j hj q hq
  have hq : (RX2, TX2, 3) = q := Option.some.inj hq
  subst hq
  exact (show ∀ j, j < 3 → (TX2 j).1 = RX2 by decide +kernel) j hj
theorem it_X2 : Cond.instantiable RX2 3 ∈ sm_gt := sm_g2 105 (by decide +kernel) rfl
abbrev mX3_init : sm_I := (yX3_init, cX3_init, 1, none)
theorem ik_X3_init : sn_mk 0 mX3_init := ⟨in_X3, sm_g2 35 (by decide +kernel) rfl, sm_g2 34 (by decide +kernel) rfl, rfl, rfl, by decide, by decide, by decide +kernel, by decide⟩
theorem df_X3 : ∀ j, j < 5 → defaultValue (tyX3 j) = if sm_isR 3 j = true then .null else .int 0 := by decide +kernel
theorem dw_X3 : ∀ j, j < 5 → ∀ q : vw_C, sm_cs[3]? = some q → (q.2.1 j).1 = RX3 := by
  intro j hj q hq
  have hq : (RX3, TX3, 5) = q := Option.some.inj hq
  subst hq
  exact (show ∀ j, j < 5 → (TX3 j).1 = RX3 by decide +kernel) j hj
theorem it_X3 : Cond.instantiable RX3 5 ∈ sm_gt := sm_g2 32 (by decide +kernel) rfl
abbrev mX4_init : sm_I := (yX4_init, cX4_init, 1, none)
theorem ik_X4_init : sn_mk 0 mX4_init := ⟨in_X4, sm_g1 81 (by decide +kernel) rfl, sm_g1 80 (by decide +kernel) rfl, rfl, rfl, by decide, by decide, by decide +kernel, by decide⟩
theorem df_X4 : ∀ j, j < 6 → defaultValue (tyX4 j) = if sm_isR 4 j = true then .null else .int 0 := by decide +kernel
theorem dw_X4 : ∀ j, j < 6 → ∀ q : vw_C, sm_cs[4]? = some q → (q.2.1 j).1 = RX4 := by
  intro j hj q hq
  have hq : (RX4, TX4, 6) = q := Option.some.inj hq
  subst hq
  exact (show ∀ j, j < 6 → (TX4 j).1 = RX4 by decide +kernel) j hj
theorem it_X4 : Cond.instantiable RX4 6 ∈ sm_gt := sm_g1 78 (by decide +kernel) rfl
abbrev mX5_init : sm_I := (yX5_init, cX5_init, 1, none)
theorem ik_X5_init : sn_mk 0 mX5_init := ⟨in_X5, sm_g1 39 (by decide +kernel) rfl, sm_g1 38 (by decide +kernel) rfl, rfl, rfl, by decide, by decide, by decide +kernel, by decide⟩
theorem df_X5 : ∀ j, j < 11 → defaultValue (tyX5 j) = if sm_isR 5 j = true then .null else .int 0 := by decide +kernel
theorem dw_X5 : ∀ j, j < 11 → ∀ q : vw_C, sm_cs[5]? = some q → (q.2.1 j).1 = RX5 := by
  intro j hj q hq
  have hq : (RX5, TX5, 11) = q := Option.some.inj hq
  subst hq
  exact (show ∀ j, j < 11 → (TX5 j).1 = RX5 by decide +kernel) j hj
theorem it_X5 : Cond.instantiable RX5 11 ∈ sm_gt := sm_g1 36 (by decide +kernel) rfl
abbrev mX6_init : sm_I := (yX6_init, cX6_init, 1, none)
theorem ik_X6_init : sn_mk 0 mX6_init := ⟨in_X6, sm_g1 51 (by decide +kernel) rfl, sm_g1 50 (by decide +kernel) rfl, rfl, rfl, by decide, by decide, by decide +kernel, by decide⟩
theorem df_X6 : ∀ j, j < 4 → defaultValue (tyX6 j) = if sm_isR 6 j = true then .null else .int 0 := by decide +kernel
theorem dw_X6 : ∀ j, j < 4 → ∀ q : vw_C, sm_cs[6]? = some q → (q.2.1 j).1 = RX6 := by
  intro j hj q hq
  have hq : (RX6, TX6, 4) = q := Option.some.inj hq
  subst hq
  exact (show ∀ j, j < 4 → (TX6 j).1 = RX6 by decide +kernel) j hj
theorem it_X6 : Cond.instantiable RX6 4 ∈ sm_gt := sm_g1 48 (by decide +kernel) rfl
abbrev mX7_init : sm_I := (yX7_init, cX7_init, 1, none)
theorem ik_X7_init : sn_mk 0 mX7_init := ⟨in_X7, sm_g1 45 (by decide +kernel) rfl, sm_g1 44 (by decide +kernel) rfl, rfl, rfl, by decide, by decide, by decide +kernel, by decide⟩
theorem df_X7 : ∀ j, j < 9 → defaultValue (tyX7 j) = if sm_isR 7 j = true then .null else .int 0 := by decide +kernel
theorem dw_X7 : ∀ j, j < 9 → ∀ q : vw_C, sm_cs[7]? = some q → (q.2.1 j).1 = RX7 := by
  intro j hj q hq
  have hq : (RX7, TX7, 9) = q := Option.some.inj hq
  subst hq
  exact (show ∀ j, j < 9 → (TX7 j).1 = RX7 by decide +kernel) j hj
theorem it_X7 : Cond.instantiable RX7 9 ∈ sm_gt := sm_g1 42 (by decide +kernel) rfl
abbrev mX8_init : sm_I := (yX8_init, cX8_init, 1, none)
theorem ik_X8_init : sn_mk 0 mX8_init := ⟨in_X8, sm_g2 69 (by decide +kernel) rfl, sm_g2 68 (by decide +kernel) rfl, rfl, rfl, by decide, by decide, by decide +kernel, by decide⟩
theorem df_X8 : ∀ j, j < 5 → defaultValue (tyX8 j) = if sm_isR 8 j = true then .null else .int 0 := by decide +kernel
theorem dw_X8 : ∀ j, j < 5 → ∀ q : vw_C, sm_cs[8]? = some q → (q.2.1 j).1 = RX8 := by
  intro j hj q hq
  have hq : (RX8, TX8, 5) = q := Option.some.inj hq
  subst hq
  exact (show ∀ j, j < 5 → (TX8 j).1 = RX8 by decide +kernel) j hj
theorem it_X8 : Cond.instantiable RX8 5 ∈ sm_gt := sm_g2 66 (by decide +kernel) rfl
abbrev mX9_init : sm_I := (yX9_init, cX9_init, 1, none)
theorem ik_X9_init : sn_mk 0 mX9_init := ⟨in_X9, sm_g2 15 (by decide +kernel) rfl, sm_g2 14 (by decide +kernel) rfl, rfl, rfl, by decide, by decide, by decide +kernel, by decide⟩
theorem df_X9 : ∀ j, j < 4 → defaultValue (tyX9 j) = if sm_isR 9 j = true then .null else .int 0 := by decide +kernel
theorem dw_X9 : ∀ j, j < 4 → ∀ q : vw_C, sm_cs[9]? = some q → (q.2.1 j).1 = RX9 := by
  intro j hj q hq
  have hq : (RX9, TX9, 4) = q := Option.some.inj hq
  subst hq
  exact (show ∀ j, j < 4 → (TX9 j).1 = RX9 by decide +kernel) j hj
theorem it_X9 : Cond.instantiable RX9 4 ∈ sm_gt := sm_g2 12 (by decide +kernel) rfl
abbrev mX10_init : sm_I := (yX10_init, cX10_init, 2, none)
theorem ik_X10_init : sn_mk 0 mX10_init := ⟨in_X10, sm_g1 74 (by decide +kernel) rfl, sm_g1 73 (by decide +kernel) rfl, rfl, rfl, by decide, by decide, by decide +kernel, by decide⟩
theorem df_X10 : ∀ j, j < 4 → defaultValue (tyX10 j) = if sm_isR 10 j = true then .null else .int 0 := by decide +kernel
theorem dw_X10 : ∀ j, j < 4 → ∀ q : vw_C, sm_cs[10]? = some q → (q.2.1 j).1 = RX10 := by
  intro j hj q hq
  have hq : (RX10, TX10, 4) = q := Option.some.inj hq
  subst hq
  exact (show ∀ j, j < 4 → (TX10 j).1 = RX10 by decide +kernel) j hj
theorem it_X10 : Cond.instantiable RX10 4 ∈ sm_gt := sm_g1 71 (by decide +kernel) rfl
abbrev mX11_init : sm_I := (yX11_init, cX11_init, 1, none)
theorem ik_X11_init : sn_mk 0 mX11_init := ⟨in_X11, sm_g1 31 (by decide +kernel) rfl, sm_g1 30 (by decide +kernel) rfl, rfl, rfl, by decide, by decide, by decide +kernel, by decide⟩
theorem df_X11 : ∀ j, j < 16 → defaultValue (tyX11 j) = if sm_isR 11 j = true then .null else .int 0 := by decide +kernel
theorem dw_X11 : ∀ j, j < 16 → ∀ q : vw_C, sm_cs[11]? = some q → (q.2.1 j).1 = RX11 := by
  intro j hj q hq
  have hq : (RX11, TX11, 16) = q := Option.some.inj hq
  subst hq
  exact (show ∀ j, j < 16 → (TX11 j).1 = RX11 by decide +kernel) j hj
theorem it_X11 : Cond.instantiable RX11 16 ∈ sm_gt := sm_g1 28 (by decide +kernel) rfl
abbrev mX12_init : sm_I := (yX12_init, cX12_init, 1, none)
theorem ik_X12_init : sn_mk 0 mX12_init := ⟨in_X12, sm_g6 93 (by decide +kernel) rfl, sm_g6 92 (by decide +kernel) rfl, rfl, rfl, by decide, by decide, by decide +kernel, by decide⟩
theorem df_X12 : ∀ j, j < 59 → defaultValue (tyX12 j) = if sm_isR 12 j = true then .null else .int 0 := by decide +kernel
theorem dw_X12 : ∀ j, j < 59 → ∀ q : vw_C, sm_cs[12]? = some q → (q.2.1 j).1 = RX12 := by
  intro j hj q hq
  have hq : (RX12, TX12, 59) = q := Option.some.inj hq
  subst hq
  exact (show ∀ j, j < 59 → (TX12 j).1 = RX12 by decide +kernel) j hj
theorem it_X12 : Cond.instantiable RX12 59 ∈ sm_gt := sm_g6 90 (by decide +kernel) rfl
theorem kl_X11_7 : Cond.classLink RX11 7 "BaizeDoor$Reader" ∈ sm_gt := sm_g1 35 (by decide +kernel) rfl
theorem kl_X5_15 : Cond.classLink RX5 15 "BaizeDoor$School" ∈ sm_gt := sm_g1 41 (by decide +kernel) rfl
theorem kl_X7_21 : Cond.classLink RX7 21 "BaizeDoor$Rule" ∈ sm_gt := sm_g1 47 (by decide +kernel) rfl
theorem kl_X7_28 : Cond.classLink RX7 28 "BaizeDoor$Term" ∈ sm_gt := sm_g1 70 (by decide +kernel) rfl
theorem kl_X10_1 : Cond.classLink RX10 1 "BaizeDoor$Player" ∈ sm_gt := sm_g1 76 (by decide +kernel) rfl
theorem kl_X11_20 : Cond.classLink RX11 20 "BaizeDoor$School" ∈ sm_gt := sm_g1 232 (by decide +kernel) rfl
theorem kl_X11_27 : Cond.classLink RX11 27 "BaizeDoor$Acts" ∈ sm_gt := sm_g1 234 (by decide +kernel) rfl
theorem kl_X11_34 : Cond.classLink RX11 34 "BaizeDoor$Seen" ∈ sm_gt := sm_g2 11 (by decide +kernel) rfl
theorem kl_X11_45 : Cond.classLink RX11 45 "BaizeDoor$Image" ∈ sm_gt := sm_g2 31 (by decide +kernel) rfl
theorem kl_X3_15 : Cond.classLink RX3 15 "BaizeDoor$Acts" ∈ sm_gt := sm_g2 37 (by decide +kernel) rfl
theorem kl_X3_22 : Cond.classLink RX3 22 "BaizeDoor$Seen" ∈ sm_gt := sm_g2 39 (by decide +kernel) rfl
theorem kl_X11_52 : Cond.classLink RX11 52 "BaizeDoor$Player" ∈ sm_gt := sm_g2 61 (by decide +kernel) rfl
theorem kl_X11_62 : Cond.classLink RX11 62 "BaizeDoor$Term" ∈ sm_gt := sm_g2 63 (by decide +kernel) rfl
theorem kl_X11_72 : Cond.classLink RX11 72 "BaizeDoor$Search" ∈ sm_gt := sm_g2 65 (by decide +kernel) rfl
theorem kl_X8_15 : Cond.classLink RX8 15 "BaizeDoor$Player" ∈ sm_gt := sm_g2 71 (by decide +kernel) rfl
theorem kl_X11_79 : Cond.classLink RX11 79 "BaizeDoor$Chooser" ∈ sm_gt := sm_g2 91 (by decide +kernel) rfl
theorem kl_X11_86 : Cond.classLink RX11 86 "BaizeDoor$Duel" ∈ sm_gt := sm_g2 104 (by decide +kernel) rfl
theorem kl_X2_19 : Cond.classLink RX2 19 "BaizeDoor$Player" ∈ sm_gt := sm_g2 110 (by decide +kernel) rfl
theorem kl_X12_9 : Cond.classLink RX12 9 "java/lang/String" ∈ sm_gt := sm_g6 95 (by decide +kernel) rfl
theorem ol_X11_1 : Cond.methodLink RX11 1 objectInit ∈ sm_gt := sm_g1 32 (by decide +kernel) rfl
theorem nl_X11_9 : (RX11, 9, yX5_init) ∈ sn_nl ∨ Cond.methodLink RX11 9 yX5_init ∈ sm_gt := Or.inl (List.mem_of_getElem? (i := 0) rfl)
theorem ol_X5_3 : Cond.methodLink RX5 3 objectInit ∈ sm_gt := sm_g1 40 (by decide +kernel) rfl
theorem nl_X5_17 : (RX5, 17, yX7_init) ∈ sn_nl ∨ Cond.methodLink RX5 17 yX7_init ∈ sm_gt := Or.inl (List.mem_of_getElem? (i := 1) rfl)
theorem ol_X7_3 : Cond.methodLink RX7 3 objectInit ∈ sm_gt := sm_g1 46 (by decide +kernel) rfl
theorem nl_X7_23 : (RX7, 23, yX6_init) ∈ sn_nl ∨ Cond.methodLink RX7 23 yX6_init ∈ sm_gt := Or.inl (List.mem_of_getElem? (i := 2) rfl)
theorem ol_X6_3 : Cond.methodLink RX6 3 objectInit ∈ sm_gt := sm_g1 52 (by decide +kernel) rfl
theorem nl_X7_30 : (RX7, 30, yX10_init) ∈ sn_nl ∨ Cond.methodLink RX7 30 yX10_init ∈ sm_gt := Or.inr (sm_g1 72 (by decide +kernel) rfl)
theorem ol_X10_5 : Cond.methodLink RX10 5 objectInit ∈ sm_gt := sm_g1 75 (by decide +kernel) rfl
theorem nl_X10_21 : (RX10, 21, yX4_init) ∈ sn_nl ∨ Cond.methodLink RX10 21 yX4_init ∈ sm_gt := Or.inl (List.mem_of_getElem? (i := 3) rfl)
theorem ol_X4_3 : Cond.methodLink RX4 3 objectInit ∈ sm_gt := sm_g1 82 (by decide +kernel) rfl
theorem nl_X11_22 : (RX11, 22, yX7_init) ∈ sn_nl ∨ Cond.methodLink RX11 22 yX7_init ∈ sm_gt := Or.inl (List.mem_of_getElem? (i := 4) rfl)
theorem nl_X11_29 : (RX11, 29, yX0_init) ∈ sn_nl ∨ Cond.methodLink RX11 29 yX0_init ∈ sm_gt := Or.inl (List.mem_of_getElem? (i := 5) rfl)
theorem ol_X0_3 : Cond.methodLink RX0 3 objectInit ∈ sm_gt := sm_g1 239 (by decide +kernel) rfl
theorem nl_X11_36 : (RX11, 36, yX9_init) ∈ sn_nl ∨ Cond.methodLink RX11 36 yX9_init ∈ sm_gt := Or.inl (List.mem_of_getElem? (i := 6) rfl)
theorem ol_X9_3 : Cond.methodLink RX9 3 objectInit ∈ sm_gt := sm_g2 16 (by decide +kernel) rfl
theorem nl_X11_47 : (RX11, 47, yX3_init) ∈ sn_nl ∨ Cond.methodLink RX11 47 yX3_init ∈ sm_gt := Or.inl (List.mem_of_getElem? (i := 7) rfl)
theorem ol_X3_1 : Cond.methodLink RX3 1 objectInit ∈ sm_gt := sm_g2 36 (by decide +kernel) rfl
theorem nl_X3_17 : (RX3, 17, yX0_init) ∈ sn_nl ∨ Cond.methodLink RX3 17 yX0_init ∈ sm_gt := Or.inl (List.mem_of_getElem? (i := 8) rfl)
theorem nl_X3_24 : (RX3, 24, yX9_init) ∈ sn_nl ∨ Cond.methodLink RX3 24 yX9_init ∈ sm_gt := Or.inl (List.mem_of_getElem? (i := 9) rfl)
theorem nl_X11_54 : (RX11, 54, yX4_init) ∈ sn_nl ∨ Cond.methodLink RX11 54 yX4_init ∈ sm_gt := Or.inl (List.mem_of_getElem? (i := 10) rfl)
theorem nl_X11_64 : (RX11, 64, yX10_init) ∈ sn_nl ∨ Cond.methodLink RX11 64 yX10_init ∈ sm_gt := Or.inr (sm_g2 64 (by decide +kernel) rfl)
theorem nl_X11_74 : (RX11, 74, yX8_init) ∈ sn_nl ∨ Cond.methodLink RX11 74 yX8_init ∈ sm_gt := Or.inl (List.mem_of_getElem? (i := 11) rfl)
theorem ol_X8_3 : Cond.methodLink RX8 3 objectInit ∈ sm_gt := sm_g2 70 (by decide +kernel) rfl
theorem nl_X8_17 : (RX8, 17, yX4_init) ∈ sn_nl ∨ Cond.methodLink RX8 17 yX4_init ∈ sm_gt := Or.inl (List.mem_of_getElem? (i := 12) rfl)
theorem nl_X11_81 : (RX11, 81, yX1_init) ∈ sn_nl ∨ Cond.methodLink RX11 81 yX1_init ∈ sm_gt := Or.inl (List.mem_of_getElem? (i := 13) rfl)
theorem ol_X1_3 : Cond.methodLink RX1 3 objectInit ∈ sm_gt := sm_g2 96 (by decide +kernel) rfl
theorem nl_X11_88 : (RX11, 88, yX2_init) ∈ sn_nl ∨ Cond.methodLink RX11 88 yX2_init ∈ sm_gt := Or.inl (List.mem_of_getElem? (i := 14) rfl)
theorem ol_X2_3 : Cond.methodLink RX2 3 objectInit ∈ sm_gt := sm_g2 109 (by decide +kernel) rfl
theorem nl_X2_21 : (RX2, 21, yX4_init) ∈ sn_nl ∨ Cond.methodLink RX2 21 yX4_init ∈ sm_gt := Or.inl (List.mem_of_getElem? (i := 15) rfl)
theorem ol_X12_3 : Cond.methodLink RX12 3 objectInit ∈ sm_gt := sm_g6 94 (by decide +kernel) rfl
