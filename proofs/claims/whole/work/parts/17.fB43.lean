def f_X11_rush_22 (N : Nat) (R : Nat → Nat → Nat) : Nat → Nat → Int32 → Int32 → Int32 → Int32 → (Nat → Nat → Int32) → Option ((Int32 ⊕ String) × (Nat → Nat → Int32))
  | 0, _, _, _, _, _, _ => none
  | n + 1, a0, a1, a2, a3, a4, I =>
    if a1 < a4 then (
      if a2 = 0 then (
        some (.inl a3, I))
      else (
        sm_gd (sm_kd a0 = (11, 18)) <|
        sm_gd ((sm_kd (R a0 13)).1 = 13 ∧ ¬ (a3 < 0 ∨ (sm_kd (R a0 13)).2 ≤ (a3).toNatClampNeg)) <|
        some (.inl (I (R a0 13) (a3).toNatClampNeg), I)))
    else (
      sm_gd (sm_kd a0 = (11, 18)) <|
      sm_gd ((sm_kd (R a0 13)).1 = 13 ∧ ¬ (a4 < 0 ∨ (sm_kd (R a0 13)).2 ≤ (a4).toNatClampNeg)) <|
      sm_gd ((sm_kd (R a0 13)).1 = 13 ∧ ¬ (a3 < 0 ∨ (sm_kd (R a0 13)).2 ≤ (a3).toNatClampNeg)) <|
      if (I (R a0 13) (a4).toNatClampNeg) ≤ (I (R a0 13) (a3).toNatClampNeg) then (
        f_X11_rush_22 N R n a0 a1 a2 a3 (a4 + 1) I)
      else (
        f_X11_rush_22 N R n a0 a1 a2 a4 (a4 + 1) I))
def f_X11_rush (N : Nat) (R : Nat → Nat → Nat) : Nat → Int32 → Int32 → (Nat → Nat → Int32) → Option ((Int32 ⊕ String) × (Nat → Nat → Int32)) := fun a0 a1 a2 I =>
  sm_tb (f_X11_needWhat N R a2 (1 : Int32) I) fun r2 J3 =>
  sm_tb (f_X11_needBetween N R a1 (1 : Int32) (60 : Int32) J3) fun r5 J6 =>
  sm_gd (sm_kd a0 = (11, 18)) <|
  (f_X11_tallyBars N R a0 a1 J6).bind fun p8 =>
  f_X11_rush_22 N R N a0 a1 a2 (1 : Int32) (2 : Int32) p8.2
set_option maxHeartbeats 4000000 in
set_option maxRecDepth 100000 in
theorem w_X11_rush_22 {l : Launch} (hl : l.stackTraces = false) (N : Nat) (R : Nat → Nat → Nat) : ∀ (n : Nat) (a0 : Nat) (a1 : Int32) (a2 : Int32) (a3 : Int32) (a4 : Int32) (I : (Nat → Nat → Int32)) (y : ((Int32 ⊕ String) × (Nat → Nat → Int32))), f_X11_rush_22 N R n a0 a1 a2 a3 a4 I = some y → sm_W l 5 mX11_rush 22 [(0, .inr (.inl a0)), (1, .inl a1), (2, .inl a2), (3, .inl a3), (4, .inl a4)] [] (I, R) (sm_oI y.1) (y.2, R) := by
  intro n
  induction n with
  | zero => intro a0 a1 a2 a3 a4 I y h; cases h
  | succ n ih =>
    intro a0 a1 a2 a3 a4 I y h
    rw [f_X11_rush_22] at h
    refine sm_iload (q := 24) dX11_rush_22 rfl 4 rfl ?_
    refine sm_iload_n (q := 25) dX11_rush_24 rfl rfl 1 rfl ?_
    rcases sm_if_e h with ⟨hb1, h⟩ | ⟨hb1, h⟩
    · refine sm_icmp_gt (tgt := 53) (q := 28) dX11_rush_25 (by decide) rfl (fun _ => ?_) (fun hn => absurd hb1 hn)
      refine sm_iload_n (q := 54) dX11_rush_53 rfl rfl 2 rfl ?_
      rcases sm_if_e h with ⟨hb2, h⟩ | ⟨hb2, h⟩
      · refine sm_if_ne (tgt := 61) (q := 57) dX11_rush_54 (by decide) rfl (fun hn => absurd hb2 hn) (fun _ => ?_)
        refine sm_iload_n (q := 58) dX11_rush_57 rfl rfl 3 rfl ?_
        refine sm_goto (q := 67) dX11_rush_58 (by decide) ?_
        obtain rfl := Option.some.inj h
        exact sm_iret dX11_rush_67 rfl
      · refine sm_if_ne (tgt := 61) (q := 57) dX11_rush_54 (by decide) rfl (fun _ => ?_) (fun he => absurd he hb2)
        refine sm_aload_n (q := 62) dX11_rush_61 rfl rfl 0 rfl ?_
        obtain ⟨hc3, h⟩ := sm_gd_e h
        refine sm_getR (r := R a0 13) (q := 65) dX11_rush_62 rfl fk_X11_78 hc3 (by decide) (by decide) rfl ?_
        refine sm_iload_n (q := 66) dX11_rush_65 rfl rfl 3 rfl ?_
        obtain ⟨hc4, h⟩ := sm_gd_e h
        refine sm_iald (n := (sm_kd (R a0 13)).2) (q := 67) dX11_rush_66 rfl (Prod.ext hc4.1 rfl) hc4.2 ?_
        obtain rfl := Option.some.inj h
        exact sm_iret dX11_rush_67 rfl
    · refine sm_icmp_gt (tgt := 53) (q := 28) dX11_rush_25 (by decide) rfl (fun ht => absurd ht hb1) (fun _ => ?_)
      refine sm_aload_n (q := 29) dX11_rush_28 rfl rfl 0 rfl ?_
      obtain ⟨hc5, h⟩ := sm_gd_e h
      refine sm_getR (r := R a0 13) (q := 32) dX11_rush_29 rfl fk_X11_78 hc5 (by decide) (by decide) rfl ?_
      refine sm_iload (q := 34) dX11_rush_32 rfl 4 rfl ?_
      obtain ⟨hc6, h⟩ := sm_gd_e h
      refine sm_iald (n := (sm_kd (R a0 13)).2) (q := 35) dX11_rush_34 rfl (Prod.ext hc6.1 rfl) hc6.2 ?_
      refine sm_aload_n (q := 36) dX11_rush_35 rfl rfl 0 rfl ?_
      refine sm_getR (r := R a0 13) (q := 39) dX11_rush_36 rfl fk_X11_78 hc5 (by decide) (by decide) rfl ?_
      refine sm_iload_n (q := 40) dX11_rush_39 rfl rfl 3 rfl ?_
      obtain ⟨hc7, h⟩ := sm_gd_e h
      refine sm_iald (n := (sm_kd (R a0 13)).2) (q := 41) dX11_rush_40 rfl (Prod.ext hc7.1 rfl) hc7.2 ?_
      rcases sm_if_e h with ⟨hb8, h⟩ | ⟨hb8, h⟩
      · refine sm_icmp_le (tgt := 47) (q := 44) dX11_rush_41 (by decide) rfl (fun _ => ?_) (fun hn => absurd hb8 hn)
        refine sm_iinc (v := (a4 + 1)) (L' := [(4, .inl (a4 + 1)), (0, .inr (.inl a0)), (1, .inl a1), (2, .inl a2), (3, .inl a3)]) (q := 50) dX11_rush_47 rfl 4 rfl rfl (by decide) rfl ?_
        refine sm_goto (q := 22) dX11_rush_50 (by decide) ?_
        refine sm_pick [1, 2, 3, 4, 0] rfl ?_
        exact ih _ _ _ _ _ _ _ h
      · refine sm_icmp_le (tgt := 47) (q := 44) dX11_rush_41 (by decide) rfl (fun ht => absurd ht hb8) (fun _ => ?_)
        refine sm_iload (q := 46) dX11_rush_44 rfl 4 rfl ?_
        refine sm_istore_n (L' := [(3, .inl a4), (0, .inr (.inl a0)), (1, .inl a1), (2, .inl a2), (4, .inl a4)]) (q := 47) dX11_rush_46 rfl rfl (by decide) rfl ?_
        refine sm_iinc (v := (a4 + 1)) (L' := [(4, .inl (a4 + 1)), (3, .inl a4), (0, .inr (.inl a0)), (1, .inl a1), (2, .inl a2)]) (q := 50) dX11_rush_47 rfl 4 rfl rfl (by decide) rfl ?_
        refine sm_goto (q := 22) dX11_rush_50 (by decide) ?_
        refine sm_pick [2, 3, 4, 1, 0] rfl ?_
        exact ih _ _ _ _ _ _ _ h
set_option maxHeartbeats 4000000 in
set_option maxRecDepth 100000 in
theorem w_X11_rush {l : Launch} (hl : l.stackTraces = false) (N : Nat) (R : Nat → Nat → Nat) : ∀ (a0 : Nat) (a1 : Int32) (a2 : Int32) (I : (Nat → Nat → Int32)) (y : ((Int32 ⊕ String) × (Nat → Nat → Int32))), f_X11_rush N R a0 a1 a2 I = some y → sm_W l 5 mX11_rush 0 [(0, .inr (.inl a0)), (1, .inl a1), (2, .inl a2)] [] (I, R) (sm_oI y.1) (y.2, R) := by
  intro a0 a1 a2 I y h
  unfold f_X11_rush at h
  refine sm_iload_n (q := 1) dX11_rush_0 rfl rfl 2 rfl ?_
  refine sm_iconst (v := 1) (q := 2) dX11_rush_1 rfl (by decide) ?_
  rcases sm_tb_e h with ⟨r2, J3, hc_p1, h⟩ | ⟨E9, J9, hc_p1, h⟩
  · refine sm_callSv (q := 5) (As := [.inl a2, .inl (1 : Int32)]) (S := []) (ek_X11_needWhat hl hc_p1) ms_X11_256 rfl (by decide) (Nat.le_of_ble_eq_true rfl) dX11_rush_2 rfl ?_
    refine sm_iload_n (q := 6) dX11_rush_5 rfl rfl 1 rfl ?_
    refine sm_iconst (v := 1) (q := 7) dX11_rush_6 rfl (by decide) ?_
    refine sm_bipush (v := 60) (q := 9) dX11_rush_7 rfl (by decide) ?_
    rcases sm_tb_e h with ⟨r5, J6, hc_p4, h⟩ | ⟨E9, J9, hc_p4, h⟩
    · refine sm_callSv (q := 12) (As := [.inl a1, .inl (1 : Int32), .inl (60 : Int32)]) (S := []) (ek_X11_needBetween hl hc_p4) ms_X11_260 rfl (by decide) (Nat.le_of_ble_eq_true rfl) dX11_rush_9 rfl ?_
      refine sm_aload_n (q := 13) dX11_rush_12 rfl rfl 0 rfl ?_
      refine sm_iload_n (q := 14) dX11_rush_13 rfl rfl 1 rfl ?_
      obtain ⟨hc7, h⟩ := sm_gd_e h
      obtain ⟨p8, hc_p8, h⟩ := sm_bd_e h
      refine sm_callVv (q := 17) (As := [.inl a1]) (S := []) (e_X11_tallyBars hc_p8) mv_X11_315 hc7 rfl (by decide) (Nat.le_of_ble_eq_true rfl) dX11_rush_14 rfl ?_
      refine sm_iconst (v := 1) (q := 18) dX11_rush_17 rfl (by decide) ?_
      refine sm_istore_n (L' := [(3, .inl (1 : Int32)), (0, .inr (.inl a0)), (1, .inl a1), (2, .inl a2)]) (q := 19) dX11_rush_18 rfl rfl (by decide) rfl ?_
      refine sm_iconst (v := 2) (q := 20) dX11_rush_19 rfl (by decide) ?_
      refine sm_istore (L' := [(4, .inl (2 : Int32)), (3, .inl (1 : Int32)), (0, .inr (.inl a0)), (1, .inl a1), (2, .inl a2)]) (q := 22) dX11_rush_20 rfl (by decide) rfl ?_
      refine sm_pick [2, 3, 4, 1, 0] rfl ?_
      exact w_X11_rush_22 hl N R N _ _ _ _ _ _ _ h
    · obtain rfl := Option.some.inj h
      exact sm_callSX (E := E9) (As := [.inl a1, .inl (1 : Int32), .inl (60 : Int32)]) (S := []) (ex_X11_needBetween hl hc_p4) ms_X11_260 rfl (by decide) (Nat.le_of_ble_eq_true rfl) dX11_rush_9
  · obtain rfl := Option.some.inj h
    exact sm_callSX (E := E9) (As := [.inl a2, .inl (1 : Int32)]) (S := []) (ex_X11_needWhat hl hc_p1) ms_X11_256 rfl (by decide) (Nat.le_of_ble_eq_true rfl) dX11_rush_2
theorem e_X11_rush {l : Launch} (hl : l.stackTraces = false) {N : Nat} {R : Nat → Nat → Nat} {a0 : Nat} {a1 : Int32} {a2 : Int32} {I : (Nat → Nat → Int32)} {y : ((Int32 ⊕ String) × (Nat → Nat → Int32))} (h : f_X11_rush N R a0 a1 a2 I = some y) : sm_E l 5 mX11_rush [.inr (.inl a0), .inl a1, .inl a2] (I, R) (sm_oI y.1) (y.2, R) :=
  sm_meth (by decide) (Nat.le_of_ble_eq_true rfl) (w_X11_rush hl N R a0 a1 a2 I y h)
theorem ek_X11_rush {l : Launch} (hl : l.stackTraces = false) {N : Nat} {R : Nat → Nat → Nat} {a0 : Nat} {a1 : Int32} {a2 : Int32} {I : (Nat → Nat → Int32)} {r : Int32} {J : (Nat → Nat → Int32)} (h : f_X11_rush N R a0 a1 a2 I = some (.inl r, J)) : sm_E l 5 mX11_rush [.inr (.inl a0), .inl a1, .inl a2] (I, R) (.inl (some (.inl r))) (J, R) := by
  have h1 := e_X11_rush (l := l) hl h
  exact h1
theorem ex_X11_rush {l : Launch} (hl : l.stackTraces = false) {N : Nat} {R : Nat → Nat → Nat} {a0 : Nat} {a1 : Int32} {a2 : Int32} {I : (Nat → Nat → Int32)} {E : String} {J : (Nat → Nat → Int32)} (h : f_X11_rush N R a0 a1 a2 I = some (.inr E, J)) : sm_E l 5 mX11_rush [.inr (.inl a0), .inl a1, .inl a2] (I, R) (.inr E) (J, R) := by
  have h1 := e_X11_rush (l := l) hl h
  exact h1
