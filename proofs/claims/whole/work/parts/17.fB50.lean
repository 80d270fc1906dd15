def f_X11_mates_11 (N : Nat) (R : Nat → Nat → Nat) : Nat → Nat → Int32 → Nat → Int32 → Int32 → (Nat → Nat → Int32) → Option ((Int32 ⊕ String) × (Nat → Nat → Int32))
  | 0, _, _, _, _, _, _ => none
  | n + 1, a0, a1, a2, a3, a4, I =>
    sm_gd (sm_kd a0 = (11, 18)) <|
    sm_gd (sm_kd (R a0 3) = (7, 9)) <|
    sm_gd (sm_kd (R (R a0 3) 5) = (10, 4)) <|
    if (I (R (R a0 3) 5) 1) ≤ a4 then (
      some (.inl a3, I))
    else (
      if a4 = a1 then (
        f_X11_mates_11 N R n a0 a1 a2 a3 (a4 + 1) I)
      else (
        sm_gd ((sm_kd (R (R (R a0 3) 5) 0)).1 = 16 ∧ ¬ (a4 < 0 ∨ (sm_kd (R (R (R a0 3) 5) 0)).2 ≤ (a4).toNatClampNeg)) <|
        sm_gd (sm_kd (R (R (R (R a0 3) 5) 0) (a4).toNatClampNeg) = (4, 6)) <|
        sm_gd (sm_kd a2 = (4, 6)) <|
        if (I (R (R (R (R a0 3) 5) 0) (a4).toNatClampNeg) 2) = (I a2 2) then (
          f_X11_mates_11 N R n a0 a1 a2 (a3 ||| ((1 : Int32) <<< (a4 &&& 31))) (a4 + 1) I)
        else (
          f_X11_mates_11 N R n a0 a1 a2 a3 (a4 + 1) I)))
def f_X11_mates (N : Nat) (R : Nat → Nat → Nat) : Nat → Int32 → (Nat → Nat → Int32) → Option ((Int32 ⊕ String) × (Nat → Nat → Int32)) := fun a0 a1 I =>
  sm_gd (sm_kd a0 = (11, 18)) <|
  sm_tb (f_X11_needPupil N R a0 a1 I) fun r3 J4 =>
  f_X11_mates_11 N R N a0 a1 r3 (0 : Int32) (0 : Int32) J4
set_option maxHeartbeats 4000000 in
set_option maxRecDepth 100000 in
theorem w_X11_mates_11 {l : Launch} (hl : l.stackTraces = false) (N : Nat) (R : Nat → Nat → Nat) : ∀ (n : Nat) (a0 : Nat) (a1 : Int32) (a2 : Nat) (a3 : Int32) (a4 : Int32) (I : (Nat → Nat → Int32)) (y : ((Int32 ⊕ String) × (Nat → Nat → Int32))), f_X11_mates_11 N R n a0 a1 a2 a3 a4 I = some y → sm_W l 1 mX11_mates 11 [(0, .inr (.inl a0)), (1, .inl a1), (2, .inr (.inl a2)), (3, .inl a3), (4, .inl a4)] [] (I, R) (sm_oI y.1) (y.2, R) := by
  intro n
  induction n with
  | zero => intro a0 a1 a2 a3 a4 I y h; cases h
  | succ n ih =>
    intro a0 a1 a2 a3 a4 I y h
    rw [f_X11_mates_11] at h
    refine sm_iload (q := 13) dX11_mates_11 rfl 4 rfl ?_
    refine sm_aload_n (q := 14) dX11_mates_13 rfl rfl 0 rfl ?_
    obtain ⟨hc1, h⟩ := sm_gd_e h
    refine sm_getR (r := R a0 3) (q := 17) dX11_mates_14 rfl fk_X11_20 hc1 (by decide) (by decide) rfl ?_
    obtain ⟨hc2, h⟩ := sm_gd_e h
    refine sm_getR (r := R (R a0 3) 5) (q := 20) dX11_mates_17 rfl fk_X11_137 hc2 (by decide) (by decide) rfl ?_
    obtain ⟨hc3, h⟩ := sm_gd_e h
    refine sm_getI (q := 23) dX11_mates_20 rfl fk_X11_140 hc3 (by decide) (by decide) ?_
    rcases sm_if_e h with ⟨hb4, h⟩ | ⟨hb4, h⟩
    · refine sm_icmp_ge (tgt := 68) (q := 26) dX11_mates_23 (by decide) rfl (fun _ => ?_) (fun hn => absurd hb4 hn)
      refine sm_iload_n (q := 69) dX11_mates_68 rfl rfl 3 rfl ?_
      obtain rfl := Option.some.inj h
      exact sm_iret dX11_mates_69 rfl
    · refine sm_icmp_ge (tgt := 68) (q := 26) dX11_mates_23 (by decide) rfl (fun ht => absurd ht hb4) (fun _ => ?_)
      refine sm_iload (q := 28) dX11_mates_26 rfl 4 rfl ?_
      refine sm_iload_n (q := 29) dX11_mates_28 rfl rfl 1 rfl ?_
      rcases sm_if_e h with ⟨hb5, h⟩ | ⟨hb5, h⟩
      · refine sm_icmp_eq (tgt := 62) (q := 32) dX11_mates_29 (by decide) rfl (fun _ => ?_) (fun hn => absurd hb5 hn)
        refine sm_iinc (v := (a4 + 1)) (L' := [(4, .inl (a4 + 1)), (0, .inr (.inl a0)), (1, .inl a1), (2, .inr (.inl a2)), (3, .inl a3)]) (q := 65) dX11_mates_62 rfl 4 rfl rfl (by decide) rfl ?_
        refine sm_goto (q := 11) dX11_mates_65 (by decide) ?_
        refine sm_pick [1, 2, 3, 4, 0] rfl ?_
        exact ih _ _ _ _ _ _ _ h
      · refine sm_icmp_eq (tgt := 62) (q := 32) dX11_mates_29 (by decide) rfl (fun ht => absurd ht hb5) (fun _ => ?_)
        refine sm_aload_n (q := 33) dX11_mates_32 rfl rfl 0 rfl ?_
        refine sm_getR (r := R a0 3) (q := 36) dX11_mates_33 rfl fk_X11_20 hc1 (by decide) (by decide) rfl ?_
        refine sm_getR (r := R (R a0 3) 5) (q := 39) dX11_mates_36 rfl fk_X11_137 hc2 (by decide) (by decide) rfl ?_
        refine sm_getR (r := R (R (R a0 3) 5) 0) (q := 42) dX11_mates_39 rfl fk_X11_170 hc3 (by decide) (by decide) rfl ?_
        refine sm_iload (q := 44) dX11_mates_42 rfl 4 rfl ?_
        obtain ⟨hc6, h⟩ := sm_gd_e h
        refine sm_aald (t := 3) (n := (sm_kd (R (R (R a0 3) 5) 0)).2) (q := 45) dX11_mates_44 rfl (Prod.ext hc6.1 rfl) (Or.inl ⟨rfl, rfl⟩) hc6.2 rfl ?_
        obtain ⟨hc7, h⟩ := sm_gd_e h
        refine sm_getI (q := 48) dX11_mates_45 rfl fk_X11_208 hc7 (by decide) (by decide) ?_
        refine sm_aload_n (q := 49) dX11_mates_48 rfl rfl 2 rfl ?_
        obtain ⟨hc8, h⟩ := sm_gd_e h
        refine sm_getI (q := 52) dX11_mates_49 rfl fk_X11_208 hc8 (by decide) (by decide) ?_
        rcases sm_if_e h with ⟨hb9, h⟩ | ⟨hb9, h⟩
        · refine sm_icmp_ne (tgt := 62) (q := 55) dX11_mates_52 (by decide) rfl (fun hn => absurd hb9 hn) (fun _ => ?_)
          refine sm_iload_n (q := 56) dX11_mates_55 rfl rfl 3 rfl ?_
          refine sm_iconst (v := 1) (q := 57) dX11_mates_56 rfl (by decide) ?_
          refine sm_iload (q := 59) dX11_mates_57 rfl 4 rfl ?_
          refine sm_ishl (q := 60) dX11_mates_59 rfl ?_
          refine sm_ior (q := 61) dX11_mates_60 rfl ?_
          refine sm_istore_n (L' := [(3, .inl (a3 ||| ((1 : Int32) <<< (a4 &&& 31)))), (0, .inr (.inl a0)), (1, .inl a1), (2, .inr (.inl a2)), (4, .inl a4)]) (q := 62) dX11_mates_61 rfl rfl (by decide) rfl ?_
          refine sm_iinc (v := (a4 + 1)) (L' := [(4, .inl (a4 + 1)), (3, .inl (a3 ||| ((1 : Int32) <<< (a4 &&& 31)))), (0, .inr (.inl a0)), (1, .inl a1), (2, .inr (.inl a2))]) (q := 65) dX11_mates_62 rfl 4 rfl rfl (by decide) rfl ?_
          refine sm_goto (q := 11) dX11_mates_65 (by decide) ?_
          refine sm_pick [2, 3, 4, 1, 0] rfl ?_
          exact ih _ _ _ _ _ _ _ h
        · refine sm_icmp_ne (tgt := 62) (q := 55) dX11_mates_52 (by decide) rfl (fun _ => ?_) (fun he => absurd he hb9)
          refine sm_iinc (v := (a4 + 1)) (L' := [(4, .inl (a4 + 1)), (0, .inr (.inl a0)), (1, .inl a1), (2, .inr (.inl a2)), (3, .inl a3)]) (q := 65) dX11_mates_62 rfl 4 rfl rfl (by decide) rfl ?_
          refine sm_goto (q := 11) dX11_mates_65 (by decide) ?_
          refine sm_pick [1, 2, 3, 4, 0] rfl ?_
          exact ih _ _ _ _ _ _ _ h
set_option maxHeartbeats 4000000 in
set_option maxRecDepth 100000 in
theorem w_X11_mates {l : Launch} (hl : l.stackTraces = false) (N : Nat) (R : Nat → Nat → Nat) : ∀ (a0 : Nat) (a1 : Int32) (I : (Nat → Nat → Int32)) (y : ((Int32 ⊕ String) × (Nat → Nat → Int32))), f_X11_mates N R a0 a1 I = some y → sm_W l 1 mX11_mates 0 [(0, .inr (.inl a0)), (1, .inl a1)] [] (I, R) (sm_oI y.1) (y.2, R) := by
  intro a0 a1 I y h
  unfold f_X11_mates at h
  refine sm_aload_n (q := 1) dX11_mates_0 rfl rfl 0 rfl ?_
  refine sm_iload_n (q := 2) dX11_mates_1 rfl rfl 1 rfl ?_
  obtain ⟨hc1, h⟩ := sm_gd_e h
  rcases sm_tb_e h with ⟨r3, J4, hc_p2, h⟩ | ⟨E9, J9, hc_p2, h⟩
  · refine sm_callVr (q := 5) (As := [.inl a1]) (S := []) (ek_X11_needPupil hl hc_p2) mv_X11_198 hc1 rfl (by decide) (Nat.le_of_ble_eq_true rfl) dX11_mates_2 rfl ?_
    refine sm_astore_n (L' := [(2, .inr (.inl r3)), (0, .inr (.inl a0)), (1, .inl a1)]) (q := 6) dX11_mates_5 rfl rfl (by decide) rfl ?_
    refine sm_iconst (v := 0) (q := 7) dX11_mates_6 rfl (by decide) ?_
    refine sm_istore_n (L' := [(3, .inl (0 : Int32)), (2, .inr (.inl r3)), (0, .inr (.inl a0)), (1, .inl a1)]) (q := 8) dX11_mates_7 rfl rfl (by decide) rfl ?_
    refine sm_iconst (v := 0) (q := 9) dX11_mates_8 rfl (by decide) ?_
    refine sm_istore (L' := [(4, .inl (0 : Int32)), (3, .inl (0 : Int32)), (2, .inr (.inl r3)), (0, .inr (.inl a0)), (1, .inl a1)]) (q := 11) dX11_mates_9 rfl (by decide) rfl ?_
    refine sm_pick [3, 4, 2, 1, 0] rfl ?_
    exact w_X11_mates_11 hl N R N _ _ _ _ _ _ _ h
  · obtain rfl := Option.some.inj h
    exact sm_callVX (E := E9) (As := [.inl a1]) (S := []) (ex_X11_needPupil hl hc_p2) mv_X11_198 hc1 rfl (by decide) (Nat.le_of_ble_eq_true rfl) dX11_mates_2
theorem e_X11_mates {l : Launch} (hl : l.stackTraces = false) {N : Nat} {R : Nat → Nat → Nat} {a0 : Nat} {a1 : Int32} {I : (Nat → Nat → Int32)} {y : ((Int32 ⊕ String) × (Nat → Nat → Int32))} (h : f_X11_mates N R a0 a1 I = some y) : sm_E l 1 mX11_mates [.inr (.inl a0), .inl a1] (I, R) (sm_oI y.1) (y.2, R) :=
  sm_meth (by decide) (Nat.le_of_ble_eq_true rfl) (w_X11_mates hl N R a0 a1 I y h)
theorem ek_X11_mates {l : Launch} (hl : l.stackTraces = false) {N : Nat} {R : Nat → Nat → Nat} {a0 : Nat} {a1 : Int32} {I : (Nat → Nat → Int32)} {r : Int32} {J : (Nat → Nat → Int32)} (h : f_X11_mates N R a0 a1 I = some (.inl r, J)) : sm_E l 1 mX11_mates [.inr (.inl a0), .inl a1] (I, R) (.inl (some (.inl r))) (J, R) := by
  have h1 := e_X11_mates (l := l) hl h
  exact h1
theorem ex_X11_mates {l : Launch} (hl : l.stackTraces = false) {N : Nat} {R : Nat → Nat → Nat} {a0 : Nat} {a1 : Int32} {I : (Nat → Nat → Int32)} {E : String} {J : (Nat → Nat → Int32)} (h : f_X11_mates N R a0 a1 I = some (.inr E, J)) : sm_E l 1 mX11_mates [.inr (.inl a0), .inl a1] (I, R) (.inr E) (J, R) := by
  have h1 := e_X11_mates (l := l) hl h
  exact h1
