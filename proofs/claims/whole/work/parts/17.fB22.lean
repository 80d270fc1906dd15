def f_X11_weeksTillDone_10 (N : Nat) (R : Nat → Nat → Nat) : Nat → Nat → Int32 → (Nat → Nat → Int32) → Option (Int32 × (Nat → Nat → Int32))
  | 0, _, _, _ => none
  | n + 1, a0, a2, I =>
    if (60 : Int32) < a2 then (
      some ((-1 : Int32), I))
    else (
      sm_gd (sm_kd a0 = (11, 18)) <|
      sm_gd (sm_kd (R a0 3) = (7, 9)) <|
      (f_X7_isDone N R (R a0 3) (R a0 10) I).bind fun p4 =>
      if p4.1 = 0 then (
        (f_X7_passWeeks N R (R a0 3) (R a0 10) (1 : Int32) p4.2).bind fun p6 =>
        f_X11_weeksTillDone_10 N R n a0 (a2 + 1) p6.2)
      else (
        some (a2, p4.2)))
def f_X11_weeksTillDone (N : Nat) (R : Nat → Nat → Nat) : Nat → Nat → (Nat → Nat → Int32) → Option (Int32 × (Nat → Nat → Int32)) := fun a0 a1 I =>
  sm_gd (sm_kd a0 = (11, 18)) <|
  sm_gd (sm_kd (R a0 10) = (4, 6)) <|
  (f_X4_become N R (R a0 10) a1 I).bind fun p3 =>
  f_X11_weeksTillDone_10 N R N a0 (0 : Int32) p3.2
set_option maxHeartbeats 4000000 in
set_option maxRecDepth 100000 in
theorem w_X11_weeksTillDone_10 {l : Launch} (N : Nat) (R : Nat → Nat → Nat) : ∀ (n : Nat) (a0 : Nat) (a2 : Int32) (I : (Nat → Nat → Int32)) (y : (Int32 × (Nat → Nat → Int32))), f_X11_weeksTillDone_10 N R n a0 a2 I = some y → sm_W l 4 mX11_weeksTillDone 10 [(0, .inr (.inl a0)), (2, .inl a2)] [] (I, R) (.inl (some (.inl y.1))) (y.2, R) := by
  intro n
  induction n with
  | zero => intro a0 a2 I y h; cases h
  | succ n ih =>
    intro a0 a2 I y h
    rw [f_X11_weeksTillDone_10] at h
    refine sm_iload_n (q := 11) dX11_weeksTillDone_10 rfl rfl 1 rfl ?_
    refine sm_bipush (v := 60) (q := 13) dX11_weeksTillDone_11 rfl (by decide) ?_
    rcases sm_if_e h with ⟨hb1, h⟩ | ⟨hb1, h⟩
    · refine sm_icmp_gt (tgt := 50) (q := 16) dX11_weeksTillDone_13 (by decide) rfl (fun _ => ?_) (fun hn => absurd hb1 hn)
      refine sm_iconst (v := -1) (q := 51) dX11_weeksTillDone_50 rfl (by decide) ?_
      obtain rfl := Option.some.inj h
      exact sm_iret dX11_weeksTillDone_51 rfl
    · refine sm_icmp_gt (tgt := 50) (q := 16) dX11_weeksTillDone_13 (by decide) rfl (fun ht => absurd ht hb1) (fun _ => ?_)
      refine sm_aload_n (q := 17) dX11_weeksTillDone_16 rfl rfl 0 rfl ?_
      obtain ⟨hc2, h⟩ := sm_gd_e h
      refine sm_getR (r := R a0 3) (q := 20) dX11_weeksTillDone_17 rfl fk_X11_20 hc2 (by decide) (by decide) rfl ?_
      refine sm_aload_n (q := 21) dX11_weeksTillDone_20 rfl rfl 0 rfl ?_
      refine sm_getR (r := R a0 10) (q := 24) dX11_weeksTillDone_21 rfl fk_X11_64 hc2 (by decide) (by decide) rfl ?_
      obtain ⟨hc3, h⟩ := sm_gd_e h
      obtain ⟨p4, hc_p4, h⟩ := sm_bd_e h
      refine sm_callVi (q := 27) (As := [.inr (.inl (R a0 10))]) (S := []) (e_X7_isDone hc_p4) mv_X11_174 hc3 rfl (by decide) (Nat.le_of_ble_eq_true rfl) dX11_weeksTillDone_24 rfl ?_
      rcases sm_if_e h with ⟨hb5, h⟩ | ⟨hb5, h⟩
      · refine sm_if_eq (tgt := 32) (q := 30) dX11_weeksTillDone_27 (by decide) rfl (fun _ => ?_) (fun hn => absurd hb5 hn)
        refine sm_aload_n (q := 33) dX11_weeksTillDone_32 rfl rfl 0 rfl ?_
        refine sm_getR (r := R a0 3) (q := 36) dX11_weeksTillDone_33 rfl fk_X11_20 hc2 (by decide) (by decide) rfl ?_
        refine sm_aload_n (q := 37) dX11_weeksTillDone_36 rfl rfl 0 rfl ?_
        refine sm_getR (r := R a0 10) (q := 40) dX11_weeksTillDone_37 rfl fk_X11_64 hc2 (by decide) (by decide) rfl ?_
        refine sm_iconst (v := 1) (q := 41) dX11_weeksTillDone_40 rfl (by decide) ?_
        obtain ⟨p6, hc_p6, h⟩ := sm_bd_e h
        refine sm_callVv (q := 44) (As := [.inr (.inl (R a0 10)), .inl (1 : Int32)]) (S := []) (e_X7_passWeeks hc_p6) mv_X11_239 hc3 rfl (by decide) (Nat.le_of_ble_eq_true rfl) dX11_weeksTillDone_41 rfl ?_
        refine sm_iinc (v := (a2 + 1)) (L' := [(2, .inl (a2 + 1)), (0, .inr (.inl a0))]) (q := 47) dX11_weeksTillDone_44 rfl 1 rfl rfl (by decide) rfl ?_
        refine sm_goto (q := 10) dX11_weeksTillDone_47 (by decide) ?_
        refine sm_pick [1, 0] rfl ?_
        exact ih _ _ _ _ h
      · refine sm_if_eq (tgt := 32) (q := 30) dX11_weeksTillDone_27 (by decide) rfl (fun ht => absurd ht hb5) (fun _ => ?_)
        refine sm_iload_n (q := 31) dX11_weeksTillDone_30 rfl rfl 1 rfl ?_
        obtain rfl := Option.some.inj h
        exact sm_iret dX11_weeksTillDone_31 rfl
set_option maxHeartbeats 4000000 in
set_option maxRecDepth 100000 in
theorem w_X11_weeksTillDone {l : Launch} (N : Nat) (R : Nat → Nat → Nat) : ∀ (a0 : Nat) (a1 : Nat) (I : (Nat → Nat → Int32)) (y : (Int32 × (Nat → Nat → Int32))), f_X11_weeksTillDone N R a0 a1 I = some y → sm_W l 4 mX11_weeksTillDone 0 [(0, .inr (.inl a0)), (1, .inr (.inl a1))] [] (I, R) (.inl (some (.inl y.1))) (y.2, R) := by
  intro a0 a1 I y h
  unfold f_X11_weeksTillDone at h
  refine sm_aload_n (q := 1) dX11_weeksTillDone_0 rfl rfl 0 rfl ?_
  obtain ⟨hc1, h⟩ := sm_gd_e h
  refine sm_getR (r := R a0 10) (q := 4) dX11_weeksTillDone_1 rfl fk_X11_64 hc1 (by decide) (by decide) rfl ?_
  refine sm_aload_n (q := 5) dX11_weeksTillDone_4 rfl rfl 1 rfl ?_
  obtain ⟨hc2, h⟩ := sm_gd_e h
  obtain ⟨p3, hc_p3, h⟩ := sm_bd_e h
  refine sm_callVv (q := 8) (As := [.inr (.inl a1)]) (S := []) (e_X4_become hc_p3) mv_X11_225 hc2 rfl (by decide) (Nat.le_of_ble_eq_true rfl) dX11_weeksTillDone_5 rfl ?_
  refine sm_iconst (v := 0) (q := 9) dX11_weeksTillDone_8 rfl (by decide) ?_
  refine sm_istore_n (L' := [(2, .inl (0 : Int32)), (0, .inr (.inl a0)), (1, .inr (.inl a1))]) (q := 10) dX11_weeksTillDone_9 rfl rfl (by decide) rfl ?_
  refine sm_pick [1, 0] rfl ?_
  exact w_X11_weeksTillDone_10 N R N _ _ _ _ h
theorem e_X11_weeksTillDone {l : Launch} {N : Nat} {R : Nat → Nat → Nat} {a0 : Nat} {a1 : Nat} {I : (Nat → Nat → Int32)} {y : (Int32 × (Nat → Nat → Int32))} (h : f_X11_weeksTillDone N R a0 a1 I = some y) : sm_E l 4 mX11_weeksTillDone [.inr (.inl a0), .inr (.inl a1)] (I, R) (.inl (some (.inl y.1))) (y.2, R) :=
  sm_meth (by decide) (Nat.le_of_ble_eq_true rfl) (w_X11_weeksTillDone N R a0 a1 I y h)
