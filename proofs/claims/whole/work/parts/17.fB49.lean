def f_X11_work_9 (N : Nat) (R : Nat → Nat → Nat) : Nat → Nat → Int32 → Int32 → Int32 → (Nat → Nat → Int32) → Option ((Int32 ⊕ String) × (Nat → Nat → Int32))
  | 0, _, _, _, _, _ => none
  | n + 1, a0, a1, a2, a3, I =>
    sm_gd (sm_kd a0 = (11, 18)) <|
    sm_gd (sm_kd (R a0 3) = (7, 9)) <|
    sm_gd ((sm_kd (R (R a0 3) 0)).1 = 13 ∧ ¬ (a1 < 0 ∨ (sm_kd (R (R a0 3) 0)).2 ≤ (a1).toNatClampNeg)) <|
    if (I (R (R a0 3) 0) (a1).toNatClampNeg) ≤ a3 then (
      some (.inl a2, I))
    else (
      (f_X7_hardOf N R (R a0 3) a1 a3 I).bind fun p5 =>
      f_X11_work_9 N R n a0 a1 (a2 + p5.1) (a3 + 1) p5.2)
def f_X11_work (N : Nat) (R : Nat → Nat → Nat) : Nat → Int32 → (Nat → Nat → Int32) → Option ((Int32 ⊕ String) × (Nat → Nat → Int32)) := fun a0 a1 I =>
  sm_gd (sm_kd a0 = (11, 18)) <|
  sm_tb (f_X11_needPiece N R a0 a1 I) fun r3 J4 =>
  f_X11_work_9 N R N a0 a1 (0 : Int32) (0 : Int32) J4
set_option maxHeartbeats 4000000 in
set_option maxRecDepth 100000 in
theorem w_X11_work_9 {l : Launch} (hl : l.stackTraces = false) (N : Nat) (R : Nat → Nat → Nat) : ∀ (n : Nat) (a0 : Nat) (a1 : Int32) (a2 : Int32) (a3 : Int32) (I : (Nat → Nat → Int32)) (y : ((Int32 ⊕ String) × (Nat → Nat → Int32))), f_X11_work_9 N R n a0 a1 a2 a3 I = some y → sm_W l 1 mX11_work 9 [(0, .inr (.inl a0)), (1, .inl a1), (2, .inl a2), (3, .inl a3)] [] (I, R) (sm_oI y.1) (y.2, R) := by
  intro n
  induction n with
  | zero => intro a0 a1 a2 a3 I y h; cases h
  | succ n ih =>
    intro a0 a1 a2 a3 I y h
    rw [f_X11_work_9] at h
    refine sm_iload_n (q := 10) dX11_work_9 rfl rfl 3 rfl ?_
    refine sm_aload_n (q := 11) dX11_work_10 rfl rfl 0 rfl ?_
    obtain ⟨hc1, h⟩ := sm_gd_e h
    refine sm_getR (r := R a0 3) (q := 14) dX11_work_11 rfl fk_X11_20 hc1 (by decide) (by decide) rfl ?_
    obtain ⟨hc2, h⟩ := sm_gd_e h
    refine sm_getR (r := R (R a0 3) 0) (q := 17) dX11_work_14 rfl fk_X11_181 hc2 (by decide) (by decide) rfl ?_
    refine sm_iload_n (q := 18) dX11_work_17 rfl rfl 1 rfl ?_
    obtain ⟨hc3, h⟩ := sm_gd_e h
    refine sm_iald (n := (sm_kd (R (R a0 3) 0)).2) (q := 19) dX11_work_18 rfl (Prod.ext hc3.1 rfl) hc3.2 ?_
    rcases sm_if_e h with ⟨hb4, h⟩ | ⟨hb4, h⟩
    · refine sm_icmp_ge (tgt := 40) (q := 22) dX11_work_19 (by decide) rfl (fun _ => ?_) (fun hn => absurd hb4 hn)
      refine sm_iload_n (q := 41) dX11_work_40 rfl rfl 2 rfl ?_
      obtain rfl := Option.some.inj h
      exact sm_iret dX11_work_41 rfl
    · refine sm_icmp_ge (tgt := 40) (q := 22) dX11_work_19 (by decide) rfl (fun ht => absurd ht hb4) (fun _ => ?_)
      refine sm_iload_n (q := 23) dX11_work_22 rfl rfl 2 rfl ?_
      refine sm_aload_n (q := 24) dX11_work_23 rfl rfl 0 rfl ?_
      refine sm_getR (r := R a0 3) (q := 27) dX11_work_24 rfl fk_X11_20 hc1 (by decide) (by decide) rfl ?_
      refine sm_iload_n (q := 28) dX11_work_27 rfl rfl 1 rfl ?_
      refine sm_iload_n (q := 29) dX11_work_28 rfl rfl 3 rfl ?_
      obtain ⟨p5, hc_p5, h⟩ := sm_bd_e h
      refine sm_callVi (q := 32) (As := [.inl a1, .inl a3]) (S := [.inl a2]) (e_X7_hardOf hc_p5) mv_X11_194 hc2 rfl (by decide) (Nat.le_of_ble_eq_true rfl) dX11_work_29 rfl ?_
      refine sm_iadd (q := 33) dX11_work_32 rfl ?_
      refine sm_istore_n (L' := [(2, .inl (a2 + p5.1)), (0, .inr (.inl a0)), (1, .inl a1), (3, .inl a3)]) (q := 34) dX11_work_33 rfl rfl (by decide) rfl ?_
      refine sm_iinc (v := (a3 + 1)) (L' := [(3, .inl (a3 + 1)), (2, .inl (a2 + p5.1)), (0, .inr (.inl a0)), (1, .inl a1)]) (q := 37) dX11_work_34 rfl 3 rfl rfl (by decide) rfl ?_
      refine sm_goto (q := 9) dX11_work_37 (by decide) ?_
      refine sm_pick [2, 3, 1, 0] rfl ?_
      exact ih _ _ _ _ _ _ h
set_option maxHeartbeats 4000000 in
set_option maxRecDepth 100000 in
theorem w_X11_work {l : Launch} (hl : l.stackTraces = false) (N : Nat) (R : Nat → Nat → Nat) : ∀ (a0 : Nat) (a1 : Int32) (I : (Nat → Nat → Int32)) (y : ((Int32 ⊕ String) × (Nat → Nat → Int32))), f_X11_work N R a0 a1 I = some y → sm_W l 1 mX11_work 0 [(0, .inr (.inl a0)), (1, .inl a1)] [] (I, R) (sm_oI y.1) (y.2, R) := by
  intro a0 a1 I y h
  unfold f_X11_work at h
  refine sm_aload_n (q := 1) dX11_work_0 rfl rfl 0 rfl ?_
  refine sm_iload_n (q := 2) dX11_work_1 rfl rfl 1 rfl ?_
  obtain ⟨hc1, h⟩ := sm_gd_e h
  rcases sm_tb_e h with ⟨r3, J4, hc_p2, h⟩ | ⟨E9, J9, hc_p2, h⟩
  · refine sm_callVv (q := 5) (As := [.inl a1]) (S := []) (ek_X11_needPiece hl hc_p2) mv_X11_178 hc1 rfl (by decide) (Nat.le_of_ble_eq_true rfl) dX11_work_2 rfl ?_
    refine sm_iconst (v := 0) (q := 6) dX11_work_5 rfl (by decide) ?_
    refine sm_istore_n (L' := [(2, .inl (0 : Int32)), (0, .inr (.inl a0)), (1, .inl a1)]) (q := 7) dX11_work_6 rfl rfl (by decide) rfl ?_
    refine sm_iconst (v := 0) (q := 8) dX11_work_7 rfl (by decide) ?_
    refine sm_istore_n (L' := [(3, .inl (0 : Int32)), (2, .inl (0 : Int32)), (0, .inr (.inl a0)), (1, .inl a1)]) (q := 9) dX11_work_8 rfl rfl (by decide) rfl ?_
    refine sm_pick [2, 3, 1, 0] rfl ?_
    exact w_X11_work_9 hl N R N _ _ _ _ _ _ h
  · obtain rfl := Option.some.inj h
    exact sm_callVX (E := E9) (As := [.inl a1]) (S := []) (ex_X11_needPiece hl hc_p2) mv_X11_178 hc1 rfl (by decide) (Nat.le_of_ble_eq_true rfl) dX11_work_2
theorem e_X11_work {l : Launch} (hl : l.stackTraces = false) {N : Nat} {R : Nat → Nat → Nat} {a0 : Nat} {a1 : Int32} {I : (Nat → Nat → Int32)} {y : ((Int32 ⊕ String) × (Nat → Nat → Int32))} (h : f_X11_work N R a0 a1 I = some y) : sm_E l 1 mX11_work [.inr (.inl a0), .inl a1] (I, R) (sm_oI y.1) (y.2, R) :=
  sm_meth (by decide) (Nat.le_of_ble_eq_true rfl) (w_X11_work hl N R a0 a1 I y h)
theorem ek_X11_work {l : Launch} (hl : l.stackTraces = false) {N : Nat} {R : Nat → Nat → Nat} {a0 : Nat} {a1 : Int32} {I : (Nat → Nat → Int32)} {r : Int32} {J : (Nat → Nat → Int32)} (h : f_X11_work N R a0 a1 I = some (.inl r, J)) : sm_E l 1 mX11_work [.inr (.inl a0), .inl a1] (I, R) (.inl (some (.inl r))) (J, R) := by
  have h1 := e_X11_work (l := l) hl h
  exact h1
theorem ex_X11_work {l : Launch} (hl : l.stackTraces = false) {N : Nat} {R : Nat → Nat → Nat} {a0 : Nat} {a1 : Int32} {I : (Nat → Nat → Int32)} {E : String} {J : (Nat → Nat → Int32)} (h : f_X11_work N R a0 a1 I = some (.inr E, J)) : sm_E l 1 mX11_work [.inr (.inl a0), .inl a1] (I, R) (.inr E) (J, R) := by
  have h1 := e_X11_work (l := l) hl h
  exact h1
