def f_X11_repertoire_11 (N : Nat) (R : Nat → Nat → Nat) : Nat → Nat → Nat → Int32 → Int32 → (Nat → Nat → Int32) → Option ((Int32 ⊕ String) × (Nat → Nat → Int32))
  | 0, _, _, _, _, _ => none
  | n + 1, a0, a2, a3, a4, I =>
    sm_gd (sm_kd a0 = (11, 18)) <|
    sm_gd (sm_kd (R a0 3) = (7, 9)) <|
    if (I (R a0 3) 3) ≤ a4 then (
      some (.inl a3, I))
    else (
      sm_gd (sm_kd a2 = (4, 6)) <|
      (f_X7_barsThatFit N R (R a0 3) (I a2 0) a4 I).bind fun p5 =>
      sm_gd ((sm_kd (R (R a0 3) 0)).1 = 13 ∧ ¬ (a4 < 0 ∨ (sm_kd (R (R a0 3) 0)).2 ≤ (a4).toNatClampNeg)) <|
      if p5.1 = (p5.2 (R (R a0 3) 0) (a4).toNatClampNeg) then (
        f_X11_repertoire_11 N R n a0 a2 (a3 ||| ((1 : Int32) <<< (a4 &&& 31))) (a4 + 1) p5.2)
      else (
        f_X11_repertoire_11 N R n a0 a2 a3 (a4 + 1) p5.2))
def f_X11_repertoire (N : Nat) (R : Nat → Nat → Nat) : Nat → Int32 → (Nat → Nat → Int32) → Option ((Int32 ⊕ String) × (Nat → Nat → Int32)) := fun a0 a1 I =>
  sm_gd (sm_kd a0 = (11, 18)) <|
  sm_tb (f_X11_needPupil N R a0 a1 I) fun r3 J4 =>
  f_X11_repertoire_11 N R N a0 r3 (0 : Int32) (0 : Int32) J4
set_option maxHeartbeats 4000000 in
set_option maxRecDepth 100000 in
theorem w_X11_repertoire_11 {l : Launch} (hl : l.stackTraces = false) (N : Nat) (R : Nat → Nat → Nat) : ∀ (n : Nat) (a0 : Nat) (a2 : Nat) (a3 : Int32) (a4 : Int32) (I : (Nat → Nat → Int32)) (y : ((Int32 ⊕ String) × (Nat → Nat → Int32))), f_X11_repertoire_11 N R n a0 a2 a3 a4 I = some y → sm_W l 2 mX11_repertoire 11 [(0, .inr (.inl a0)), (2, .inr (.inl a2)), (3, .inl a3), (4, .inl a4)] [] (I, R) (sm_oI y.1) (y.2, R) := by
  intro n
  induction n with
  | zero => intro a0 a2 a3 a4 I y h; cases h
  | succ n ih =>
    intro a0 a2 a3 a4 I y h
    rw [f_X11_repertoire_11] at h
    refine sm_iload (q := 13) dX11_repertoire_11 rfl 3 rfl ?_
    refine sm_aload_n (q := 14) dX11_repertoire_13 rfl rfl 0 rfl ?_
    obtain ⟨hc1, h⟩ := sm_gd_e h
    refine sm_getR (r := R a0 3) (q := 17) dX11_repertoire_14 rfl fk_X11_20 hc1 (by decide) (by decide) rfl ?_
    obtain ⟨hc2, h⟩ := sm_gd_e h
    refine sm_getI (q := 20) dX11_repertoire_17 rfl fk_X11_134 hc2 (by decide) (by decide) ?_
    rcases sm_if_e h with ⟨hb3, h⟩ | ⟨hb3, h⟩
    · refine sm_icmp_ge (tgt := 62) (q := 23) dX11_repertoire_20 (by decide) rfl (fun _ => ?_) (fun hn => absurd hb3 hn)
      refine sm_iload_n (q := 63) dX11_repertoire_62 rfl rfl 2 rfl ?_
      obtain rfl := Option.some.inj h
      exact sm_iret dX11_repertoire_63 rfl
    · refine sm_icmp_ge (tgt := 62) (q := 23) dX11_repertoire_20 (by decide) rfl (fun ht => absurd ht hb3) (fun _ => ?_)
      refine sm_aload_n (q := 24) dX11_repertoire_23 rfl rfl 0 rfl ?_
      refine sm_getR (r := R a0 3) (q := 27) dX11_repertoire_24 rfl fk_X11_20 hc1 (by decide) (by decide) rfl ?_
      refine sm_aload_n (q := 28) dX11_repertoire_27 rfl rfl 1 rfl ?_
      obtain ⟨hc4, h⟩ := sm_gd_e h
      refine sm_getI (q := 31) dX11_repertoire_28 rfl fk_X11_202 hc4 (by decide) (by decide) ?_
      refine sm_iload (q := 33) dX11_repertoire_31 rfl 3 rfl ?_
      obtain ⟨p5, hc_p5, h⟩ := sm_bd_e h
      refine sm_callVi (q := 36) (As := [.inl (I a2 0), .inl a4]) (S := []) (e_X7_barsThatFit hc_p5) mv_X11_291 hc2 rfl (by decide) (Nat.le_of_ble_eq_true rfl) dX11_repertoire_33 rfl ?_
      refine sm_aload_n (q := 37) dX11_repertoire_36 rfl rfl 0 rfl ?_
      refine sm_getR (r := R a0 3) (q := 40) dX11_repertoire_37 rfl fk_X11_20 hc1 (by decide) (by decide) rfl ?_
      refine sm_getR (r := R (R a0 3) 0) (q := 43) dX11_repertoire_40 rfl fk_X11_181 hc2 (by decide) (by decide) rfl ?_
      refine sm_iload (q := 45) dX11_repertoire_43 rfl 3 rfl ?_
      obtain ⟨hc6, h⟩ := sm_gd_e h
      refine sm_iald (n := (sm_kd (R (R a0 3) 0)).2) (q := 46) dX11_repertoire_45 rfl (Prod.ext hc6.1 rfl) hc6.2 ?_
      rcases sm_if_e h with ⟨hb7, h⟩ | ⟨hb7, h⟩
      · refine sm_icmp_ne (tgt := 56) (q := 49) dX11_repertoire_46 (by decide) rfl (fun hn => absurd hb7 hn) (fun _ => ?_)
        refine sm_iload_n (q := 50) dX11_repertoire_49 rfl rfl 2 rfl ?_
        refine sm_iconst (v := 1) (q := 51) dX11_repertoire_50 rfl (by decide) ?_
        refine sm_iload (q := 53) dX11_repertoire_51 rfl 3 rfl ?_
        refine sm_ishl (q := 54) dX11_repertoire_53 rfl ?_
        refine sm_ior (q := 55) dX11_repertoire_54 rfl ?_
        refine sm_istore_n (L' := [(3, .inl (a3 ||| ((1 : Int32) <<< (a4 &&& 31)))), (0, .inr (.inl a0)), (2, .inr (.inl a2)), (4, .inl a4)]) (q := 56) dX11_repertoire_55 rfl rfl (by decide) rfl ?_
        refine sm_iinc (v := (a4 + 1)) (L' := [(4, .inl (a4 + 1)), (3, .inl (a3 ||| ((1 : Int32) <<< (a4 &&& 31)))), (0, .inr (.inl a0)), (2, .inr (.inl a2))]) (q := 59) dX11_repertoire_56 rfl 3 rfl rfl (by decide) rfl ?_
        refine sm_goto (q := 11) dX11_repertoire_59 (by decide) ?_
        refine sm_pick [2, 3, 1, 0] rfl ?_
        exact ih _ _ _ _ _ _ h
      · refine sm_icmp_ne (tgt := 56) (q := 49) dX11_repertoire_46 (by decide) rfl (fun _ => ?_) (fun he => absurd he hb7)
        refine sm_iinc (v := (a4 + 1)) (L' := [(4, .inl (a4 + 1)), (0, .inr (.inl a0)), (2, .inr (.inl a2)), (3, .inl a3)]) (q := 59) dX11_repertoire_56 rfl 3 rfl rfl (by decide) rfl ?_
        refine sm_goto (q := 11) dX11_repertoire_59 (by decide) ?_
        refine sm_pick [1, 2, 3, 0] rfl ?_
        exact ih _ _ _ _ _ _ h
set_option maxHeartbeats 4000000 in
set_option maxRecDepth 100000 in
theorem w_X11_repertoire {l : Launch} (hl : l.stackTraces = false) (N : Nat) (R : Nat → Nat → Nat) : ∀ (a0 : Nat) (a1 : Int32) (I : (Nat → Nat → Int32)) (y : ((Int32 ⊕ String) × (Nat → Nat → Int32))), f_X11_repertoire N R a0 a1 I = some y → sm_W l 2 mX11_repertoire 0 [(0, .inr (.inl a0)), (1, .inl a1)] [] (I, R) (sm_oI y.1) (y.2, R) := by
  intro a0 a1 I y h
  unfold f_X11_repertoire at h
  refine sm_aload_n (q := 1) dX11_repertoire_0 rfl rfl 0 rfl ?_
  refine sm_iload_n (q := 2) dX11_repertoire_1 rfl rfl 1 rfl ?_
  obtain ⟨hc1, h⟩ := sm_gd_e h
  rcases sm_tb_e h with ⟨r3, J4, hc_p2, h⟩ | ⟨E9, J9, hc_p2, h⟩
  · refine sm_callVr (q := 5) (As := [.inl a1]) (S := []) (ek_X11_needPupil hl hc_p2) mv_X11_198 hc1 rfl (by decide) (Nat.le_of_ble_eq_true rfl) dX11_repertoire_2 rfl ?_
    refine sm_astore_n (L' := [(2, .inr (.inl r3)), (0, .inr (.inl a0)), (1, .inl a1)]) (q := 6) dX11_repertoire_5 rfl rfl (by decide) rfl ?_
    refine sm_iconst (v := 0) (q := 7) dX11_repertoire_6 rfl (by decide) ?_
    refine sm_istore_n (L' := [(3, .inl (0 : Int32)), (2, .inr (.inl r3)), (0, .inr (.inl a0)), (1, .inl a1)]) (q := 8) dX11_repertoire_7 rfl rfl (by decide) rfl ?_
    refine sm_iconst (v := 0) (q := 9) dX11_repertoire_8 rfl (by decide) ?_
    refine sm_istore (L' := [(4, .inl (0 : Int32)), (3, .inl (0 : Int32)), (2, .inr (.inl r3)), (0, .inr (.inl a0)), (1, .inl a1)]) (q := 11) dX11_repertoire_9 rfl (by decide) rfl ?_
    refine sm_pick [3, 2, 1, 0] rfl ?_
    exact w_X11_repertoire_11 hl N R N _ _ _ _ _ _ h
  · obtain rfl := Option.some.inj h
    exact sm_callVX (E := E9) (As := [.inl a1]) (S := []) (ex_X11_needPupil hl hc_p2) mv_X11_198 hc1 rfl (by decide) (Nat.le_of_ble_eq_true rfl) dX11_repertoire_2
theorem e_X11_repertoire {l : Launch} (hl : l.stackTraces = false) {N : Nat} {R : Nat → Nat → Nat} {a0 : Nat} {a1 : Int32} {I : (Nat → Nat → Int32)} {y : ((Int32 ⊕ String) × (Nat → Nat → Int32))} (h : f_X11_repertoire N R a0 a1 I = some y) : sm_E l 2 mX11_repertoire [.inr (.inl a0), .inl a1] (I, R) (sm_oI y.1) (y.2, R) :=
  sm_meth (by decide) (Nat.le_of_ble_eq_true rfl) (w_X11_repertoire hl N R a0 a1 I y h)
theorem ek_X11_repertoire {l : Launch} (hl : l.stackTraces = false) {N : Nat} {R : Nat → Nat → Nat} {a0 : Nat} {a1 : Int32} {I : (Nat → Nat → Int32)} {r : Int32} {J : (Nat → Nat → Int32)} (h : f_X11_repertoire N R a0 a1 I = some (.inl r, J)) : sm_E l 2 mX11_repertoire [.inr (.inl a0), .inl a1] (I, R) (.inl (some (.inl r))) (J, R) := by
  have h1 := e_X11_repertoire (l := l) hl h
  exact h1
theorem ex_X11_repertoire {l : Launch} (hl : l.stackTraces = false) {N : Nat} {R : Nat → Nat → Nat} {a0 : Nat} {a1 : Int32} {I : (Nat → Nat → Int32)} {E : String} {J : (Nat → Nat → Int32)} (h : f_X11_repertoire N R a0 a1 I = some (.inr E, J)) : sm_E l 2 mX11_repertoire [.inr (.inl a0), .inl a1] (I, R) (.inr E) (J, R) := by
  have h1 := e_X11_repertoire (l := l) hl h
  exact h1
