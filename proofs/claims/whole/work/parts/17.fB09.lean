def f_X11_needPupil (N : Nat) (R : Nat → Nat → Nat) : Nat → Int32 → (Nat → Nat → Int32) → Option ((Nat ⊕ String) × (Nat → Nat → Int32)) := fun a0 a1 I =>
  if a1 < 0 then (
    some (.inr "java/util/NoSuchElementException", I))
  else (
    sm_gd (sm_kd a0 = (11, 18)) <|
    sm_gd (sm_kd (R a0 3) = (7, 9)) <|
    sm_gd (sm_kd (R (R a0 3) 5) = (10, 4)) <|
    if a1 < (I (R (R a0 3) 5) 1) then (
      sm_gd ((sm_kd (R (R (R a0 3) 5) 0)).1 = 16 ∧ ¬ (a1 < 0 ∨ (sm_kd (R (R (R a0 3) 5) 0)).2 ≤ (a1).toNatClampNeg)) <|
      some (.inl (R (R (R (R a0 3) 5) 0) (a1).toNatClampNeg), I))
    else (
      some (.inr "java/util/NoSuchElementException", I)))
set_option maxHeartbeats 4000000 in
set_option maxRecDepth 100000 in
theorem w_X11_needPupil {l : Launch} (hl : l.stackTraces = false) (N : Nat) (R : Nat → Nat → Nat) : ∀ (a0 : Nat) (a1 : Int32) (I : (Nat → Nat → Int32)) (y : ((Nat ⊕ String) × (Nat → Nat → Int32))), f_X11_needPupil N R a0 a1 I = some y → sm_W l 0 mX11_needPupil 0 [(0, .inr (.inl a0)), (1, .inl a1)] [] (I, R) (sm_oR y.1) (y.2, R) := by
  intro a0 a1 I y h
  unfold f_X11_needPupil at h
  refine sm_iload_n (q := 1) dX11_needPupil_0 rfl rfl 1 rfl ?_
  rcases sm_if_e h with ⟨hb1, h⟩ | ⟨hb1, h⟩
  · refine sm_if_lt (tgt := 18) (q := 4) dX11_needPupil_1 (by decide) rfl (fun _ => ?_) (fun hn => absurd hb1 hn)
    obtain rfl := Option.some.inj h
    exact sm_throwW (tx := "no such pupil") (j := 20) hl (by decide +kernel) (by decide +kernel) (by decide) cl_X11_165 in_NSE (List.mem_of_getElem? (i := 20) rfl) th_X11_169 tg_X11_165_169 (Nat.le_of_ble_eq_true rfl) dX11_needPupil_18 dX11_needPupil_21 dX11_needPupil_22 dX11_needPupil_25 dX11_needPupil_28
  · refine sm_if_lt (tgt := 18) (q := 4) dX11_needPupil_1 (by decide) rfl (fun ht => absurd ht hb1) (fun _ => ?_)
    refine sm_iload_n (q := 5) dX11_needPupil_4 rfl rfl 1 rfl ?_
    refine sm_aload_n (q := 6) dX11_needPupil_5 rfl rfl 0 rfl ?_
    obtain ⟨hc2, h⟩ := sm_gd_e h
    refine sm_getR (r := R a0 3) (q := 9) dX11_needPupil_6 rfl fk_X11_20 hc2 (by decide) (by decide) rfl ?_
    obtain ⟨hc3, h⟩ := sm_gd_e h
    refine sm_getR (r := R (R a0 3) 5) (q := 12) dX11_needPupil_9 rfl fk_X11_137 hc3 (by decide) (by decide) rfl ?_
    obtain ⟨hc4, h⟩ := sm_gd_e h
    refine sm_getI (q := 15) dX11_needPupil_12 rfl fk_X11_140 hc4 (by decide) (by decide) ?_
    rcases sm_if_e h with ⟨hb5, h⟩ | ⟨hb5, h⟩
    · refine sm_icmp_lt (tgt := 29) (q := 18) dX11_needPupil_15 (by decide) rfl (fun _ => ?_) (fun hn => absurd hb5 hn)
      refine sm_aload_n (q := 30) dX11_needPupil_29 rfl rfl 0 rfl ?_
      refine sm_getR (r := R a0 3) (q := 33) dX11_needPupil_30 rfl fk_X11_20 hc2 (by decide) (by decide) rfl ?_
      refine sm_getR (r := R (R a0 3) 5) (q := 36) dX11_needPupil_33 rfl fk_X11_137 hc3 (by decide) (by decide) rfl ?_
      refine sm_getR (r := R (R (R a0 3) 5) 0) (q := 39) dX11_needPupil_36 rfl fk_X11_170 hc4 (by decide) (by decide) rfl ?_
      refine sm_iload_n (q := 40) dX11_needPupil_39 rfl rfl 1 rfl ?_
      obtain ⟨hc6, h⟩ := sm_gd_e h
      refine sm_aald (t := 3) (n := (sm_kd (R (R (R a0 3) 5) 0)).2) (q := 41) dX11_needPupil_40 rfl (Prod.ext hc6.1 rfl) (Or.inl ⟨rfl, rfl⟩) hc6.2 rfl ?_
      obtain rfl := Option.some.inj h
      exact sm_aret dX11_needPupil_41 rfl
    · refine sm_icmp_lt (tgt := 29) (q := 18) dX11_needPupil_15 (by decide) rfl (fun ht => absurd ht hb5) (fun _ => ?_)
      obtain rfl := Option.some.inj h
      exact sm_throwW (tx := "no such pupil") (j := 20) hl (by decide +kernel) (by decide +kernel) (by decide) cl_X11_165 in_NSE (List.mem_of_getElem? (i := 20) rfl) th_X11_169 tg_X11_165_169 (Nat.le_of_ble_eq_true rfl) dX11_needPupil_18 dX11_needPupil_21 dX11_needPupil_22 dX11_needPupil_25 dX11_needPupil_28
theorem e_X11_needPupil {l : Launch} (hl : l.stackTraces = false) {N : Nat} {R : Nat → Nat → Nat} {a0 : Nat} {a1 : Int32} {I : (Nat → Nat → Int32)} {y : ((Nat ⊕ String) × (Nat → Nat → Int32))} (h : f_X11_needPupil N R a0 a1 I = some y) : sm_E l 0 mX11_needPupil [.inr (.inl a0), .inl a1] (I, R) (sm_oR y.1) (y.2, R) :=
  sm_meth (by decide) (Nat.le_of_ble_eq_true rfl) (w_X11_needPupil hl N R a0 a1 I y h)
theorem ek_X11_needPupil {l : Launch} (hl : l.stackTraces = false) {N : Nat} {R : Nat → Nat → Nat} {a0 : Nat} {a1 : Int32} {I : (Nat → Nat → Int32)} {r : Nat} {J : (Nat → Nat → Int32)} (h : f_X11_needPupil N R a0 a1 I = some (.inl r, J)) : sm_E l 0 mX11_needPupil [.inr (.inl a0), .inl a1] (I, R) (.inl (some (.inr (.inl r)))) (J, R) := by
  have h1 := e_X11_needPupil (l := l) hl h
  exact h1
theorem ex_X11_needPupil {l : Launch} (hl : l.stackTraces = false) {N : Nat} {R : Nat → Nat → Nat} {a0 : Nat} {a1 : Int32} {I : (Nat → Nat → Int32)} {E : String} {J : (Nat → Nat → Int32)} (h : f_X11_needPupil N R a0 a1 I = some (.inr E, J)) : sm_E l 0 mX11_needPupil [.inr (.inl a0), .inl a1] (I, R) (.inr E) (J, R) := by
  have h1 := e_X11_needPupil (l := l) hl h
  exact h1
