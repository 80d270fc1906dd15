def f_X11_needPiece (N : Nat) (R : Nat → Nat → Nat) : Nat → Int32 → (Nat → Nat → Int32) → Option ((Unit ⊕ String) × (Nat → Nat → Int32)) := fun a0 a1 I =>
  if a1 < 0 then (
    some (.inr "java/util/NoSuchElementException", I))
  else (
    sm_gd (sm_kd a0 = (11, 18)) <|
    sm_gd (sm_kd (R a0 3) = (7, 9)) <|
    if a1 < (I (R a0 3) 3) then (
      some (.inl (), I))
    else (
      some (.inr "java/util/NoSuchElementException", I)))
set_option maxHeartbeats 4000000 in
set_option maxRecDepth 100000 in
theorem w_X11_needPiece {l : Launch} (hl : l.stackTraces = false) (N : Nat) (R : Nat → Nat → Nat) : ∀ (a0 : Nat) (a1 : Int32) (I : (Nat → Nat → Int32)) (y : ((Unit ⊕ String) × (Nat → Nat → Int32))), f_X11_needPiece N R a0 a1 I = some y → sm_W l 0 mX11_needPiece 0 [(0, .inr (.inl a0)), (1, .inl a1)] [] (I, R) (sm_oU y.1) (y.2, R) := by
  intro a0 a1 I y h
  unfold f_X11_needPiece at h
  refine sm_iload_n (q := 1) dX11_needPiece_0 rfl rfl 1 rfl ?_
  rcases sm_if_e h with ⟨hb1, h⟩ | ⟨hb1, h⟩
  · refine sm_if_lt (tgt := 15) (q := 4) dX11_needPiece_1 (by decide) rfl (fun _ => ?_) (fun hn => absurd hb1 hn)
    obtain rfl := Option.some.inj h
    exact sm_throwW (tx := "no such piece") (j := 17) hl (by decide +kernel) (by decide +kernel) (by decide) cl_X11_165 in_NSE (List.mem_of_getElem? (i := 17) rfl) th_X11_169 tg_X11_165_169 (Nat.le_of_ble_eq_true rfl) dX11_needPiece_15 dX11_needPiece_18 dX11_needPiece_19 dX11_needPiece_22 dX11_needPiece_25
  · refine sm_if_lt (tgt := 15) (q := 4) dX11_needPiece_1 (by decide) rfl (fun ht => absurd ht hb1) (fun _ => ?_)
    refine sm_iload_n (q := 5) dX11_needPiece_4 rfl rfl 1 rfl ?_
    refine sm_aload_n (q := 6) dX11_needPiece_5 rfl rfl 0 rfl ?_
    obtain ⟨hc2, h⟩ := sm_gd_e h
    refine sm_getR (r := R a0 3) (q := 9) dX11_needPiece_6 rfl fk_X11_20 hc2 (by decide) (by decide) rfl ?_
    obtain ⟨hc3, h⟩ := sm_gd_e h
    refine sm_getI (q := 12) dX11_needPiece_9 rfl fk_X11_134 hc3 (by decide) (by decide) ?_
    rcases sm_if_e h with ⟨hb4, h⟩ | ⟨hb4, h⟩
    · refine sm_icmp_lt (tgt := 26) (q := 15) dX11_needPiece_12 (by decide) rfl (fun _ => ?_) (fun hn => absurd hb4 hn)
      obtain rfl := Option.some.inj h
      exact sm_vret dX11_needPiece_26 rfl
    · refine sm_icmp_lt (tgt := 26) (q := 15) dX11_needPiece_12 (by decide) rfl (fun ht => absurd ht hb4) (fun _ => ?_)
      obtain rfl := Option.some.inj h
      exact sm_throwW (tx := "no such piece") (j := 17) hl (by decide +kernel) (by decide +kernel) (by decide) cl_X11_165 in_NSE (List.mem_of_getElem? (i := 17) rfl) th_X11_169 tg_X11_165_169 (Nat.le_of_ble_eq_true rfl) dX11_needPiece_15 dX11_needPiece_18 dX11_needPiece_19 dX11_needPiece_22 dX11_needPiece_25
theorem e_X11_needPiece {l : Launch} (hl : l.stackTraces = false) {N : Nat} {R : Nat → Nat → Nat} {a0 : Nat} {a1 : Int32} {I : (Nat → Nat → Int32)} {y : ((Unit ⊕ String) × (Nat → Nat → Int32))} (h : f_X11_needPiece N R a0 a1 I = some y) : sm_E l 0 mX11_needPiece [.inr (.inl a0), .inl a1] (I, R) (sm_oU y.1) (y.2, R) :=
  sm_meth (by decide) (Nat.le_of_ble_eq_true rfl) (w_X11_needPiece hl N R a0 a1 I y h)
theorem ek_X11_needPiece {l : Launch} (hl : l.stackTraces = false) {N : Nat} {R : Nat → Nat → Nat} {a0 : Nat} {a1 : Int32} {I : (Nat → Nat → Int32)} {r : Unit} {J : (Nat → Nat → Int32)} (h : f_X11_needPiece N R a0 a1 I = some (.inl r, J)) : sm_E l 0 mX11_needPiece [.inr (.inl a0), .inl a1] (I, R) (.inl none) (J, R) := by
  have h1 := e_X11_needPiece (l := l) hl h
  exact h1
theorem ex_X11_needPiece {l : Launch} (hl : l.stackTraces = false) {N : Nat} {R : Nat → Nat → Nat} {a0 : Nat} {a1 : Int32} {I : (Nat → Nat → Int32)} {E : String} {J : (Nat → Nat → Int32)} (h : f_X11_needPiece N R a0 a1 I = some (.inr E, J)) : sm_E l 0 mX11_needPiece [.inr (.inl a0), .inl a1] (I, R) (.inr E) (J, R) := by
  have h1 := e_X11_needPiece (l := l) hl h
  exact h1
