def f_X11_needBetween (N : Nat) (R : Nat → Nat → Nat) : Int32 → Int32 → Int32 → (Nat → Nat → Int32) → Option ((Unit ⊕ String) × (Nat → Nat → Int32)) := fun a0 a1 a2 I =>
  if a0 < a1 then (
    some (.inr "java/lang/IllegalArgumentException", I))
  else (
    if a0 ≤ a2 then (
      some (.inl (), I))
    else (
      some (.inr "java/lang/IllegalArgumentException", I)))
set_option maxHeartbeats 4000000 in
set_option maxRecDepth 100000 in
theorem w_X11_needBetween {l : Launch} (hl : l.stackTraces = false) (N : Nat) (R : Nat → Nat → Nat) : ∀ (a0 : Int32) (a1 : Int32) (a2 : Int32) (I : (Nat → Nat → Int32)) (y : ((Unit ⊕ String) × (Nat → Nat → Int32))), f_X11_needBetween N R a0 a1 a2 I = some y → sm_W l 0 mX11_needBetween 0 [(0, .inl a0), (1, .inl a1), (2, .inl a2)] [] (I, R) (sm_oU y.1) (y.2, R) := by
  intro a0 a1 a2 I y h
  unfold f_X11_needBetween at h
  refine sm_iload_n (q := 1) dX11_needBetween_0 rfl rfl 0 rfl ?_
  refine sm_iload_n (q := 2) dX11_needBetween_1 rfl rfl 1 rfl ?_
  rcases sm_if_e h with ⟨hb1, h⟩ | ⟨hb1, h⟩
  · refine sm_icmp_lt (tgt := 10) (q := 5) dX11_needBetween_2 (by decide) rfl (fun _ => ?_) (fun hn => absurd hb1 hn)
    obtain rfl := Option.some.inj h
    exact sm_throwW (tx := "a number that is too small or too large") (j := 23) hl (by decide +kernel) (by decide +kernel) (by decide) cl_X11_109 in_IAE (List.mem_of_getElem? (i := 23) rfl) th_X11_113 tg_X11_109_113 (Nat.le_of_ble_eq_true rfl) dX11_needBetween_10 dX11_needBetween_13 dX11_needBetween_14 dX11_needBetween_17 dX11_needBetween_20
  · refine sm_icmp_lt (tgt := 10) (q := 5) dX11_needBetween_2 (by decide) rfl (fun ht => absurd ht hb1) (fun _ => ?_)
    refine sm_iload_n (q := 6) dX11_needBetween_5 rfl rfl 0 rfl ?_
    refine sm_iload_n (q := 7) dX11_needBetween_6 rfl rfl 2 rfl ?_
    rcases sm_if_e h with ⟨hb2, h⟩ | ⟨hb2, h⟩
    · refine sm_icmp_le (tgt := 21) (q := 10) dX11_needBetween_7 (by decide) rfl (fun _ => ?_) (fun hn => absurd hb2 hn)
      obtain rfl := Option.some.inj h
      exact sm_vret dX11_needBetween_21 rfl
    · refine sm_icmp_le (tgt := 21) (q := 10) dX11_needBetween_7 (by decide) rfl (fun ht => absurd ht hb2) (fun _ => ?_)
      obtain rfl := Option.some.inj h
      exact sm_throwW (tx := "a number that is too small or too large") (j := 23) hl (by decide +kernel) (by decide +kernel) (by decide) cl_X11_109 in_IAE (List.mem_of_getElem? (i := 23) rfl) th_X11_113 tg_X11_109_113 (Nat.le_of_ble_eq_true rfl) dX11_needBetween_10 dX11_needBetween_13 dX11_needBetween_14 dX11_needBetween_17 dX11_needBetween_20
theorem e_X11_needBetween {l : Launch} (hl : l.stackTraces = false) {N : Nat} {R : Nat → Nat → Nat} {a0 : Int32} {a1 : Int32} {a2 : Int32} {I : (Nat → Nat → Int32)} {y : ((Unit ⊕ String) × (Nat → Nat → Int32))} (h : f_X11_needBetween N R a0 a1 a2 I = some y) : sm_E l 0 mX11_needBetween [.inl a0, .inl a1, .inl a2] (I, R) (sm_oU y.1) (y.2, R) :=
  sm_meth (by decide) (Nat.le_of_ble_eq_true rfl) (w_X11_needBetween hl N R a0 a1 a2 I y h)
theorem ek_X11_needBetween {l : Launch} (hl : l.stackTraces = false) {N : Nat} {R : Nat → Nat → Nat} {a0 : Int32} {a1 : Int32} {a2 : Int32} {I : (Nat → Nat → Int32)} {r : Unit} {J : (Nat → Nat → Int32)} (h : f_X11_needBetween N R a0 a1 a2 I = some (.inl r, J)) : sm_E l 0 mX11_needBetween [.inl a0, .inl a1, .inl a2] (I, R) (.inl none) (J, R) := by
  have h1 := e_X11_needBetween (l := l) hl h
  exact h1
theorem ex_X11_needBetween {l : Launch} (hl : l.stackTraces = false) {N : Nat} {R : Nat → Nat → Nat} {a0 : Int32} {a1 : Int32} {a2 : Int32} {I : (Nat → Nat → Int32)} {E : String} {J : (Nat → Nat → Int32)} (h : f_X11_needBetween N R a0 a1 a2 I = some (.inr E, J)) : sm_E l 0 mX11_needBetween [.inl a0, .inl a1, .inl a2] (I, R) (.inr E) (J, R) := by
  have h1 := e_X11_needBetween (l := l) hl h
  exact h1
