def f_X11_needWhat (N : Nat) (R : Nat → Nat → Nat) : Int32 → Int32 → (Nat → Nat → Int32) → Option ((Unit ⊕ String) × (Nat → Nat → Int32)) := fun a0 a1 I =>
  if a0 < 0 then (
    some (.inr "java/util/NoSuchElementException", I))
  else (
    if a0 ≤ a1 then (
      some (.inl (), I))
    else (
      some (.inr "java/util/NoSuchElementException", I)))
set_option maxHeartbeats 4000000 in
set_option maxRecDepth 100000 in
theorem w_X11_needWhat {l : Launch} (hl : l.stackTraces = false) (N : Nat) (R : Nat → Nat → Nat) : ∀ (a0 : Int32) (a1 : Int32) (I : (Nat → Nat → Int32)) (y : ((Unit ⊕ String) × (Nat → Nat → Int32))), f_X11_needWhat N R a0 a1 I = some y → sm_W l 0 mX11_needWhat 0 [(0, .inl a0), (1, .inl a1)] [] (I, R) (sm_oU y.1) (y.2, R) := by
  intro a0 a1 I y h
  unfold f_X11_needWhat at h
  refine sm_iload_n (q := 1) dX11_needWhat_0 rfl rfl 0 rfl ?_
  rcases sm_if_e h with ⟨hb1, h⟩ | ⟨hb1, h⟩
  · refine sm_if_lt (tgt := 9) (q := 4) dX11_needWhat_1 (by decide) rfl (fun _ => ?_) (fun hn => absurd hb1 hn)
    obtain rfl := Option.some.inj h
    exact sm_throwW (tx := "no such what") (j := 22) hl (by decide +kernel) (by decide +kernel) (by decide) cl_X11_165 in_NSE (List.mem_of_getElem? (i := 22) rfl) th_X11_169 tg_X11_165_169 (Nat.le_of_ble_eq_true rfl) dX11_needWhat_9 dX11_needWhat_12 dX11_needWhat_13 dX11_needWhat_16 dX11_needWhat_19
  · refine sm_if_lt (tgt := 9) (q := 4) dX11_needWhat_1 (by decide) rfl (fun ht => absurd ht hb1) (fun _ => ?_)
    refine sm_iload_n (q := 5) dX11_needWhat_4 rfl rfl 0 rfl ?_
    refine sm_iload_n (q := 6) dX11_needWhat_5 rfl rfl 1 rfl ?_
    rcases sm_if_e h with ⟨hb2, h⟩ | ⟨hb2, h⟩
    · refine sm_icmp_le (tgt := 20) (q := 9) dX11_needWhat_6 (by decide) rfl (fun _ => ?_) (fun hn => absurd hb2 hn)
      obtain rfl := Option.some.inj h
      exact sm_vret dX11_needWhat_20 rfl
    · refine sm_icmp_le (tgt := 20) (q := 9) dX11_needWhat_6 (by decide) rfl (fun ht => absurd ht hb2) (fun _ => ?_)
      obtain rfl := Option.some.inj h
      exact sm_throwW (tx := "no such what") (j := 22) hl (by decide +kernel) (by decide +kernel) (by decide) cl_X11_165 in_NSE (List.mem_of_getElem? (i := 22) rfl) th_X11_169 tg_X11_165_169 (Nat.le_of_ble_eq_true rfl) dX11_needWhat_9 dX11_needWhat_12 dX11_needWhat_13 dX11_needWhat_16 dX11_needWhat_19
theorem e_X11_needWhat {l : Launch} (hl : l.stackTraces = false) {N : Nat} {R : Nat → Nat → Nat} {a0 : Int32} {a1 : Int32} {I : (Nat → Nat → Int32)} {y : ((Unit ⊕ String) × (Nat → Nat → Int32))} (h : f_X11_needWhat N R a0 a1 I = some y) : sm_E l 0 mX11_needWhat [.inl a0, .inl a1] (I, R) (sm_oU y.1) (y.2, R) :=
  sm_meth (by decide) (Nat.le_of_ble_eq_true rfl) (w_X11_needWhat hl N R a0 a1 I y h)
theorem ek_X11_needWhat {l : Launch} (hl : l.stackTraces = false) {N : Nat} {R : Nat → Nat → Nat} {a0 : Int32} {a1 : Int32} {I : (Nat → Nat → Int32)} {r : Unit} {J : (Nat → Nat → Int32)} (h : f_X11_needWhat N R a0 a1 I = some (.inl r, J)) : sm_E l 0 mX11_needWhat [.inl a0, .inl a1] (I, R) (.inl none) (J, R) := by
  have h1 := e_X11_needWhat (l := l) hl h
  exact h1
theorem ex_X11_needWhat {l : Launch} (hl : l.stackTraces = false) {N : Nat} {R : Nat → Nat → Nat} {a0 : Int32} {a1 : Int32} {I : (Nat → Nat → Int32)} {E : String} {J : (Nat → Nat → Int32)} (h : f_X11_needWhat N R a0 a1 I = some (.inr E, J)) : sm_E l 0 mX11_needWhat [.inl a0, .inl a1] (I, R) (.inr E) (J, R) := by
  have h1 := e_X11_needWhat (l := l) hl h
  exact h1
