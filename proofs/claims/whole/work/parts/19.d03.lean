def cI_X4_init_14 (I : Nat → Nat → Int32) : Nat → Nat → Int32 := I
def cR_X4_init_14 (Rf : Nat → Nat → Nat) : Nat → Nat → Nat := Rf
theorem dI_X4_init_14 {I : Nat → Nat → Int32} (hd : ∀ k, 15 ≤ k → I k = fun _ => 0) : ∀ k, 15 ≤ k → cI_X4_init_14 I k = fun _ => 0 := sn_mono hd (by decide)
theorem dR_X4_init_14 {Rf : Nat → Nat → Nat} (hr : ∀ k, 15 ≤ k → Rf k = fun _ => 9999) : ∀ k, 15 ≤ k → cR_X4_init_14 Rf k = fun _ => 9999 := sn_mono hr (by decide)
set_option maxHeartbeats 40000000 in
set_option maxRecDepth 100000 in
theorem kc_X4_init_14 {l : Launch} {I : Nat → Nat → Int32} {Rf : Nat → Nat → Nat} (hd : ∀ k, 15 ≤ k → I k = fun _ => 0) (hr : ∀ k, 15 ≤ k → Rf k = fun _ => 9999) : sm_K l 0 mX4_init [.inr (.inl 14)] 15 (I, Rf) 15 (cI_X4_init_14 I, cR_X4_init_14 Rf) 0 0 := by
  refine sn_meth (by decide) (Nat.le_of_ble_eq_true rfl) rfl ?_
  intro G p e s m args below meth c ls hx hb hml hown hts hret hlocks hin hP B hl
  have hS : va_S (fun q => G.2.1 0 ≤ q) s.heap s.heap [] := va_S.rf
  have hl : lv_has ls 1 [(0, .ref (G.2.1 14))] := hl
  refine lv_aload_n hx hb dX4_init_0 rfl (lv_at hl 0 rfl) ?_
  refine W.objInit hx hb hown (hts _ ol_X4_3) (hts _ ob_im) (hts _ ob_co) rfl (by rw [hml]; exact hl.1) rfl dX4_init_1 (Nat.le_of_ble_eq_true rfl) (Nat.le_of_ble_eq_true rfl) ?_
  refine W.eq (g2 := F0 m 4 ls []) rfl ?_
  exact W.vret hx hb hret (fun t9 ht hW => ⟨rfl, by rw [ht]; exact hP, hS.F ht⟩) hS.2.2 dX4_init_4 hlocks
