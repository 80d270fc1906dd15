def cI_X0_init_50 (I : Nat → Nat → Int32) : Nat → Nat → Int32 := I
def cR_X0_init_50 (Rf : Nat → Nat → Nat) : Nat → Nat → Nat := (sm_s1 Rf 50 0 51)
theorem dI_X0_init_50 {I : Nat → Nat → Int32} (hd : ∀ k, 51 ≤ k → I k = fun _ => 0) : ∀ k, 52 ≤ k → cI_X0_init_50 I k = fun _ => 0 := sn_mono hd (by decide)
theorem dR_X0_init_50 {Rf : Nat → Nat → Nat} (hr : ∀ k, 51 ≤ k → Rf k = fun _ => 9999) : ∀ k, 52 ≤ k → cR_X0_init_50 Rf k = fun _ => 9999 := sn_mono (sn_dfs (a := 50) (j := 0) (x := 51) hr (t1 := 52) (by decide) (by decide)) (by decide)
set_option maxHeartbeats 40000000 in
set_option maxRecDepth 100000 in
theorem kc_X0_init_50 {l : Launch} {I : Nat → Nat → Int32} {Rf : Nat → Nat → Nat} (hd : ∀ k, 51 ≤ k → I k = fun _ => 0) (hr : ∀ k, 51 ≤ k → Rf k = fun _ => 9999) : sm_K l 0 mX0_init [.inr (.inl 50)] 51 (I, Rf) 52 (cI_X0_init_50 I, cR_X0_init_50 Rf) 1 1480 := by
  refine sn_meth (by decide) (Nat.le_of_ble_eq_true rfl) rfl ?_
  intro G p e s m args below meth c ls hx hb hml hown hts hret hlocks hin hP B hl
  have hS : va_S (fun q => G.2.1 0 ≤ q) s.heap s.heap [] := va_S.rf
  have hl : lv_has ls 1 [(0, .ref (G.2.1 50))] := hl
  refine lv_aload_n hx hb dX0_init_0 rfl (lv_at hl 0 rfl) ?_
  refine W.objInit hx hb hown (hts _ ol_X0_3) (hts _ ob_im) (hts _ ob_co) rfl (by rw [hml]; exact hl.1) rfl dX0_init_1 (Nat.le_of_ble_eq_true rfl) (Nat.le_of_ble_eq_true rfl) ?_
  refine W.eq (g2 := F0 m 4 ls []) rfl ?_
  refine lv_aload_n hx hb dX0_init_4 rfl (lv_at hl 0 rfl) ?_
  refine lv_sipush (v := 1480) hx hb dX0_init_5 (by decide) ?_
  refine sn_newa (t := 51) (a := 0) (n := 1480) (atype := .int) (ty := .int) (x := 1480) hx hb hts rfl ar_int (Or.inl ⟨rfl, rfl⟩) kd_51 (by decide) (by decide) (by decide) B hP hS (hd 51 (by decide)) (Nat.le_of_ble_eq_true rfl) (Nat.le_of_ble_eq_true rfl) dX0_init_8 (fun H hP hS => ?_)
  refine W.widen (k := 1) (n := 1480) (Nat.le_of_ble_eq_true rfl) (Nat.le_of_ble_eq_true rfl) ?_
  have hP : sm_NP G 52 (I, Rf) H := hP
  refine sn_putR (x := 51) (k := 50) (n := 3) hx hb hts hown hin fk_X0_11 (fun a => ⟨rfl, rfl⟩) (dw_X0 0 (by decide)) kd_50 (by decide) (by decide) (by decide) (by decide +kernel) (by omega) B hP hS dX0_init_10 (fun H locs hP hS => ?_)
  have hP : sm_NP G 52 (I, (sm_s1 Rf 50 0 51)) H := hP
  have hr : ∀ k, 52 ≤ k → (sm_s1 Rf 50 0 51) k = fun _ => 9999 := (sn_dfs (a := 50) (j := 0) (x := 51) hr (t1 := 52) (by decide) (by decide))
  exact W.vret hx hb hret (fun t9 ht hW => ⟨rfl, by rw [ht]; exact hP, hS.F ht⟩) hS.2.2 dX0_init_13 hlocks
