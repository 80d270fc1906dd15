def cI_X1_init_73 (I : Nat → Nat → Int32) : Nat → Nat → Int32 := I
def cR_X1_init_73 (Rf : Nat → Nat → Nat) : Nat → Nat → Nat := (sm_s1 (sm_s1 Rf 73 0 74) 73 1 75)
theorem dI_X1_init_73 {I : Nat → Nat → Int32} (hd : ∀ k, 74 ≤ k → I k = fun _ => 0) : ∀ k, 76 ≤ k → cI_X1_init_73 I k = fun _ => 0 := sn_mono hd (by decide)
theorem dR_X1_init_73 {Rf : Nat → Nat → Nat} (hr : ∀ k, 74 ≤ k → Rf k = fun _ => 9999) : ∀ k, 76 ≤ k → cR_X1_init_73 Rf k = fun _ => 9999 := sn_mono (sn_dfs (a := 73) (j := 1) (x := 75) (sn_dfs (a := 73) (j := 0) (x := 74) hr (t1 := 75) (by decide) (by decide)) (t1 := 76) (by decide) (by decide)) (by decide)
set_option maxHeartbeats 40000000 in
set_option maxRecDepth 100000 in
theorem kc_X1_init_73 {l : Launch} {I : Nat → Nat → Int32} {Rf : Nat → Nat → Nat} (hd : ∀ k, 74 ≤ k → I k = fun _ => 0) (hr : ∀ k, 74 ≤ k → Rf k = fun _ => 9999) : sm_K l 0 mX1_init [.inr (.inl 73)] 74 (I, Rf) 76 (cI_X1_init_73 I, cR_X1_init_73 Rf) 2 554 := by
  refine sn_meth (by decide) (Nat.le_of_ble_eq_true rfl) rfl ?_
  intro G p e s m args below meth c ls hx hb hml hown hts hret hlocks hin hP B hl
  have hS : va_S (fun q => G.2.1 0 ≤ q) s.heap s.heap [] := va_S.rf
  have hl : lv_has ls 1 [(0, .ref (G.2.1 73))] := hl
  refine lv_aload_n hx hb dX1_init_0 rfl (lv_at hl 0 rfl) ?_
  refine W.objInit hx hb hown (hts _ ol_X1_3) (hts _ ob_im) (hts _ ob_co) rfl (by rw [hml]; exact hl.1) rfl dX1_init_1 (Nat.le_of_ble_eq_true rfl) (Nat.le_of_ble_eq_true rfl) ?_
  refine W.eq (g2 := F0 m 4 ls []) rfl ?_
  refine lv_aload_n hx hb dX1_init_4 rfl (lv_at hl 0 rfl) ?_
  refine lv_sipush (v := 512) hx hb dX1_init_5 (by decide) ?_
  refine sn_newa (t := 74) (a := 0) (n := 512) (atype := .int) (ty := .int) (x := 512) hx hb hts rfl ar_int (Or.inl ⟨rfl, rfl⟩) kd_74 (by decide) (by decide) (by decide) B hP hS (hd 74 (by decide)) (Nat.le_of_ble_eq_true rfl) (Nat.le_of_ble_eq_true rfl) dX1_init_8 (fun H hP hS => ?_)
  refine W.widen (k := 1) (n := 512) (Nat.le_of_ble_eq_true rfl) (Nat.le_of_ble_eq_true rfl) ?_
  have hP : sm_NP G 75 (I, Rf) H := hP
  refine sn_putR (x := 74) (k := 73) (n := 2) hx hb hts hown hin fk_X1_11 (fun a => ⟨rfl, rfl⟩) (dw_X1 0 (by decide)) kd_73 (by decide) (by decide) (by decide) (by decide +kernel) (by omega) B hP hS dX1_init_10 (fun H locs hP hS => ?_)
  have hP : sm_NP G 75 (I, (sm_s1 Rf 73 0 74)) H := hP
  have hr : ∀ k, 75 ≤ k → (sm_s1 Rf 73 0 74) k = fun _ => 9999 := (sn_dfs (a := 73) (j := 0) (x := 74) hr (t1 := 75) (by decide) (by decide))
  refine lv_aload_n hx hb dX1_init_13 rfl (lv_at hl 0 rfl) ?_
  refine lv_bipush (v := 42) hx hb dX1_init_14 (by decide) ?_
  refine sn_newa (t := 75) (a := 0) (n := 42) (atype := .int) (ty := .int) (x := 42) hx hb hts rfl ar_int (Or.inl ⟨rfl, rfl⟩) kd_75 (by decide) (by decide) (by decide) B hP hS (hd 75 (by decide)) (Nat.le_of_ble_eq_true rfl) (Nat.le_of_ble_eq_true rfl) dX1_init_16 (fun H hP hS => ?_)
  refine W.widen (k := 2) (n := 554) (Nat.le_of_ble_eq_true rfl) (Nat.le_of_ble_eq_true rfl) ?_
  have hP : sm_NP G 76 (I, (sm_s1 Rf 73 0 74)) H := hP
  refine sn_putR (x := 75) (k := 73) (n := 2) hx hb hts hown hin fk_X1_15 (fun a => ⟨rfl, rfl⟩) (dw_X1 1 (by decide)) kd_73 (by decide) (by decide) (by decide) (by decide +kernel) (by omega) B hP hS dX1_init_18 (fun H locs hP hS => ?_)
  have hP : sm_NP G 76 (I, (sm_s1 (sm_s1 Rf 73 0 74) 73 1 75)) H := hP
  have hr : ∀ k, 76 ≤ k → (sm_s1 (sm_s1 Rf 73 0 74) 73 1 75) k = fun _ => 9999 := (sn_dfs (a := 73) (j := 1) (x := 75) hr (t1 := 76) (by decide) (by decide))
  exact W.vret hx hb hret (fun t9 ht hW => ⟨rfl, by rw [ht]; exact hP, hS.F ht⟩) hS.2.2 dX1_init_21 hlocks
