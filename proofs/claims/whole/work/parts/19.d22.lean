def cI_X9_init_43 (I : Nat → Nat → Int32) : Nat → Nat → Int32 := I
def cR_X9_init_43 (Rf : Nat → Nat → Nat) : Nat → Nat → Nat := (sm_s1 (sm_s1 (sm_s1 Rf 43 0 44) 43 1 45) 43 2 46)
theorem dI_X9_init_43 {I : Nat → Nat → Int32} (hd : ∀ k, 44 ≤ k → I k = fun _ => 0) : ∀ k, 47 ≤ k → cI_X9_init_43 I k = fun _ => 0 := sn_mono hd (by decide)
theorem dR_X9_init_43 {Rf : Nat → Nat → Nat} (hr : ∀ k, 44 ≤ k → Rf k = fun _ => 9999) : ∀ k, 47 ≤ k → cR_X9_init_43 Rf k = fun _ => 9999 := sn_mono (sn_dfs (a := 43) (j := 2) (x := 46) (sn_dfs (a := 43) (j := 1) (x := 45) (sn_dfs (a := 43) (j := 0) (x := 44) hr (t1 := 45) (by decide) (by decide)) (t1 := 46) (by decide) (by decide)) (t1 := 47) (by decide) (by decide)) (by decide)
set_option maxHeartbeats 40000000 in
set_option maxRecDepth 100000 in
theorem kc_X9_init_43 {l : Launch} {I : Nat → Nat → Int32} {Rf : Nat → Nat → Nat} (hd : ∀ k, 44 ≤ k → I k = fun _ => 0) (hr : ∀ k, 44 ≤ k → Rf k = fun _ => 9999) : sm_K l 0 mX9_init [.inr (.inl 43)] 44 (I, Rf) 47 (cI_X9_init_43 I, cR_X9_init_43 Rf) 3 24 := by
  refine sn_meth (by decide) (Nat.le_of_ble_eq_true rfl) rfl ?_
  intro G p e s m args below meth c ls hx hb hml hown hts hret hlocks hin hP B hl
  have hS : va_S (fun q => G.2.1 0 ≤ q) s.heap s.heap [] := va_S.rf
  have hl : lv_has ls 1 [(0, .ref (G.2.1 43))] := hl
  refine lv_aload_n hx hb dX9_init_0 rfl (lv_at hl 0 rfl) ?_
  refine W.objInit hx hb hown (hts _ ol_X9_3) (hts _ ob_im) (hts _ ob_co) rfl (by rw [hml]; exact hl.1) rfl dX9_init_1 (Nat.le_of_ble_eq_true rfl) (Nat.le_of_ble_eq_true rfl) ?_
  refine W.eq (g2 := F0 m 4 ls []) rfl ?_
  refine lv_aload_n hx hb dX9_init_4 rfl (lv_at hl 0 rfl) ?_
  refine lv_bipush (v := 8) hx hb dX9_init_5 (by decide) ?_
  refine sn_newa (t := 44) (a := 0) (n := 8) (atype := .int) (ty := .int) (x := 8) hx hb hts rfl ar_int (Or.inl ⟨rfl, rfl⟩) kd_44 (by decide) (by decide) (by decide) B hP hS (hd 44 (by decide)) (Nat.le_of_ble_eq_true rfl) (Nat.le_of_ble_eq_true rfl) dX9_init_7 (fun H hP hS => ?_)
  refine W.widen (k := 1) (n := 8) (Nat.le_of_ble_eq_true rfl) (Nat.le_of_ble_eq_true rfl) ?_
  have hP : sm_NP G 45 (I, Rf) H := hP
  refine sn_putR (x := 44) (k := 43) (n := 4) hx hb hts hown hin fk_X9_9 (fun a => ⟨rfl, rfl⟩) (dw_X9 0 (by decide)) kd_43 (by decide) (by decide) (by decide) (by decide +kernel) (by omega) B hP hS dX9_init_9 (fun H locs hP hS => ?_)
  have hP : sm_NP G 45 (I, (sm_s1 Rf 43 0 44)) H := hP
  have hr : ∀ k, 45 ≤ k → (sm_s1 Rf 43 0 44) k = fun _ => 9999 := (sn_dfs (a := 43) (j := 0) (x := 44) hr (t1 := 45) (by decide) (by decide))
  refine lv_aload_n hx hb dX9_init_12 rfl (lv_at hl 0 rfl) ?_
  refine lv_bipush (v := 8) hx hb dX9_init_13 (by decide) ?_
  refine sn_newa (t := 45) (a := 0) (n := 8) (atype := .int) (ty := .int) (x := 8) hx hb hts rfl ar_int (Or.inl ⟨rfl, rfl⟩) kd_45 (by decide) (by decide) (by decide) B hP hS (hd 45 (by decide)) (Nat.le_of_ble_eq_true rfl) (Nat.le_of_ble_eq_true rfl) dX9_init_15 (fun H hP hS => ?_)
  refine W.widen (k := 2) (n := 16) (Nat.le_of_ble_eq_true rfl) (Nat.le_of_ble_eq_true rfl) ?_
  have hP : sm_NP G 46 (I, (sm_s1 Rf 43 0 44)) H := hP
  refine sn_putR (x := 45) (k := 43) (n := 4) hx hb hts hown hin fk_X9_15 (fun a => ⟨rfl, rfl⟩) (dw_X9 1 (by decide)) kd_43 (by decide) (by decide) (by decide) (by decide +kernel) (by omega) B hP hS dX9_init_17 (fun H locs hP hS => ?_)
  have hP : sm_NP G 46 (I, (sm_s1 (sm_s1 Rf 43 0 44) 43 1 45)) H := hP
  have hr : ∀ k, 46 ≤ k → (sm_s1 (sm_s1 Rf 43 0 44) 43 1 45) k = fun _ => 9999 := (sn_dfs (a := 43) (j := 1) (x := 45) hr (t1 := 46) (by decide) (by decide))
  refine lv_aload_n hx hb dX9_init_20 rfl (lv_at hl 0 rfl) ?_
  refine lv_bipush (v := 8) hx hb dX9_init_21 (by decide) ?_
  refine sn_newa (t := 46) (a := 0) (n := 8) (atype := .int) (ty := .int) (x := 8) hx hb hts rfl ar_int (Or.inl ⟨rfl, rfl⟩) kd_46 (by decide) (by decide) (by decide) B hP hS (hd 46 (by decide)) (Nat.le_of_ble_eq_true rfl) (Nat.le_of_ble_eq_true rfl) dX9_init_23 (fun H hP hS => ?_)
  refine W.widen (k := 3) (n := 24) (Nat.le_of_ble_eq_true rfl) (Nat.le_of_ble_eq_true rfl) ?_
  have hP : sm_NP G 47 (I, (sm_s1 (sm_s1 Rf 43 0 44) 43 1 45)) H := hP
  refine sn_putR (x := 46) (k := 43) (n := 4) hx hb hts hown hin fk_X9_18 (fun a => ⟨rfl, rfl⟩) (dw_X9 2 (by decide)) kd_43 (by decide) (by decide) (by decide) (by decide +kernel) (by omega) B hP hS dX9_init_25 (fun H locs hP hS => ?_)
  have hP : sm_NP G 47 (I, (sm_s1 (sm_s1 (sm_s1 Rf 43 0 44) 43 1 45) 43 2 46)) H := hP
  have hr : ∀ k, 47 ≤ k → (sm_s1 (sm_s1 (sm_s1 Rf 43 0 44) 43 1 45) 43 2 46) k = fun _ => 9999 := (sn_dfs (a := 43) (j := 2) (x := 46) hr (t1 := 47) (by decide) (by decide))
  exact W.vret hx hb hret (fun t9 ht hW => ⟨rfl, by rw [ht]; exact hP, hS.F ht⟩) hS.2.2 dX9_init_28 hlocks
