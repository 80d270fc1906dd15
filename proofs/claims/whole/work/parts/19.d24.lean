def cI_X9_init_52 (I : Nat → Nat → Int32) : Nat → Nat → Int32 := I
def cR_X9_init_52 (Rf : Nat → Nat → Nat) : Nat → Nat → Nat := (sm_s1 (sm_s1 (sm_s1 Rf 52 0 53) 52 1 54) 52 2 55)
theorem dI_X9_init_52 {I : Nat → Nat → Int32} (hd : ∀ k, 53 ≤ k → I k = fun _ => 0) : ∀ k, 56 ≤ k → cI_X9_init_52 I k = fun _ => 0 := sn_mono hd (by decide)
theorem dR_X9_init_52 {Rf : Nat → Nat → Nat} (hr : ∀ k, 53 ≤ k → Rf k = fun _ => 9999) : ∀ k, 56 ≤ k → cR_X9_init_52 Rf k = fun _ => 9999 := sn_mono (sn_dfs (a := 52) (j := 2) (x := 55) (sn_dfs (a := 52) (j := 1) (x := 54) (sn_dfs (a := 52) (j := 0) (x := 53) hr (t1 := 54) (by decide) (by decide)) (t1 := 55) (by decide) (by decide)) (t1 := 56) (by decide) (by decide)) (by decide)
set_option maxHeartbeats 40000000 in
set_option maxRecDepth 100000 in
theorem kc_X9_init_52 {l : Launch} {I : Nat → Nat → Int32} {Rf : Nat → Nat → Nat} (hd : ∀ k, 53 ≤ k → I k = fun _ => 0) (hr : ∀ k, 53 ≤ k → Rf k = fun _ => 9999) : sm_K l 0 mX9_init [.inr (.inl 52)] 53 (I, Rf) 56 (cI_X9_init_52 I, cR_X9_init_52 Rf) 3 24 := by
  refine sn_meth (by decide) (Nat.le_of_ble_eq_true rfl) rfl ?_
  intro G p e s m args below meth c ls hx hb hml hown hts hret hlocks hin hP B hl
  have hS : va_S (fun q => G.2.1 0 ≤ q) s.heap s.heap [] := va_S.rf
  have hl : lv_has ls 1 [(0, .ref (G.2.1 52))] := hl
  refine lv_aload_n hx hb dX9_init_0 rfl (lv_at hl 0 rfl) ?_
  refine W.objInit hx hb hown (hts _ ol_X9_3) (hts _ ob_im) (hts _ ob_co) rfl (by rw [hml]; exact hl.1) rfl dX9_init_1 (Nat.le_of_ble_eq_true rfl) (Nat.le_of_ble_eq_true rfl) ?_
  refine W.eq (g2 := F0 m 4 ls []) rfl ?_
  refine lv_aload_n hx hb dX9_init_4 rfl (lv_at hl 0 rfl) ?_
  refine lv_bipush (v := 8) hx hb dX9_init_5 (by decide) ?_
  refine sn_newa (t := 53) (a := 0) (n := 8) (atype := .int) (ty := .int) (x := 8) hx hb hts rfl ar_int (Or.inl ⟨rfl, rfl⟩) kd_53 (by decide) (by decide) (by decide) B hP hS (hd 53 (by decide)) (Nat.le_of_ble_eq_true rfl) (Nat.le_of_ble_eq_true rfl) dX9_init_7 (fun H hP hS => ?_)
  refine W.widen (k := 1) (n := 8) (Nat.le_of_ble_eq_true rfl) (Nat.le_of_ble_eq_true rfl) ?_
  have hP : sm_NP G 54 (I, Rf) H := hP
  refine sn_putR (x := 53) (k := 52) (n := 4) hx hb hts hown hin fk_X9_9 (fun a => ⟨rfl, rfl⟩) (dw_X9 0 (by decide)) kd_52 (by decide) (by decide) (by decide) (by decide +kernel) (by omega) B hP hS dX9_init_9 (fun H locs hP hS => ?_)
  have hP : sm_NP G 54 (I, (sm_s1 Rf 52 0 53)) H := hP
  have hr : ∀ k, 54 ≤ k → (sm_s1 Rf 52 0 53) k = fun _ => 9999 := (sn_dfs (a := 52) (j := 0) (x := 53) hr (t1 := 54) (by decide) (by decide))
  refine lv_aload_n hx hb dX9_init_12 rfl (lv_at hl 0 rfl) ?_
  refine lv_bipush (v := 8) hx hb dX9_init_13 (by decide) ?_
  refine sn_newa (t := 54) (a := 0) (n := 8) (atype := .int) (ty := .int) (x := 8) hx hb hts rfl ar_int (Or.inl ⟨rfl, rfl⟩) kd_54 (by decide) (by decide) (by decide) B hP hS (hd 54 (by decide)) (Nat.le_of_ble_eq_true rfl) (Nat.le_of_ble_eq_true rfl) dX9_init_15 (fun H hP hS => ?_)
  refine W.widen (k := 2) (n := 16) (Nat.le_of_ble_eq_true rfl) (Nat.le_of_ble_eq_true rfl) ?_
  have hP : sm_NP G 55 (I, (sm_s1 Rf 52 0 53)) H := hP
  refine sn_putR (x := 54) (k := 52) (n := 4) hx hb hts hown hin fk_X9_15 (fun a => ⟨rfl, rfl⟩) (dw_X9 1 (by decide)) kd_52 (by decide) (by decide) (by decide) (by decide +kernel) (by omega) B hP hS dX9_init_17 (fun H locs hP hS => ?_)
  have hP : sm_NP G 55 (I, (sm_s1 (sm_s1 Rf 52 0 53) 52 1 54)) H := hP
  have hr : ∀ k, 55 ≤ k → (sm_s1 (sm_s1 Rf 52 0 53) 52 1 54) k = fun _ => 9999 := (sn_dfs (a := 52) (j := 1) (x := 54) hr (t1 := 55) (by decide) (by decide))
  refine lv_aload_n hx hb dX9_init_20 rfl (lv_at hl 0 rfl) ?_
  refine lv_bipush (v := 8) hx hb dX9_init_21 (by decide) ?_
  refine sn_newa (t := 55) (a := 0) (n := 8) (atype := .int) (ty := .int) (x := 8) hx hb hts rfl ar_int (Or.inl ⟨rfl, rfl⟩) kd_55 (by decide) (by decide) (by decide) B hP hS (hd 55 (by decide)) (Nat.le_of_ble_eq_true rfl) (Nat.le_of_ble_eq_true rfl) dX9_init_23 (fun H hP hS => ?_)
  refine W.widen (k := 3) (n := 24) (Nat.le_of_ble_eq_true rfl) (Nat.le_of_ble_eq_true rfl) ?_
  have hP : sm_NP G 56 (I, (sm_s1 (sm_s1 Rf 52 0 53) 52 1 54)) H := hP
  refine sn_putR (x := 55) (k := 52) (n := 4) hx hb hts hown hin fk_X9_18 (fun a => ⟨rfl, rfl⟩) (dw_X9 2 (by decide)) kd_52 (by decide) (by decide) (by decide) (by decide +kernel) (by omega) B hP hS dX9_init_25 (fun H locs hP hS => ?_)
  have hP : sm_NP G 56 (I, (sm_s1 (sm_s1 (sm_s1 Rf 52 0 53) 52 1 54) 52 2 55)) H := hP
  have hr : ∀ k, 56 ≤ k → (sm_s1 (sm_s1 (sm_s1 Rf 52 0 53) 52 1 54) 52 2 55) k = fun _ => 9999 := (sn_dfs (a := 52) (j := 2) (x := 55) hr (t1 := 56) (by decide) (by decide))
  exact W.vret hx hb hret (fun t9 ht hW => ⟨rfl, by rw [ht]; exact hP, hS.F ht⟩) hS.2.2 dX9_init_28 hlocks
