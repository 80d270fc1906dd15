def cI_X8_init_69 (I : Nat → Nat → Int32) : Nat → Nat → Int32 := (cI_X4_init_71 I)
def cR_X8_init_69 (Rf : Nat → Nat → Nat) : Nat → Nat → Nat := (sm_s1 (sm_s1 (cR_X4_init_71 (sm_s1 Rf 69 0 70)) 69 3 71) 69 4 72)
theorem dI_X8_init_69 {I : Nat → Nat → Int32} (hd : ∀ k, 70 ≤ k → I k = fun _ => 0) : ∀ k, 73 ≤ k → cI_X8_init_69 I k = fun _ => 0 := sn_mono (dI_X4_init_71 (sn_mono hd (by decide))) (by decide)
theorem dR_X8_init_69 {Rf : Nat → Nat → Nat} (hr : ∀ k, 70 ≤ k → Rf k = fun _ => 9999) : ∀ k, 73 ≤ k → cR_X8_init_69 Rf k = fun _ => 9999 := sn_mono (sn_dfs (a := 69) (j := 4) (x := 72) (sn_dfs (a := 69) (j := 3) (x := 71) (dR_X4_init_71 (sn_mono (sn_dfs (a := 69) (j := 0) (x := 70) hr (t1 := 71) (by decide) (by decide)) (by decide))) (t1 := 72) (by decide) (by decide)) (t1 := 73) (by decide) (by decide)) (by decide)
set_option maxHeartbeats 40000000 in
set_option maxRecDepth 100000 in
theorem kc_X8_init_69 {l : Launch} {I : Nat → Nat → Int32} {Rf : Nat → Nat → Nat} (hd : ∀ k, 70 ≤ k → I k = fun _ => 0) (hr : ∀ k, 70 ≤ k → Rf k = fun _ => 9999) : sm_K l 1 mX8_init [.inr (.inl 69)] 70 (I, Rf) 73 (cI_X8_init_69 I, cR_X8_init_69 Rf) 3 113 := by
  refine sn_meth (by decide) (Nat.le_of_ble_eq_true rfl) rfl ?_
  intro G p e s m args below meth c ls hx hb hml hown hts hret hlocks hin hP B hl
  have hS : va_S (fun q => G.2.1 0 ≤ q) s.heap s.heap [] := va_S.rf
  have hl : lv_has ls 1 [(0, .ref (G.2.1 69))] := hl
  refine lv_aload_n hx hb dX8_init_0 rfl (lv_at hl 0 rfl) ?_
  refine W.objInit hx hb hown (hts _ ol_X8_3) (hts _ ob_im) (hts _ ob_co) rfl (by rw [hml]; exact hl.1) rfl dX8_init_1 (Nat.le_of_ble_eq_true rfl) (Nat.le_of_ble_eq_true rfl) ?_
  refine W.eq (g2 := F0 m 4 ls []) rfl ?_
  refine lv_aload_n hx hb dX8_init_4 rfl (lv_at hl 0 rfl) ?_
  refine lv_bipush (v := 7) hx hb dX8_init_5 (by decide) ?_
  refine sn_newa (t := 70) (a := 0) (n := 7) (atype := .int) (ty := .int) (x := 7) hx hb hts rfl ar_int (Or.inl ⟨rfl, rfl⟩) kd_70 (by decide) (by decide) (by decide) B hP hS (hd 70 (by decide)) (Nat.le_of_ble_eq_true rfl) (Nat.le_of_ble_eq_true rfl) dX8_init_7 (fun H hP hS => ?_)
  refine W.widen (k := 1) (n := 7) (Nat.le_of_ble_eq_true rfl) (Nat.le_of_ble_eq_true rfl) ?_
  have hP : sm_NP G 71 (I, Rf) H := hP
  refine sn_putR (x := 70) (k := 69) (n := 5) hx hb hts hown hin fk_X8_9 (fun a => ⟨rfl, rfl⟩) (dw_X8 0 (by decide)) kd_69 (by decide) (by decide) (by decide) (by decide +kernel) (by omega) B hP hS dX8_init_9 (fun H locs hP hS => ?_)
  have hP : sm_NP G 71 (I, (sm_s1 Rf 69 0 70)) H := hP
  have hr : ∀ k, 71 ≤ k → (sm_s1 Rf 69 0 70) k = fun _ => 9999 := (sn_dfs (a := 69) (j := 0) (x := 70) hr (t1 := 71) (by decide) (by decide))
  refine lv_aload_n hx hb dX8_init_12 rfl (lv_at hl 0 rfl) ?_
  refine sn_new (t := 71) (own := RX8) (index := 15) (C := RX4) (T := TX4) (N := 6) (ci := 4) hx hb hts hown kl_X8_15 it_X4 in_X4 (show sm_cs[4]? = some (RX4, TX4, 6) from rfl) uw_X4 tyX4 tyX4_ok df_X4 (by decide) kd_71 B hP hS (hd 71 (by decide)) (hr 71 (by decide)) (Nat.le_of_ble_eq_true rfl) (Nat.le_of_ble_eq_true rfl) dX8_init_13 (fun H hP hS => ?_)
  refine W.widen (k := 2) (n := 13) (Nat.le_of_ble_eq_true rfl) (Nat.le_of_ble_eq_true rfl) ?_
  have hP : sm_NP G 72 (I, (sm_s1 Rf 69 0 70)) H := hP
  refine lv_dup hx hb dX8_init_16 rfl ?_
  refine sn_callI (As := []) (rest := [.ref (G.2.1 71), .ref (G.2.1 69)]) (kc_X4_init_71 (sn_mono hd (by decide)) (sn_mono hr (by decide))) ik_X4_init nl_X8_17 hx hb hml hts hown rfl hl.1 (Nat.le_of_ble_eq_true rfl) (by decide) (by decide) ⟨(Nat.le_of_ble_eq_true rfl), (Nat.le_of_ble_eq_true rfl)⟩ B hP hS dX8_init_17 (fun H locs hP hS => ?_)
  have hP : sm_NP G 72 ((cI_X4_init_71 I), (cR_X4_init_71 (sm_s1 Rf 69 0 70))) H := hP
  have hd : ∀ k, 72 ≤ k → (cI_X4_init_71 I) k = fun _ => 0 := (dI_X4_init_71 (sn_mono hd (by decide)))
  have hr : ∀ k, 72 ≤ k → (cR_X4_init_71 (sm_s1 Rf 69 0 70)) k = fun _ => 9999 := (dR_X4_init_71 (sn_mono hr (by decide)))
  refine sn_putR (x := 71) (k := 69) (n := 5) hx hb hts hown hin fk_X8_18 (fun a => ⟨rfl, rfl⟩) (dw_X8 3 (by decide)) kd_69 (by decide) (by decide) (by decide) (by decide +kernel) (by omega) B hP hS dX8_init_20 (fun H locs hP hS => ?_)
  have hP : sm_NP G 72 ((cI_X4_init_71 I), (sm_s1 (cR_X4_init_71 (sm_s1 Rf 69 0 70)) 69 3 71)) H := hP
  have hr : ∀ k, 72 ≤ k → (sm_s1 (cR_X4_init_71 (sm_s1 Rf 69 0 70)) 69 3 71) k = fun _ => 9999 := (sn_dfs (a := 69) (j := 3) (x := 71) hr (t1 := 72) (by decide) (by decide))
  refine lv_aload_n hx hb dX8_init_23 rfl (lv_at hl 0 rfl) ?_
  refine lv_bipush (v := 100) hx hb dX8_init_24 (by decide) ?_
  refine sn_newa (t := 72) (a := 2) (n := 100) (atype := .boolean) (ty := .boolean) (x := 100) hx hb hts rfl ar_boolean (Or.inr (Or.inr ⟨rfl, rfl⟩)) kd_72 (by decide) (by decide) (by decide) B hP hS (hd 72 (by decide)) (Nat.le_of_ble_eq_true rfl) (Nat.le_of_ble_eq_true rfl) dX8_init_26 (fun H hP hS => ?_)
  refine W.widen (k := 3) (n := 113) (Nat.le_of_ble_eq_true rfl) (Nat.le_of_ble_eq_true rfl) ?_
  have hP : sm_NP G 73 ((cI_X4_init_71 I), (sm_s1 (cR_X4_init_71 (sm_s1 Rf 69 0 70)) 69 3 71)) H := hP
  refine sn_putR (x := 72) (k := 69) (n := 5) hx hb hts hown hin fk_X8_22 (fun a => ⟨rfl, rfl⟩) (dw_X8 4 (by decide)) kd_69 (by decide) (by decide) (by decide) (by decide +kernel) (by omega) B hP hS dX8_init_28 (fun H locs hP hS => ?_)
  have hP : sm_NP G 73 ((cI_X4_init_71 I), (sm_s1 (sm_s1 (cR_X4_init_71 (sm_s1 Rf 69 0 70)) 69 3 71) 69 4 72)) H := hP
  have hr : ∀ k, 73 ≤ k → (sm_s1 (sm_s1 (cR_X4_init_71 (sm_s1 Rf 69 0 70)) 69 3 71) 69 4 72) k = fun _ => 9999 := (sn_dfs (a := 69) (j := 4) (x := 72) hr (t1 := 73) (by decide) (by decide))
  exact W.vret hx hb hret (fun t9 ht hW => ⟨rfl, by rw [ht]; exact hP, hS.F ht⟩) hS.2.2 dX8_init_31 hlocks
