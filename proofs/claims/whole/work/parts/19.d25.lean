def cI_X3_init_48 (I : Nat → Nat → Int32) : Nat → Nat → Int32 := (cI_X9_init_52 (cI_X0_init_50 I))
def cR_X3_init_48 (Rf : Nat → Nat → Nat) : Nat → Nat → Nat := (sm_s1 (sm_s1 (cR_X9_init_52 (sm_s1 (cR_X0_init_50 (sm_s1 Rf 48 1 49)) 48 2 50)) 48 3 52) 48 4 56)
theorem dI_X3_init_48 {I : Nat → Nat → Int32} (hd : ∀ k, 49 ≤ k → I k = fun _ => 0) : ∀ k, 57 ≤ k → cI_X3_init_48 I k = fun _ => 0 := sn_mono (dI_X9_init_52 (sn_mono (dI_X0_init_50 (sn_mono hd (by decide))) (by decide))) (by decide)
theorem dR_X3_init_48 {Rf : Nat → Nat → Nat} (hr : ∀ k, 49 ≤ k → Rf k = fun _ => 9999) : ∀ k, 57 ≤ k → cR_X3_init_48 Rf k = fun _ => 9999 := sn_mono (sn_dfs (a := 48) (j := 4) (x := 56) (sn_dfs (a := 48) (j := 3) (x := 52) (dR_X9_init_52 (sn_mono (sn_dfs (a := 48) (j := 2) (x := 50) (dR_X0_init_50 (sn_mono (sn_dfs (a := 48) (j := 1) (x := 49) hr (t1 := 50) (by decide) (by decide)) (by decide))) (t1 := 52) (by decide) (by decide)) (by decide))) (t1 := 56) (by decide) (by decide)) (t1 := 57) (by decide) (by decide)) (by decide)
set_option maxHeartbeats 40000000 in
set_option maxRecDepth 100000 in
theorem kc_X3_init_48 {l : Launch} {I : Nat → Nat → Int32} {Rf : Nat → Nat → Nat} (hd : ∀ k, 49 ≤ k → I k = fun _ => 0) (hr : ∀ k, 49 ≤ k → Rf k = fun _ => 9999) : sm_K l 1 mX3_init [.inr (.inl 48)] 49 (I, Rf) 57 (cI_X3_init_48 I, cR_X3_init_48 Rf) 8 1551 := by
  refine sn_meth (by decide) (Nat.le_of_ble_eq_true rfl) rfl ?_
  intro G p e s m args below meth c ls hx hb hml hown hts hret hlocks hin hP B hl
  have hS : va_S (fun q => G.2.1 0 ≤ q) s.heap s.heap [] := va_S.rf
  have hl : lv_has ls 1 [(0, .ref (G.2.1 48))] := hl
  refine lv_aload_n hx hb dX3_init_0 rfl (lv_at hl 0 rfl) ?_
  refine W.objInit hx hb hown (hts _ ol_X3_1) (hts _ ob_im) (hts _ ob_co) rfl (by rw [hml]; exact hl.1) rfl dX3_init_1 (Nat.le_of_ble_eq_true rfl) (Nat.le_of_ble_eq_true rfl) ?_
  refine W.eq (g2 := F0 m 4 ls []) rfl ?_
  refine lv_aload_n hx hb dX3_init_4 rfl (lv_at hl 0 rfl) ?_
  refine lv_bipush (v := 37) hx hb dX3_init_5 (by decide) ?_
  refine sn_newa (t := 49) (a := 0) (n := 37) (atype := .int) (ty := .int) (x := 37) hx hb hts rfl ar_int (Or.inl ⟨rfl, rfl⟩) kd_49 (by decide) (by decide) (by decide) B hP hS (hd 49 (by decide)) (Nat.le_of_ble_eq_true rfl) (Nat.le_of_ble_eq_true rfl) dX3_init_7 (fun H hP hS => ?_)
  refine W.widen (k := 1) (n := 37) (Nat.le_of_ble_eq_true rfl) (Nat.le_of_ble_eq_true rfl) ?_
  have hP : sm_NP G 50 (I, Rf) H := hP
  refine sn_putR (x := 49) (k := 48) (n := 5) hx hb hts hown hin fk_X3_9 (fun a => ⟨rfl, rfl⟩) (dw_X3 1 (by decide)) kd_48 (by decide) (by decide) (by decide) (by decide +kernel) (by omega) B hP hS dX3_init_9 (fun H locs hP hS => ?_)
  have hP : sm_NP G 50 (I, (sm_s1 Rf 48 1 49)) H := hP
  have hr : ∀ k, 50 ≤ k → (sm_s1 Rf 48 1 49) k = fun _ => 9999 := (sn_dfs (a := 48) (j := 1) (x := 49) hr (t1 := 50) (by decide) (by decide))
  refine lv_aload_n hx hb dX3_init_12 rfl (lv_at hl 0 rfl) ?_
  refine sn_new (t := 50) (own := RX3) (index := 15) (C := RX0) (T := TX0) (N := 3) (ci := 0) hx hb hts hown kl_X3_15 it_X0 in_X0 (show sm_cs[0]? = some (RX0, TX0, 3) from rfl) uw_X0 tyX0 tyX0_ok df_X0 (by decide) kd_50 B hP hS (hd 50 (by decide)) (hr 50 (by decide)) (Nat.le_of_ble_eq_true rfl) (Nat.le_of_ble_eq_true rfl) dX3_init_13 (fun H hP hS => ?_)
  refine W.widen (k := 2) (n := 40) (Nat.le_of_ble_eq_true rfl) (Nat.le_of_ble_eq_true rfl) ?_
  have hP : sm_NP G 51 (I, (sm_s1 Rf 48 1 49)) H := hP
  refine lv_dup hx hb dX3_init_16 rfl ?_
  refine sn_callI (As := []) (rest := [.ref (G.2.1 50), .ref (G.2.1 48)]) (kc_X0_init_50 (sn_mono hd (by decide)) (sn_mono hr (by decide))) ik_X0_init nl_X3_17 hx hb hml hts hown rfl hl.1 (Nat.le_of_ble_eq_true rfl) (by decide) (by decide) ⟨(Nat.le_of_ble_eq_true rfl), (Nat.le_of_ble_eq_true rfl)⟩ B hP hS dX3_init_17 (fun H locs hP hS => ?_)
  refine W.widen (k := 3) (n := 1520) (Nat.le_of_ble_eq_true rfl) (Nat.le_of_ble_eq_true rfl) ?_
  have hP : sm_NP G 52 ((cI_X0_init_50 I), (cR_X0_init_50 (sm_s1 Rf 48 1 49))) H := hP
  have hd : ∀ k, 52 ≤ k → (cI_X0_init_50 I) k = fun _ => 0 := (dI_X0_init_50 (sn_mono hd (by decide)))
  have hr : ∀ k, 52 ≤ k → (cR_X0_init_50 (sm_s1 Rf 48 1 49)) k = fun _ => 9999 := (dR_X0_init_50 (sn_mono hr (by decide)))
  refine sn_putR (x := 50) (k := 48) (n := 5) hx hb hts hown hin fk_X3_18 (fun a => ⟨rfl, rfl⟩) (dw_X3 2 (by decide)) kd_48 (by decide) (by decide) (by decide) (by decide +kernel) (by omega) B hP hS dX3_init_20 (fun H locs hP hS => ?_)
  have hP : sm_NP G 52 ((cI_X0_init_50 I), (sm_s1 (cR_X0_init_50 (sm_s1 Rf 48 1 49)) 48 2 50)) H := hP
  have hr : ∀ k, 52 ≤ k → (sm_s1 (cR_X0_init_50 (sm_s1 Rf 48 1 49)) 48 2 50) k = fun _ => 9999 := (sn_dfs (a := 48) (j := 2) (x := 50) hr (t1 := 52) (by decide) (by decide))
  refine lv_aload_n hx hb dX3_init_23 rfl (lv_at hl 0 rfl) ?_
  refine sn_new (t := 52) (own := RX3) (index := 22) (C := RX9) (T := TX9) (N := 4) (ci := 9) hx hb hts hown kl_X3_22 it_X9 in_X9 (show sm_cs[9]? = some (RX9, TX9, 4) from rfl) uw_X9 tyX9 tyX9_ok df_X9 (by decide) kd_52 B hP hS (hd 52 (by decide)) (hr 52 (by decide)) (Nat.le_of_ble_eq_true rfl) (Nat.le_of_ble_eq_true rfl) dX3_init_24 (fun H hP hS => ?_)
  refine W.widen (k := 4) (n := 1524) (Nat.le_of_ble_eq_true rfl) (Nat.le_of_ble_eq_true rfl) ?_
  have hP : sm_NP G 53 ((cI_X0_init_50 I), (sm_s1 (cR_X0_init_50 (sm_s1 Rf 48 1 49)) 48 2 50)) H := hP
  refine lv_dup hx hb dX3_init_27 rfl ?_
  refine sn_callI (As := []) (rest := [.ref (G.2.1 52), .ref (G.2.1 48)]) (kc_X9_init_52 (sn_mono hd (by decide)) (sn_mono hr (by decide))) ik_X9_init nl_X3_24 hx hb hml hts hown rfl hl.1 (Nat.le_of_ble_eq_true rfl) (by decide) (by decide) ⟨(Nat.le_of_ble_eq_true rfl), (Nat.le_of_ble_eq_true rfl)⟩ B hP hS dX3_init_28 (fun H locs hP hS => ?_)
  refine W.widen (k := 7) (n := 1548) (Nat.le_of_ble_eq_true rfl) (Nat.le_of_ble_eq_true rfl) ?_
  have hP : sm_NP G 56 ((cI_X9_init_52 (cI_X0_init_50 I)), (cR_X9_init_52 (sm_s1 (cR_X0_init_50 (sm_s1 Rf 48 1 49)) 48 2 50))) H := hP
  have hd : ∀ k, 56 ≤ k → (cI_X9_init_52 (cI_X0_init_50 I)) k = fun _ => 0 := (dI_X9_init_52 (sn_mono hd (by decide)))
  have hr : ∀ k, 56 ≤ k → (cR_X9_init_52 (sm_s1 (cR_X0_init_50 (sm_s1 Rf 48 1 49)) 48 2 50)) k = fun _ => 9999 := (dR_X9_init_52 (sn_mono hr (by decide)))
  refine sn_putR (x := 52) (k := 48) (n := 5) hx hb hts hown hin fk_X3_25 (fun a => ⟨rfl, rfl⟩) (dw_X3 3 (by decide)) kd_48 (by decide) (by decide) (by decide) (by decide +kernel) (by omega) B hP hS dX3_init_31 (fun H locs hP hS => ?_)
  have hP : sm_NP G 56 ((cI_X9_init_52 (cI_X0_init_50 I)), (sm_s1 (cR_X9_init_52 (sm_s1 (cR_X0_init_50 (sm_s1 Rf 48 1 49)) 48 2 50)) 48 3 52)) H := hP
  have hr : ∀ k, 56 ≤ k → (sm_s1 (cR_X9_init_52 (sm_s1 (cR_X0_init_50 (sm_s1 Rf 48 1 49)) 48 2 50)) 48 3 52) k = fun _ => 9999 := (sn_dfs (a := 48) (j := 3) (x := 52) hr (t1 := 56) (by decide) (by decide))
  refine lv_aload_n hx hb dX3_init_34 rfl (lv_at hl 0 rfl) ?_
  refine lv_iconst (v := 3) hx hb dX3_init_35 (by decide) ?_
  refine sn_newa (t := 56) (a := 0) (n := 3) (atype := .int) (ty := .int) (x := 3) hx hb hts rfl ar_int (Or.inl ⟨rfl, rfl⟩) kd_56 (by decide) (by decide) (by decide) B hP hS (hd 56 (by decide)) (Nat.le_of_ble_eq_true rfl) (Nat.le_of_ble_eq_true rfl) dX3_init_36 (fun H hP hS => ?_)
  refine W.widen (k := 8) (n := 1551) (Nat.le_of_ble_eq_true rfl) (Nat.le_of_ble_eq_true rfl) ?_
  have hP : sm_NP G 57 ((cI_X9_init_52 (cI_X0_init_50 I)), (sm_s1 (cR_X9_init_52 (sm_s1 (cR_X0_init_50 (sm_s1 Rf 48 1 49)) 48 2 50)) 48 3 52)) H := hP
  refine sn_putR (x := 56) (k := 48) (n := 5) hx hb hts hown hin fk_X3_29 (fun a => ⟨rfl, rfl⟩) (dw_X3 4 (by decide)) kd_48 (by decide) (by decide) (by decide) (by decide +kernel) (by omega) B hP hS dX3_init_38 (fun H locs hP hS => ?_)
  have hP : sm_NP G 57 ((cI_X9_init_52 (cI_X0_init_50 I)), (sm_s1 (sm_s1 (cR_X9_init_52 (sm_s1 (cR_X0_init_50 (sm_s1 Rf 48 1 49)) 48 2 50)) 48 3 52) 48 4 56)) H := hP
  have hr : ∀ k, 57 ≤ k → (sm_s1 (sm_s1 (cR_X9_init_52 (sm_s1 (cR_X0_init_50 (sm_s1 Rf 48 1 49)) 48 2 50)) 48 3 52) 48 4 56) k = fun _ => 9999 := (sn_dfs (a := 48) (j := 4) (x := 56) hr (t1 := 57) (by decide) (by decide))
  exact W.vret hx hb hret (fun t9 ht hW => ⟨rfl, by rw [ht]; exact hP, hS.F ht⟩) hS.2.2 dX3_init_41 hlocks
