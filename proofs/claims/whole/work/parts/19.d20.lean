def cI_X7_init_22 (I : Nat → Nat → Int32) : Nat → Nat → Int32 := (cI_X10_init_29 (cI_X6_init_26 I))
def cR_X7_init_22 (Rf : Nat → Nat → Nat) : Nat → Nat → Nat := (sm_s1 (sm_s1 (sm_s1 (sm_s1 (cR_X10_init_29 (sm_s1 (cR_X6_init_26 (sm_s1 (sm_s1 (sm_s1 Rf 22 0 23) 22 1 24) 22 2 25)) 22 4 26)) 22 5 29) 22 6 38) 22 7 39) 22 8 40)
theorem dI_X7_init_22 {I : Nat → Nat → Int32} (hd : ∀ k, 23 ≤ k → I k = fun _ => 0) : ∀ k, 41 ≤ k → cI_X7_init_22 I k = fun _ => 0 := sn_mono (dI_X10_init_29 (sn_mono (dI_X6_init_26 (sn_mono hd (by decide))) (by decide))) (by decide)
theorem dR_X7_init_22 {Rf : Nat → Nat → Nat} (hr : ∀ k, 23 ≤ k → Rf k = fun _ => 9999) : ∀ k, 41 ≤ k → cR_X7_init_22 Rf k = fun _ => 9999 := sn_mono (sn_dfs (a := 22) (j := 8) (x := 40) (sn_dfs (a := 22) (j := 7) (x := 39) (sn_dfs (a := 22) (j := 6) (x := 38) (sn_dfs (a := 22) (j := 5) (x := 29) (dR_X10_init_29 (sn_mono (sn_dfs (a := 22) (j := 4) (x := 26) (dR_X6_init_26 (sn_mono (sn_dfs (a := 22) (j := 2) (x := 25) (sn_dfs (a := 22) (j := 1) (x := 24) (sn_dfs (a := 22) (j := 0) (x := 23) hr (t1 := 24) (by decide) (by decide)) (t1 := 25) (by decide) (by decide)) (t1 := 26) (by decide) (by decide)) (by decide))) (t1 := 29) (by decide) (by decide)) (by decide))) (t1 := 38) (by decide) (by decide)) (t1 := 39) (by decide) (by decide)) (t1 := 40) (by decide) (by decide)) (t1 := 41) (by decide) (by decide)) (by decide)
set_option maxHeartbeats 40000000 in
set_option maxRecDepth 100000 in
theorem kc_X7_init_22 {l : Launch} {I : Nat → Nat → Int32} {Rf : Nat → Nat → Nat} (hd : ∀ k, 23 ≤ k → I k = fun _ => 0) (hr : ∀ k, 23 ≤ k → Rf k = fun _ => 9999) : sm_K l 2 mX7_init [.inr (.inl 22)] 23 (I, Rf) 41 (cI_X7_init_22 I, cR_X7_init_22 Rf) 18 905 := by
  refine sn_meth (by decide) (Nat.le_of_ble_eq_true rfl) rfl ?_
  intro G p e s m args below meth c ls hx hb hml hown hts hret hlocks hin hP B hl
  have hS : va_S (fun q => G.2.1 0 ≤ q) s.heap s.heap [] := va_S.rf
  have hl : lv_has ls 1 [(0, .ref (G.2.1 22))] := hl
  refine lv_aload_n hx hb dX7_init_0 rfl (lv_at hl 0 rfl) ?_
  refine W.objInit hx hb hown (hts _ ol_X7_3) (hts _ ob_im) (hts _ ob_co) rfl (by rw [hml]; exact hl.1) rfl dX7_init_1 (Nat.le_of_ble_eq_true rfl) (Nat.le_of_ble_eq_true rfl) ?_
  refine W.eq (g2 := F0 m 4 ls []) rfl ?_
  refine lv_aload_n hx hb dX7_init_4 rfl (lv_at hl 0 rfl) ?_
  refine lv_bipush (v := 6) hx hb dX7_init_5 (by decide) ?_
  refine sn_newa (t := 23) (a := 0) (n := 6) (atype := .int) (ty := .int) (x := 6) hx hb hts rfl ar_int (Or.inl ⟨rfl, rfl⟩) kd_23 (by decide) (by decide) (by decide) B hP hS (hd 23 (by decide)) (Nat.le_of_ble_eq_true rfl) (Nat.le_of_ble_eq_true rfl) dX7_init_7 (fun H hP hS => ?_)
  refine W.widen (k := 1) (n := 6) (Nat.le_of_ble_eq_true rfl) (Nat.le_of_ble_eq_true rfl) ?_
  have hP : sm_NP G 24 (I, Rf) H := hP
  refine sn_putR (x := 23) (k := 22) (n := 9) hx hb hts hown hin fk_X7_9 (fun a => ⟨rfl, rfl⟩) (dw_X7 0 (by decide)) kd_22 (by decide) (by decide) (by decide) (by decide +kernel) (by omega) B hP hS dX7_init_9 (fun H locs hP hS => ?_)
  have hP : sm_NP G 24 (I, (sm_s1 Rf 22 0 23)) H := hP
  have hr : ∀ k, 24 ≤ k → (sm_s1 Rf 22 0 23) k = fun _ => 9999 := (sn_dfs (a := 22) (j := 0) (x := 23) hr (t1 := 24) (by decide) (by decide))
  refine lv_aload_n hx hb dX7_init_12 rfl (lv_at hl 0 rfl) ?_
  refine lv_bipush (v := 6) hx hb dX7_init_13 (by decide) ?_
  refine sn_newa (t := 24) (a := 0) (n := 6) (atype := .int) (ty := .int) (x := 6) hx hb hts rfl ar_int (Or.inl ⟨rfl, rfl⟩) kd_24 (by decide) (by decide) (by decide) B hP hS (hd 24 (by decide)) (Nat.le_of_ble_eq_true rfl) (Nat.le_of_ble_eq_true rfl) dX7_init_15 (fun H hP hS => ?_)
  refine W.widen (k := 2) (n := 12) (Nat.le_of_ble_eq_true rfl) (Nat.le_of_ble_eq_true rfl) ?_
  have hP : sm_NP G 25 (I, (sm_s1 Rf 22 0 23)) H := hP
  refine sn_putR (x := 24) (k := 22) (n := 9) hx hb hts hown hin fk_X7_15 (fun a => ⟨rfl, rfl⟩) (dw_X7 1 (by decide)) kd_22 (by decide) (by decide) (by decide) (by decide +kernel) (by omega) B hP hS dX7_init_17 (fun H locs hP hS => ?_)
  have hP : sm_NP G 25 (I, (sm_s1 (sm_s1 Rf 22 0 23) 22 1 24)) H := hP
  have hr : ∀ k, 25 ≤ k → (sm_s1 (sm_s1 Rf 22 0 23) 22 1 24) k = fun _ => 9999 := (sn_dfs (a := 22) (j := 1) (x := 24) hr (t1 := 25) (by decide) (by decide))
  refine lv_aload_n hx hb dX7_init_20 rfl (lv_at hl 0 rfl) ?_
  refine lv_bipush (v := 48) hx hb dX7_init_21 (by decide) ?_
  refine sn_newa (t := 25) (a := 0) (n := 48) (atype := .int) (ty := .int) (x := 48) hx hb hts rfl ar_int (Or.inl ⟨rfl, rfl⟩) kd_25 (by decide) (by decide) (by decide) B hP hS (hd 25 (by decide)) (Nat.le_of_ble_eq_true rfl) (Nat.le_of_ble_eq_true rfl) dX7_init_23 (fun H hP hS => ?_)
  refine W.widen (k := 3) (n := 60) (Nat.le_of_ble_eq_true rfl) (Nat.le_of_ble_eq_true rfl) ?_
  have hP : sm_NP G 26 (I, (sm_s1 (sm_s1 Rf 22 0 23) 22 1 24)) H := hP
  refine sn_putR (x := 25) (k := 22) (n := 9) hx hb hts hown hin fk_X7_18 (fun a => ⟨rfl, rfl⟩) (dw_X7 2 (by decide)) kd_22 (by decide) (by decide) (by decide) (by decide +kernel) (by omega) B hP hS dX7_init_25 (fun H locs hP hS => ?_)
  have hP : sm_NP G 26 (I, (sm_s1 (sm_s1 (sm_s1 Rf 22 0 23) 22 1 24) 22 2 25)) H := hP
  have hr : ∀ k, 26 ≤ k → (sm_s1 (sm_s1 (sm_s1 Rf 22 0 23) 22 1 24) 22 2 25) k = fun _ => 9999 := (sn_dfs (a := 22) (j := 2) (x := 25) hr (t1 := 26) (by decide) (by decide))
  refine lv_aload_n hx hb dX7_init_28 rfl (lv_at hl 0 rfl) ?_
  refine sn_new (t := 26) (own := RX7) (index := 21) (C := RX6) (T := TX6) (N := 4) (ci := 6) hx hb hts hown kl_X7_21 it_X6 in_X6 (show sm_cs[6]? = some (RX6, TX6, 4) from rfl) uw_X6 tyX6 tyX6_ok df_X6 (by decide) kd_26 B hP hS (hd 26 (by decide)) (hr 26 (by decide)) (Nat.le_of_ble_eq_true rfl) (Nat.le_of_ble_eq_true rfl) dX7_init_29 (fun H hP hS => ?_)
  refine W.widen (k := 4) (n := 64) (Nat.le_of_ble_eq_true rfl) (Nat.le_of_ble_eq_true rfl) ?_
  have hP : sm_NP G 27 (I, (sm_s1 (sm_s1 (sm_s1 Rf 22 0 23) 22 1 24) 22 2 25)) H := hP
  refine lv_dup hx hb dX7_init_32 rfl ?_
  refine sn_callI (As := []) (rest := [.ref (G.2.1 26), .ref (G.2.1 22)]) (kc_X6_init_26 (sn_mono hd (by decide)) (sn_mono hr (by decide))) ik_X6_init nl_X7_23 hx hb hml hts hown rfl hl.1 (Nat.le_of_ble_eq_true rfl) (by decide) (by decide) ⟨(Nat.le_of_ble_eq_true rfl), (Nat.le_of_ble_eq_true rfl)⟩ B hP hS dX7_init_33 (fun H locs hP hS => ?_)
  refine W.widen (k := 6) (n := 828) (Nat.le_of_ble_eq_true rfl) (Nat.le_of_ble_eq_true rfl) ?_
  have hP : sm_NP G 29 ((cI_X6_init_26 I), (cR_X6_init_26 (sm_s1 (sm_s1 (sm_s1 Rf 22 0 23) 22 1 24) 22 2 25))) H := hP
  have hd : ∀ k, 29 ≤ k → (cI_X6_init_26 I) k = fun _ => 0 := (dI_X6_init_26 (sn_mono hd (by decide)))
  have hr : ∀ k, 29 ≤ k → (cR_X6_init_26 (sm_s1 (sm_s1 (sm_s1 Rf 22 0 23) 22 1 24) 22 2 25)) k = fun _ => 9999 := (dR_X6_init_26 (sn_mono hr (by decide)))
  refine sn_putR (x := 26) (k := 22) (n := 9) hx hb hts hown hin fk_X7_24 (fun a => ⟨rfl, rfl⟩) (dw_X7 4 (by decide)) kd_22 (by decide) (by decide) (by decide) (by decide +kernel) (by omega) B hP hS dX7_init_36 (fun H locs hP hS => ?_)
  have hP : sm_NP G 29 ((cI_X6_init_26 I), (sm_s1 (cR_X6_init_26 (sm_s1 (sm_s1 (sm_s1 Rf 22 0 23) 22 1 24) 22 2 25)) 22 4 26)) H := hP
  have hr : ∀ k, 29 ≤ k → (sm_s1 (cR_X6_init_26 (sm_s1 (sm_s1 (sm_s1 Rf 22 0 23) 22 1 24) 22 2 25)) 22 4 26) k = fun _ => 9999 := (sn_dfs (a := 22) (j := 4) (x := 26) hr (t1 := 29) (by decide) (by decide))
  refine lv_aload_n hx hb dX7_init_39 rfl (lv_at hl 0 rfl) ?_
  refine sn_new (t := 29) (own := RX7) (index := 28) (C := RX10) (T := TX10) (N := 4) (ci := 10) hx hb hts hown kl_X7_28 it_X10 in_X10 (show sm_cs[10]? = some (RX10, TX10, 4) from rfl) uw_X10 tyX10 tyX10_ok df_X10 (by decide) kd_29 B hP hS (hd 29 (by decide)) (hr 29 (by decide)) (Nat.le_of_ble_eq_true rfl) (Nat.le_of_ble_eq_true rfl) dX7_init_40 (fun H hP hS => ?_)
  refine W.widen (k := 7) (n := 832) (Nat.le_of_ble_eq_true rfl) (Nat.le_of_ble_eq_true rfl) ?_
  have hP : sm_NP G 30 ((cI_X6_init_26 I), (sm_s1 (cR_X6_init_26 (sm_s1 (sm_s1 (sm_s1 Rf 22 0 23) 22 1 24) 22 2 25)) 22 4 26)) H := hP
  refine lv_dup hx hb dX7_init_43 rfl ?_
  refine sn_callI (As := []) (rest := [.ref (G.2.1 29), .ref (G.2.1 22)]) (kc_X10_init_29 (sn_mono hd (by decide)) (sn_mono hr (by decide))) ik_X10_init nl_X7_30 hx hb hml hts hown rfl hl.1 (Nat.le_of_ble_eq_true rfl) (by decide) (by decide) ⟨(Nat.le_of_ble_eq_true rfl), (Nat.le_of_ble_eq_true rfl)⟩ B hP hS dX7_init_44 (fun H locs hP hS => ?_)
  refine W.widen (k := 15) (n := 881) (Nat.le_of_ble_eq_true rfl) (Nat.le_of_ble_eq_true rfl) ?_
  have hP : sm_NP G 38 ((cI_X10_init_29 (cI_X6_init_26 I)), (cR_X10_init_29 (sm_s1 (cR_X6_init_26 (sm_s1 (sm_s1 (sm_s1 Rf 22 0 23) 22 1 24) 22 2 25)) 22 4 26))) H := hP
  have hd : ∀ k, 38 ≤ k → (cI_X10_init_29 (cI_X6_init_26 I)) k = fun _ => 0 := (dI_X10_init_29 (sn_mono hd (by decide)))
  have hr : ∀ k, 38 ≤ k → (cR_X10_init_29 (sm_s1 (cR_X6_init_26 (sm_s1 (sm_s1 (sm_s1 Rf 22 0 23) 22 1 24) 22 2 25)) 22 4 26)) k = fun _ => 9999 := (dR_X10_init_29 (sn_mono hr (by decide)))
  refine sn_putR (x := 29) (k := 22) (n := 9) hx hb hts hown hin fk_X7_31 (fun a => ⟨rfl, rfl⟩) (dw_X7 5 (by decide)) kd_22 (by decide) (by decide) (by decide) (by decide +kernel) (by omega) B hP hS dX7_init_47 (fun H locs hP hS => ?_)
  have hP : sm_NP G 38 ((cI_X10_init_29 (cI_X6_init_26 I)), (sm_s1 (cR_X10_init_29 (sm_s1 (cR_X6_init_26 (sm_s1 (sm_s1 (sm_s1 Rf 22 0 23) 22 1 24) 22 2 25)) 22 4 26)) 22 5 29)) H := hP
  have hr : ∀ k, 38 ≤ k → (sm_s1 (cR_X10_init_29 (sm_s1 (cR_X6_init_26 (sm_s1 (sm_s1 (sm_s1 Rf 22 0 23) 22 1 24) 22 2 25)) 22 4 26)) 22 5 29) k = fun _ => 9999 := (sn_dfs (a := 22) (j := 5) (x := 29) hr (t1 := 38) (by decide) (by decide))
  refine lv_aload_n hx hb dX7_init_50 rfl (lv_at hl 0 rfl) ?_
  refine lv_bipush (v := 6) hx hb dX7_init_51 (by decide) ?_
  refine sn_newa (t := 38) (a := 0) (n := 6) (atype := .int) (ty := .int) (x := 6) hx hb hts rfl ar_int (Or.inl ⟨rfl, rfl⟩) kd_38 (by decide) (by decide) (by decide) B hP hS (hd 38 (by decide)) (Nat.le_of_ble_eq_true rfl) (Nat.le_of_ble_eq_true rfl) dX7_init_53 (fun H hP hS => ?_)
  refine W.widen (k := 16) (n := 887) (Nat.le_of_ble_eq_true rfl) (Nat.le_of_ble_eq_true rfl) ?_
  have hP : sm_NP G 39 ((cI_X10_init_29 (cI_X6_init_26 I)), (sm_s1 (cR_X10_init_29 (sm_s1 (cR_X6_init_26 (sm_s1 (sm_s1 (sm_s1 Rf 22 0 23) 22 1 24) 22 2 25)) 22 4 26)) 22 5 29)) H := hP
  refine sn_putR (x := 38) (k := 22) (n := 9) hx hb hts hown hin fk_X7_35 (fun a => ⟨rfl, rfl⟩) (dw_X7 6 (by decide)) kd_22 (by decide) (by decide) (by decide) (by decide +kernel) (by omega) B hP hS dX7_init_55 (fun H locs hP hS => ?_)
  have hP : sm_NP G 39 ((cI_X10_init_29 (cI_X6_init_26 I)), (sm_s1 (sm_s1 (cR_X10_init_29 (sm_s1 (cR_X6_init_26 (sm_s1 (sm_s1 (sm_s1 Rf 22 0 23) 22 1 24) 22 2 25)) 22 4 26)) 22 5 29) 22 6 38)) H := hP
  have hr : ∀ k, 39 ≤ k → (sm_s1 (sm_s1 (cR_X10_init_29 (sm_s1 (cR_X6_init_26 (sm_s1 (sm_s1 (sm_s1 Rf 22 0 23) 22 1 24) 22 2 25)) 22 4 26)) 22 5 29) 22 6 38) k = fun _ => 9999 := (sn_dfs (a := 22) (j := 6) (x := 38) hr (t1 := 39) (by decide) (by decide))
  refine lv_aload_n hx hb dX7_init_58 rfl (lv_at hl 0 rfl) ?_
  refine lv_bipush (v := 9) hx hb dX7_init_59 (by decide) ?_
  refine sn_newa (t := 39) (a := 0) (n := 9) (atype := .int) (ty := .int) (x := 9) hx hb hts rfl ar_int (Or.inl ⟨rfl, rfl⟩) kd_39 (by decide) (by decide) (by decide) B hP hS (hd 39 (by decide)) (Nat.le_of_ble_eq_true rfl) (Nat.le_of_ble_eq_true rfl) dX7_init_61 (fun H hP hS => ?_)
  refine W.widen (k := 17) (n := 896) (Nat.le_of_ble_eq_true rfl) (Nat.le_of_ble_eq_true rfl) ?_
  have hP : sm_NP G 40 ((cI_X10_init_29 (cI_X6_init_26 I)), (sm_s1 (sm_s1 (cR_X10_init_29 (sm_s1 (cR_X6_init_26 (sm_s1 (sm_s1 (sm_s1 Rf 22 0 23) 22 1 24) 22 2 25)) 22 4 26)) 22 5 29) 22 6 38)) H := hP
  refine sn_putR (x := 39) (k := 22) (n := 9) hx hb hts hown hin fk_X7_38 (fun a => ⟨rfl, rfl⟩) (dw_X7 7 (by decide)) kd_22 (by decide) (by decide) (by decide) (by decide +kernel) (by omega) B hP hS dX7_init_63 (fun H locs hP hS => ?_)
  have hP : sm_NP G 40 ((cI_X10_init_29 (cI_X6_init_26 I)), (sm_s1 (sm_s1 (sm_s1 (cR_X10_init_29 (sm_s1 (cR_X6_init_26 (sm_s1 (sm_s1 (sm_s1 Rf 22 0 23) 22 1 24) 22 2 25)) 22 4 26)) 22 5 29) 22 6 38) 22 7 39)) H := hP
  have hr : ∀ k, 40 ≤ k → (sm_s1 (sm_s1 (sm_s1 (cR_X10_init_29 (sm_s1 (cR_X6_init_26 (sm_s1 (sm_s1 (sm_s1 Rf 22 0 23) 22 1 24) 22 2 25)) 22 4 26)) 22 5 29) 22 6 38) 22 7 39) k = fun _ => 9999 := (sn_dfs (a := 22) (j := 7) (x := 39) hr (t1 := 40) (by decide) (by decide))
  refine lv_aload_n hx hb dX7_init_66 rfl (lv_at hl 0 rfl) ?_
  refine lv_bipush (v := 9) hx hb dX7_init_67 (by decide) ?_
  refine sn_newa (t := 40) (a := 0) (n := 9) (atype := .int) (ty := .int) (x := 9) hx hb hts rfl ar_int (Or.inl ⟨rfl, rfl⟩) kd_40 (by decide) (by decide) (by decide) B hP hS (hd 40 (by decide)) (Nat.le_of_ble_eq_true rfl) (Nat.le_of_ble_eq_true rfl) dX7_init_69 (fun H hP hS => ?_)
  refine W.widen (k := 18) (n := 905) (Nat.le_of_ble_eq_true rfl) (Nat.le_of_ble_eq_true rfl) ?_
  have hP : sm_NP G 41 ((cI_X10_init_29 (cI_X6_init_26 I)), (sm_s1 (sm_s1 (sm_s1 (cR_X10_init_29 (sm_s1 (cR_X6_init_26 (sm_s1 (sm_s1 (sm_s1 Rf 22 0 23) 22 1 24) 22 2 25)) 22 4 26)) 22 5 29) 22 6 38) 22 7 39)) H := hP
  refine sn_putR (x := 40) (k := 22) (n := 9) hx hb hts hown hin fk_X7_41 (fun a => ⟨rfl, rfl⟩) (dw_X7 8 (by decide)) kd_22 (by decide) (by decide) (by decide) (by decide +kernel) (by omega) B hP hS dX7_init_71 (fun H locs hP hS => ?_)
  have hP : sm_NP G 41 ((cI_X10_init_29 (cI_X6_init_26 I)), (sm_s1 (sm_s1 (sm_s1 (sm_s1 (cR_X10_init_29 (sm_s1 (cR_X6_init_26 (sm_s1 (sm_s1 (sm_s1 Rf 22 0 23) 22 1 24) 22 2 25)) 22 4 26)) 22 5 29) 22 6 38) 22 7 39) 22 8 40)) H := hP
  have hr : ∀ k, 41 ≤ k → (sm_s1 (sm_s1 (sm_s1 (sm_s1 (cR_X10_init_29 (sm_s1 (cR_X6_init_26 (sm_s1 (sm_s1 (sm_s1 Rf 22 0 23) 22 1 24) 22 2 25)) 22 4 26)) 22 5 29) 22 6 38) 22 7 39) 22 8 40) k = fun _ => 9999 := (sn_dfs (a := 22) (j := 8) (x := 40) hr (t1 := 41) (by decide) (by decide))
  exact W.vret hx hb hret (fun t9 ht hW => ⟨rfl, by rw [ht]; exact hP, hS.F ht⟩) hS.2.2 dX7_init_74 hlocks
