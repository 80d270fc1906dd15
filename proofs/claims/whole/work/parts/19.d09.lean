def cI_X7_init_3 (I : Nat → Nat → Int32) : Nat → Nat → Int32 := (cI_X10_init_10 (cI_X6_init_7 I))
def cR_X7_init_3 (Rf : Nat → Nat → Nat) : Nat → Nat → Nat := (sm_s1 (sm_s1 (sm_s1 (sm_s1 (cR_X10_init_10 (sm_s1 (cR_X6_init_7 (sm_s1 (sm_s1 (sm_s1 Rf 3 0 4) 3 1 5) 3 2 6)) 3 4 7)) 3 5 10) 3 6 19) 3 7 20) 3 8 21)
theorem dI_X7_init_3 {I : Nat → Nat → Int32} (hd : ∀ k, 4 ≤ k → I k = fun _ => 0) : ∀ k, 22 ≤ k → cI_X7_init_3 I k = fun _ => 0 := sn_mono (dI_X10_init_10 (sn_mono (dI_X6_init_7 (sn_mono hd (by decide))) (by decide))) (by decide)
theorem dR_X7_init_3 {Rf : Nat → Nat → Nat} (hr : ∀ k, 4 ≤ k → Rf k = fun _ => 9999) : ∀ k, 22 ≤ k → cR_X7_init_3 Rf k = fun _ => 9999 := sn_mono (sn_dfs (a := 3) (j := 8) (x := 21) (sn_dfs (a := 3) (j := 7) (x := 20) (sn_dfs (a := 3) (j := 6) (x := 19) (sn_dfs (a := 3) (j := 5) (x := 10) (dR_X10_init_10 (sn_mono (sn_dfs (a := 3) (j := 4) (x := 7) (dR_X6_init_7 (sn_mono (sn_dfs (a := 3) (j := 2) (x := 6) (sn_dfs (a := 3) (j := 1) (x := 5) (sn_dfs (a := 3) (j := 0) (x := 4) hr (t1 := 5) (by decide) (by decide)) (t1 := 6) (by decide) (by decide)) (t1 := 7) (by decide) (by decide)) (by decide))) (t1 := 10) (by decide) (by decide)) (by decide))) (t1 := 19) (by decide) (by decide)) (t1 := 20) (by decide) (by decide)) (t1 := 21) (by decide) (by decide)) (t1 := 22) (by decide) (by decide)) (by decide)
set_option maxHeartbeats 40000000 in
set_option maxRecDepth 100000 in
theorem kc_X7_init_3 {l : Launch} {I : Nat → Nat → Int32} {Rf : Nat → Nat → Nat} (hd : ∀ k, 4 ≤ k → I k = fun _ => 0) (hr : ∀ k, 4 ≤ k → Rf k = fun _ => 9999) : sm_K l 2 mX7_init [.inr (.inl 3)] 4 (I, Rf) 22 (cI_X7_init_3 I, cR_X7_init_3 Rf) 18 905 := by
  refine sn_meth (by decide) (Nat.le_of_ble_eq_true rfl) rfl ?_
  intro G p e s m args below meth c ls hx hb hml hown hts hret hlocks hin hP B hl
  have hS : va_S (fun q => G.2.1 0 ≤ q) s.heap s.heap [] := va_S.rf
  have hl : lv_has ls 1 [(0, .ref (G.2.1 3))] := hl
  refine lv_aload_n hx hb dX7_init_0 rfl (lv_at hl 0 rfl) ?_
  refine W.objInit hx hb hown (hts _ ol_X7_3) (hts _ ob_im) (hts _ ob_co) rfl (by rw [hml]; exact hl.1) rfl dX7_init_1 (Nat.le_of_ble_eq_true rfl) (Nat.le_of_ble_eq_true rfl) ?_
  refine W.eq (g2 := F0 m 4 ls []) rfl ?_
  refine lv_aload_n hx hb dX7_init_4 rfl (lv_at hl 0 rfl) ?_
  refine lv_bipush (v := 6) hx hb dX7_init_5 (by decide) ?_
  refine sn_newa (t := 4) (a := 0) (n := 6) (atype := .int) (ty := .int) (x := 6) hx hb hts rfl ar_int (Or.inl ⟨rfl, rfl⟩) kd_4 (by decide) (by decide) (by decide) B hP hS (hd 4 (by decide)) (Nat.le_of_ble_eq_true rfl) (Nat.le_of_ble_eq_true rfl) dX7_init_7 (fun H hP hS => ?_)
  refine W.widen (k := 1) (n := 6) (Nat.le_of_ble_eq_true rfl) (Nat.le_of_ble_eq_true rfl) ?_
  have hP : sm_NP G 5 (I, Rf) H := hP
  refine sn_putR (x := 4) (k := 3) (n := 9) hx hb hts hown hin fk_X7_9 (fun a => ⟨rfl, rfl⟩) (dw_X7 0 (by decide)) kd_3 (by decide) (by decide) (by decide) (by decide +kernel) (by omega) B hP hS dX7_init_9 (fun H locs hP hS => ?_)
  have hP : sm_NP G 5 (I, (sm_s1 Rf 3 0 4)) H := hP
  have hr : ∀ k, 5 ≤ k → (sm_s1 Rf 3 0 4) k = fun _ => 9999 := (sn_dfs (a := 3) (j := 0) (x := 4) hr (t1 := 5) (by decide) (by decide))
  refine lv_aload_n hx hb dX7_init_12 rfl (lv_at hl 0 rfl) ?_
  refine lv_bipush (v := 6) hx hb dX7_init_13 (by decide) ?_
  refine sn_newa (t := 5) (a := 0) (n := 6) (atype := .int) (ty := .int) (x := 6) hx hb hts rfl ar_int (Or.inl ⟨rfl, rfl⟩) kd_5 (by decide) (by decide) (by decide) B hP hS (hd 5 (by decide)) (Nat.le_of_ble_eq_true rfl) (Nat.le_of_ble_eq_true rfl) dX7_init_15 (fun H hP hS => ?_)
  refine W.widen (k := 2) (n := 12) (Nat.le_of_ble_eq_true rfl) (Nat.le_of_ble_eq_true rfl) ?_
  have hP : sm_NP G 6 (I, (sm_s1 Rf 3 0 4)) H := hP
  refine sn_putR (x := 5) (k := 3) (n := 9) hx hb hts hown hin fk_X7_15 (fun a => ⟨rfl, rfl⟩) (dw_X7 1 (by decide)) kd_3 (by decide) (by decide) (by decide) (by decide +kernel) (by omega) B hP hS dX7_init_17 (fun H locs hP hS => ?_)
  have hP : sm_NP G 6 (I, (sm_s1 (sm_s1 Rf 3 0 4) 3 1 5)) H := hP
  have hr : ∀ k, 6 ≤ k → (sm_s1 (sm_s1 Rf 3 0 4) 3 1 5) k = fun _ => 9999 := (sn_dfs (a := 3) (j := 1) (x := 5) hr (t1 := 6) (by decide) (by decide))
  refine lv_aload_n hx hb dX7_init_20 rfl (lv_at hl 0 rfl) ?_
  refine lv_bipush (v := 48) hx hb dX7_init_21 (by decide) ?_
  refine sn_newa (t := 6) (a := 0) (n := 48) (atype := .int) (ty := .int) (x := 48) hx hb hts rfl ar_int (Or.inl ⟨rfl, rfl⟩) kd_6 (by decide) (by decide) (by decide) B hP hS (hd 6 (by decide)) (Nat.le_of_ble_eq_true rfl) (Nat.le_of_ble_eq_true rfl) dX7_init_23 (fun H hP hS => ?_)
  refine W.widen (k := 3) (n := 60) (Nat.le_of_ble_eq_true rfl) (Nat.le_of_ble_eq_true rfl) ?_
  have hP : sm_NP G 7 (I, (sm_s1 (sm_s1 Rf 3 0 4) 3 1 5)) H := hP
  refine sn_putR (x := 6) (k := 3) (n := 9) hx hb hts hown hin fk_X7_18 (fun a => ⟨rfl, rfl⟩) (dw_X7 2 (by decide)) kd_3 (by decide) (by decide) (by decide) (by decide +kernel) (by omega) B hP hS dX7_init_25 (fun H locs hP hS => ?_)
  have hP : sm_NP G 7 (I, (sm_s1 (sm_s1 (sm_s1 Rf 3 0 4) 3 1 5) 3 2 6)) H := hP
  have hr : ∀ k, 7 ≤ k → (sm_s1 (sm_s1 (sm_s1 Rf 3 0 4) 3 1 5) 3 2 6) k = fun _ => 9999 := (sn_dfs (a := 3) (j := 2) (x := 6) hr (t1 := 7) (by decide) (by decide))
  refine lv_aload_n hx hb dX7_init_28 rfl (lv_at hl 0 rfl) ?_
  refine sn_new (t := 7) (own := RX7) (index := 21) (C := RX6) (T := TX6) (N := 4) (ci := 6) hx hb hts hown kl_X7_21 it_X6 in_X6 (show sm_cs[6]? = some (RX6, TX6, 4) from rfl) uw_X6 tyX6 tyX6_ok df_X6 (by decide) kd_7 B hP hS (hd 7 (by decide)) (hr 7 (by decide)) (Nat.le_of_ble_eq_true rfl) (Nat.le_of_ble_eq_true rfl) dX7_init_29 (fun H hP hS => ?_)
  refine W.widen (k := 4) (n := 64) (Nat.le_of_ble_eq_true rfl) (Nat.le_of_ble_eq_true rfl) ?_
  have hP : sm_NP G 8 (I, (sm_s1 (sm_s1 (sm_s1 Rf 3 0 4) 3 1 5) 3 2 6)) H := hP
  refine lv_dup hx hb dX7_init_32 rfl ?_
  refine sn_callI (As := []) (rest := [.ref (G.2.1 7), .ref (G.2.1 3)]) (kc_X6_init_7 (sn_mono hd (by decide)) (sn_mono hr (by decide))) ik_X6_init nl_X7_23 hx hb hml hts hown rfl hl.1 (Nat.le_of_ble_eq_true rfl) (by decide) (by decide) ⟨(Nat.le_of_ble_eq_true rfl), (Nat.le_of_ble_eq_true rfl)⟩ B hP hS dX7_init_33 (fun H locs hP hS => ?_)
  refine W.widen (k := 6) (n := 828) (Nat.le_of_ble_eq_true rfl) (Nat.le_of_ble_eq_true rfl) ?_
  have hP : sm_NP G 10 ((cI_X6_init_7 I), (cR_X6_init_7 (sm_s1 (sm_s1 (sm_s1 Rf 3 0 4) 3 1 5) 3 2 6))) H := hP
  have hd : ∀ k, 10 ≤ k → (cI_X6_init_7 I) k = fun _ => 0 := (dI_X6_init_7 (sn_mono hd (by decide)))
  have hr : ∀ k, 10 ≤ k → (cR_X6_init_7 (sm_s1 (sm_s1 (sm_s1 Rf 3 0 4) 3 1 5) 3 2 6)) k = fun _ => 9999 := (dR_X6_init_7 (sn_mono hr (by decide)))
  refine sn_putR (x := 7) (k := 3) (n := 9) hx hb hts hown hin fk_X7_24 (fun a => ⟨rfl, rfl⟩) (dw_X7 4 (by decide)) kd_3 (by decide) (by decide) (by decide) (by decide +kernel) (by omega) B hP hS dX7_init_36 (fun H locs hP hS => ?_)
  have hP : sm_NP G 10 ((cI_X6_init_7 I), (sm_s1 (cR_X6_init_7 (sm_s1 (sm_s1 (sm_s1 Rf 3 0 4) 3 1 5) 3 2 6)) 3 4 7)) H := hP
  have hr : ∀ k, 10 ≤ k → (sm_s1 (cR_X6_init_7 (sm_s1 (sm_s1 (sm_s1 Rf 3 0 4) 3 1 5) 3 2 6)) 3 4 7) k = fun _ => 9999 := (sn_dfs (a := 3) (j := 4) (x := 7) hr (t1 := 10) (by decide) (by decide))
  refine lv_aload_n hx hb dX7_init_39 rfl (lv_at hl 0 rfl) ?_
  refine sn_new (t := 10) (own := RX7) (index := 28) (C := RX10) (T := TX10) (N := 4) (ci := 10) hx hb hts hown kl_X7_28 it_X10 in_X10 (show sm_cs[10]? = some (RX10, TX10, 4) from rfl) uw_X10 tyX10 tyX10_ok df_X10 (by decide) kd_10 B hP hS (hd 10 (by decide)) (hr 10 (by decide)) (Nat.le_of_ble_eq_true rfl) (Nat.le_of_ble_eq_true rfl) dX7_init_40 (fun H hP hS => ?_)
  refine W.widen (k := 7) (n := 832) (Nat.le_of_ble_eq_true rfl) (Nat.le_of_ble_eq_true rfl) ?_
  have hP : sm_NP G 11 ((cI_X6_init_7 I), (sm_s1 (cR_X6_init_7 (sm_s1 (sm_s1 (sm_s1 Rf 3 0 4) 3 1 5) 3 2 6)) 3 4 7)) H := hP
  refine lv_dup hx hb dX7_init_43 rfl ?_
  refine sn_callI (As := []) (rest := [.ref (G.2.1 10), .ref (G.2.1 3)]) (kc_X10_init_10 (sn_mono hd (by decide)) (sn_mono hr (by decide))) ik_X10_init nl_X7_30 hx hb hml hts hown rfl hl.1 (Nat.le_of_ble_eq_true rfl) (by decide) (by decide) ⟨(Nat.le_of_ble_eq_true rfl), (Nat.le_of_ble_eq_true rfl)⟩ B hP hS dX7_init_44 (fun H locs hP hS => ?_)
  refine W.widen (k := 15) (n := 881) (Nat.le_of_ble_eq_true rfl) (Nat.le_of_ble_eq_true rfl) ?_
  have hP : sm_NP G 19 ((cI_X10_init_10 (cI_X6_init_7 I)), (cR_X10_init_10 (sm_s1 (cR_X6_init_7 (sm_s1 (sm_s1 (sm_s1 Rf 3 0 4) 3 1 5) 3 2 6)) 3 4 7))) H := hP
  have hd : ∀ k, 19 ≤ k → (cI_X10_init_10 (cI_X6_init_7 I)) k = fun _ => 0 := (dI_X10_init_10 (sn_mono hd (by decide)))
  have hr : ∀ k, 19 ≤ k → (cR_X10_init_10 (sm_s1 (cR_X6_init_7 (sm_s1 (sm_s1 (sm_s1 Rf 3 0 4) 3 1 5) 3 2 6)) 3 4 7)) k = fun _ => 9999 := (dR_X10_init_10 (sn_mono hr (by decide)))
  refine sn_putR (x := 10) (k := 3) (n := 9) hx hb hts hown hin fk_X7_31 (fun a => ⟨rfl, rfl⟩) (dw_X7 5 (by decide)) kd_3 (by decide) (by decide) (by decide) (by decide +kernel) (by omega) B hP hS dX7_init_47 (fun H locs hP hS => ?_)
  have hP : sm_NP G 19 ((cI_X10_init_10 (cI_X6_init_7 I)), (sm_s1 (cR_X10_init_10 (sm_s1 (cR_X6_init_7 (sm_s1 (sm_s1 (sm_s1 Rf 3 0 4) 3 1 5) 3 2 6)) 3 4 7)) 3 5 10)) H := hP
  have hr : ∀ k, 19 ≤ k → (sm_s1 (cR_X10_init_10 (sm_s1 (cR_X6_init_7 (sm_s1 (sm_s1 (sm_s1 Rf 3 0 4) 3 1 5) 3 2 6)) 3 4 7)) 3 5 10) k = fun _ => 9999 := (sn_dfs (a := 3) (j := 5) (x := 10) hr (t1 := 19) (by decide) (by decide))
  refine lv_aload_n hx hb dX7_init_50 rfl (lv_at hl 0 rfl) ?_
  refine lv_bipush (v := 6) hx hb dX7_init_51 (by decide) ?_
  refine sn_newa (t := 19) (a := 0) (n := 6) (atype := .int) (ty := .int) (x := 6) hx hb hts rfl ar_int (Or.inl ⟨rfl, rfl⟩) kd_19 (by decide) (by decide) (by decide) B hP hS (hd 19 (by decide)) (Nat.le_of_ble_eq_true rfl) (Nat.le_of_ble_eq_true rfl) dX7_init_53 (fun H hP hS => ?_)
  refine W.widen (k := 16) (n := 887) (Nat.le_of_ble_eq_true rfl) (Nat.le_of_ble_eq_true rfl) ?_
  have hP : sm_NP G 20 ((cI_X10_init_10 (cI_X6_init_7 I)), (sm_s1 (cR_X10_init_10 (sm_s1 (cR_X6_init_7 (sm_s1 (sm_s1 (sm_s1 Rf 3 0 4) 3 1 5) 3 2 6)) 3 4 7)) 3 5 10)) H := hP
  refine sn_putR (x := 19) (k := 3) (n := 9) hx hb hts hown hin fk_X7_35 (fun a => ⟨rfl, rfl⟩) (dw_X7 6 (by decide)) kd_3 (by decide) (by decide) (by decide) (by decide +kernel) (by omega) B hP hS dX7_init_55 (fun H locs hP hS => ?_)
  have hP : sm_NP G 20 ((cI_X10_init_10 (cI_X6_init_7 I)), (sm_s1 (sm_s1 (cR_X10_init_10 (sm_s1 (cR_X6_init_7 (sm_s1 (sm_s1 (sm_s1 Rf 3 0 4) 3 1 5) 3 2 6)) 3 4 7)) 3 5 10) 3 6 19)) H := hP
  have hr : ∀ k, 20 ≤ k → (sm_s1 (sm_s1 (cR_X10_init_10 (sm_s1 (cR_X6_init_7 (sm_s1 (sm_s1 (sm_s1 Rf 3 0 4) 3 1 5) 3 2 6)) 3 4 7)) 3 5 10) 3 6 19) k = fun _ => 9999 := (sn_dfs (a := 3) (j := 6) (x := 19) hr (t1 := 20) (by decide) (by decide))
  refine lv_aload_n hx hb dX7_init_58 rfl (lv_at hl 0 rfl) ?_
  refine lv_bipush (v := 9) hx hb dX7_init_59 (by decide) ?_
  refine sn_newa (t := 20) (a := 0) (n := 9) (atype := .int) (ty := .int) (x := 9) hx hb hts rfl ar_int (Or.inl ⟨rfl, rfl⟩) kd_20 (by decide) (by decide) (by decide) B hP hS (hd 20 (by decide)) (Nat.le_of_ble_eq_true rfl) (Nat.le_of_ble_eq_true rfl) dX7_init_61 (fun H hP hS => ?_)
  refine W.widen (k := 17) (n := 896) (Nat.le_of_ble_eq_true rfl) (Nat.le_of_ble_eq_true rfl) ?_
  have hP : sm_NP G 21 ((cI_X10_init_10 (cI_X6_init_7 I)), (sm_s1 (sm_s1 (cR_X10_init_10 (sm_s1 (cR_X6_init_7 (sm_s1 (sm_s1 (sm_s1 Rf 3 0 4) 3 1 5) 3 2 6)) 3 4 7)) 3 5 10) 3 6 19)) H := hP
  refine sn_putR (x := 20) (k := 3) (n := 9) hx hb hts hown hin fk_X7_38 (fun a => ⟨rfl, rfl⟩) (dw_X7 7 (by decide)) kd_3 (by decide) (by decide) (by decide) (by decide +kernel) (by omega) B hP hS dX7_init_63 (fun H locs hP hS => ?_)
  have hP : sm_NP G 21 ((cI_X10_init_10 (cI_X6_init_7 I)), (sm_s1 (sm_s1 (sm_s1 (cR_X10_init_10 (sm_s1 (cR_X6_init_7 (sm_s1 (sm_s1 (sm_s1 Rf 3 0 4) 3 1 5) 3 2 6)) 3 4 7)) 3 5 10) 3 6 19) 3 7 20)) H := hP
  have hr : ∀ k, 21 ≤ k → (sm_s1 (sm_s1 (sm_s1 (cR_X10_init_10 (sm_s1 (cR_X6_init_7 (sm_s1 (sm_s1 (sm_s1 Rf 3 0 4) 3 1 5) 3 2 6)) 3 4 7)) 3 5 10) 3 6 19) 3 7 20) k = fun _ => 9999 := (sn_dfs (a := 3) (j := 7) (x := 20) hr (t1 := 21) (by decide) (by decide))
  refine lv_aload_n hx hb dX7_init_66 rfl (lv_at hl 0 rfl) ?_
  refine lv_bipush (v := 9) hx hb dX7_init_67 (by decide) ?_
  refine sn_newa (t := 21) (a := 0) (n := 9) (atype := .int) (ty := .int) (x := 9) hx hb hts rfl ar_int (Or.inl ⟨rfl, rfl⟩) kd_21 (by decide) (by decide) (by decide) B hP hS (hd 21 (by decide)) (Nat.le_of_ble_eq_true rfl) (Nat.le_of_ble_eq_true rfl) dX7_init_69 (fun H hP hS => ?_)
  refine W.widen (k := 18) (n := 905) (Nat.le_of_ble_eq_true rfl) (Nat.le_of_ble_eq_true rfl) ?_
  have hP : sm_NP G 22 ((cI_X10_init_10 (cI_X6_init_7 I)), (sm_s1 (sm_s1 (sm_s1 (cR_X10_init_10 (sm_s1 (cR_X6_init_7 (sm_s1 (sm_s1 (sm_s1 Rf 3 0 4) 3 1 5) 3 2 6)) 3 4 7)) 3 5 10) 3 6 19) 3 7 20)) H := hP
  refine sn_putR (x := 21) (k := 3) (n := 9) hx hb hts hown hin fk_X7_41 (fun a => ⟨rfl, rfl⟩) (dw_X7 8 (by decide)) kd_3 (by decide) (by decide) (by decide) (by decide +kernel) (by omega) B hP hS dX7_init_71 (fun H locs hP hS => ?_)
  have hP : sm_NP G 22 ((cI_X10_init_10 (cI_X6_init_7 I)), (sm_s1 (sm_s1 (sm_s1 (sm_s1 (cR_X10_init_10 (sm_s1 (cR_X6_init_7 (sm_s1 (sm_s1 (sm_s1 Rf 3 0 4) 3 1 5) 3 2 6)) 3 4 7)) 3 5 10) 3 6 19) 3 7 20) 3 8 21)) H := hP
  have hr : ∀ k, 22 ≤ k → (sm_s1 (sm_s1 (sm_s1 (sm_s1 (cR_X10_init_10 (sm_s1 (cR_X6_init_7 (sm_s1 (sm_s1 (sm_s1 Rf 3 0 4) 3 1 5) 3 2 6)) 3 4 7)) 3 5 10) 3 6 19) 3 7 20) 3 8 21) k = fun _ => 9999 := (sn_dfs (a := 3) (j := 8) (x := 21) hr (t1 := 22) (by decide) (by decide))
  exact W.vret hx hb hret (fun t9 ht hW => ⟨rfl, by rw [ht]; exact hP, hS.F ht⟩) hS.2.2 dX7_init_74 hlocks
