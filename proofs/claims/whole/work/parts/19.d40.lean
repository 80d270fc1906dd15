def cI_X2_init_76 (I : Nat → Nat → Int32) : Nat → Nat → Int32 := (cI_X4_init_79 I)
def cR_X2_init_76 (Rf : Nat → Nat → Nat) : Nat → Nat → Nat := (sm_s1 (cR_X4_init_79 (sm_s1 (sm_s1 Rf 76 0 77) 76 1 78)) 76 2 79)
theorem dI_X2_init_76 {I : Nat → Nat → Int32} (hd : ∀ k, 77 ≤ k → I k = fun _ => 0) : ∀ k, 80 ≤ k → cI_X2_init_76 I k = fun _ => 0 := sn_mono (dI_X4_init_79 (sn_mono hd (by decide))) (by decide)
theorem dR_X2_init_76 {Rf : Nat → Nat → Nat} (hr : ∀ k, 77 ≤ k → Rf k = fun _ => 9999) : ∀ k, 80 ≤ k → cR_X2_init_76 Rf k = fun _ => 9999 := sn_mono (sn_dfs (a := 76) (j := 2) (x := 79) (dR_X4_init_79 (sn_mono (sn_dfs (a := 76) (j := 1) (x := 78) (sn_dfs (a := 76) (j := 0) (x := 77) hr (t1 := 78) (by decide) (by decide)) (t1 := 79) (by decide) (by decide)) (by decide))) (t1 := 80) (by decide) (by decide)) (by decide)
set_option maxHeartbeats 40000000 in
set_option maxRecDepth 100000 in
theorem kc_X2_init_76 {l : Launch} {I : Nat → Nat → Int32} {Rf : Nat → Nat → Nat} (hd : ∀ k, 77 ≤ k → I k = fun _ => 0) (hr : ∀ k, 77 ≤ k → Rf k = fun _ => 9999) : sm_K l 1 mX2_init [.inr (.inl 76)] 77 (I, Rf) 80 (cI_X2_init_76 I, cR_X2_init_76 Rf) 3 16 := by
  refine sn_meth (by decide) (Nat.le_of_ble_eq_true rfl) rfl ?_
  intro G p e s m args below meth c ls hx hb hml hown hts hret hlocks hin hP B hl
  have hS : va_S (fun q => G.2.1 0 ≤ q) s.heap s.heap [] := va_S.rf
  have hl : lv_has ls 1 [(0, .ref (G.2.1 76))] := hl
  refine lv_aload_n hx hb dX2_init_0 rfl (lv_at hl 0 rfl) ?_
  refine W.objInit hx hb hown (hts _ ol_X2_3) (hts _ ob_im) (hts _ ob_co) rfl (by rw [hml]; exact hl.1) rfl dX2_init_1 (Nat.le_of_ble_eq_true rfl) (Nat.le_of_ble_eq_true rfl) ?_
  refine W.eq (g2 := F0 m 4 ls []) rfl ?_
  refine lv_aload_n hx hb dX2_init_4 rfl (lv_at hl 0 rfl) ?_
  refine lv_iconst (v := 2) hx hb dX2_init_5 (by decide) ?_
  refine sn_newa (t := 77) (a := 2) (n := 2) (atype := .boolean) (ty := .boolean) (x := 2) hx hb hts rfl ar_boolean (Or.inr (Or.inr ⟨rfl, rfl⟩)) kd_77 (by decide) (by decide) (by decide) B hP hS (hd 77 (by decide)) (Nat.le_of_ble_eq_true rfl) (Nat.le_of_ble_eq_true rfl) dX2_init_6 (fun H hP hS => ?_)
  refine W.widen (k := 1) (n := 2) (Nat.le_of_ble_eq_true rfl) (Nat.le_of_ble_eq_true rfl) ?_
  have hP : sm_NP G 78 (I, Rf) H := hP
  refine sn_putR (x := 77) (k := 76) (n := 3) hx hb hts hown hin fk_X2_9 (fun a => ⟨rfl, rfl⟩) (dw_X2 0 (by decide)) kd_76 (by decide) (by decide) (by decide) (by decide +kernel) (by omega) B hP hS dX2_init_8 (fun H locs hP hS => ?_)
  have hP : sm_NP G 78 (I, (sm_s1 Rf 76 0 77)) H := hP
  have hr : ∀ k, 78 ≤ k → (sm_s1 Rf 76 0 77) k = fun _ => 9999 := (sn_dfs (a := 76) (j := 0) (x := 77) hr (t1 := 78) (by decide) (by decide))
  refine lv_aload_n hx hb dX2_init_11 rfl (lv_at hl 0 rfl) ?_
  refine lv_bipush (v := 8) hx hb dX2_init_12 (by decide) ?_
  refine sn_newa (t := 78) (a := 0) (n := 8) (atype := .int) (ty := .int) (x := 8) hx hb hts rfl ar_int (Or.inl ⟨rfl, rfl⟩) kd_78 (by decide) (by decide) (by decide) B hP hS (hd 78 (by decide)) (Nat.le_of_ble_eq_true rfl) (Nat.le_of_ble_eq_true rfl) dX2_init_14 (fun H hP hS => ?_)
  refine W.widen (k := 2) (n := 10) (Nat.le_of_ble_eq_true rfl) (Nat.le_of_ble_eq_true rfl) ?_
  have hP : sm_NP G 79 (I, (sm_s1 Rf 76 0 77)) H := hP
  refine sn_putR (x := 78) (k := 76) (n := 3) hx hb hts hown hin fk_X2_15 (fun a => ⟨rfl, rfl⟩) (dw_X2 1 (by decide)) kd_76 (by decide) (by decide) (by decide) (by decide +kernel) (by omega) B hP hS dX2_init_16 (fun H locs hP hS => ?_)
  have hP : sm_NP G 79 (I, (sm_s1 (sm_s1 Rf 76 0 77) 76 1 78)) H := hP
  have hr : ∀ k, 79 ≤ k → (sm_s1 (sm_s1 Rf 76 0 77) 76 1 78) k = fun _ => 9999 := (sn_dfs (a := 76) (j := 1) (x := 78) hr (t1 := 79) (by decide) (by decide))
  refine lv_aload_n hx hb dX2_init_19 rfl (lv_at hl 0 rfl) ?_
  refine sn_new (t := 79) (own := RX2) (index := 19) (C := RX4) (T := TX4) (N := 6) (ci := 4) hx hb hts hown kl_X2_19 it_X4 in_X4 (show sm_cs[4]? = some (RX4, TX4, 6) from rfl) uw_X4 tyX4 tyX4_ok df_X4 (by decide) kd_79 B hP hS (hd 79 (by decide)) (hr 79 (by decide)) (Nat.le_of_ble_eq_true rfl) (Nat.le_of_ble_eq_true rfl) dX2_init_20 (fun H hP hS => ?_)
  refine W.widen (k := 3) (n := 16) (Nat.le_of_ble_eq_true rfl) (Nat.le_of_ble_eq_true rfl) ?_
  have hP : sm_NP G 80 (I, (sm_s1 (sm_s1 Rf 76 0 77) 76 1 78)) H := hP
  refine lv_dup hx hb dX2_init_23 rfl ?_
  refine sn_callI (As := []) (rest := [.ref (G.2.1 79), .ref (G.2.1 76)]) (kc_X4_init_79 (sn_mono hd (by decide)) (sn_mono hr (by decide))) ik_X4_init nl_X2_21 hx hb hml hts hown rfl hl.1 (Nat.le_of_ble_eq_true rfl) (by decide) (by decide) ⟨(Nat.le_of_ble_eq_true rfl), (Nat.le_of_ble_eq_true rfl)⟩ B hP hS dX2_init_24 (fun H locs hP hS => ?_)
  have hP : sm_NP G 80 ((cI_X4_init_79 I), (cR_X4_init_79 (sm_s1 (sm_s1 Rf 76 0 77) 76 1 78))) H := hP
  have hd : ∀ k, 80 ≤ k → (cI_X4_init_79 I) k = fun _ => 0 := (dI_X4_init_79 (sn_mono hd (by decide)))
  have hr : ∀ k, 80 ≤ k → (cR_X4_init_79 (sm_s1 (sm_s1 Rf 76 0 77) 76 1 78)) k = fun _ => 9999 := (dR_X4_init_79 (sn_mono hr (by decide)))
  refine sn_putR (x := 79) (k := 76) (n := 3) hx hb hts hown hin fk_X2_22 (fun a => ⟨rfl, rfl⟩) (dw_X2 2 (by decide)) kd_76 (by decide) (by decide) (by decide) (by decide +kernel) (by omega) B hP hS dX2_init_27 (fun H locs hP hS => ?_)
  have hP : sm_NP G 80 ((cI_X4_init_79 I), (sm_s1 (cR_X4_init_79 (sm_s1 (sm_s1 Rf 76 0 77) 76 1 78)) 76 2 79)) H := hP
  have hr : ∀ k, 80 ≤ k → (sm_s1 (cR_X4_init_79 (sm_s1 (sm_s1 Rf 76 0 77) 76 1 78)) 76 2 79) k = fun _ => 9999 := (sn_dfs (a := 76) (j := 2) (x := 79) hr (t1 := 80) (by decide) (by decide))
  exact W.vret hx hb hret (fun t9 ht hW => ⟨rfl, by rw [ht]; exact hP, hS.F ht⟩) hS.2.2 dX2_init_30 hlocks
