def cI_X5_init_1 (I : Nat → Nat → Int32) : Nat → Nat → Int32 := (cI_X7_init_3 I)
def cR_X5_init_1 (Rf : Nat → Nat → Nat) : Nat → Nat → Nat := (sm_s1 (cR_X7_init_3 (sm_s1 Rf 1 0 2)) 1 2 3)
theorem dI_X5_init_1 {I : Nat → Nat → Int32} (hd : ∀ k, 2 ≤ k → I k = fun _ => 0) : ∀ k, 22 ≤ k → cI_X5_init_1 I k = fun _ => 0 := sn_mono (dI_X7_init_3 (sn_mono hd (by decide))) (by decide)
theorem dR_X5_init_1 {Rf : Nat → Nat → Nat} (hr : ∀ k, 2 ≤ k → Rf k = fun _ => 9999) : ∀ k, 22 ≤ k → cR_X5_init_1 Rf k = fun _ => 9999 := sn_mono (sn_dfs (a := 1) (j := 2) (x := 3) (dR_X7_init_3 (sn_mono (sn_dfs (a := 1) (j := 0) (x := 2) hr (t1 := 3) (by decide) (by decide)) (by decide))) (t1 := 22) (by decide) (by decide)) (by decide)
set_option maxHeartbeats 40000000 in
set_option maxRecDepth 100000 in
theorem kc_X5_init_1 {l : Launch} {I : Nat → Nat → Int32} {Rf : Nat → Nat → Nat} (hd : ∀ k, 2 ≤ k → I k = fun _ => 0) (hr : ∀ k, 2 ≤ k → Rf k = fun _ => 9999) : sm_K l 3 mX5_init [.inr (.inl 1)] 2 (I, Rf) 22 (cI_X5_init_1 I, cR_X5_init_1 Rf) 20 1614 := by
  refine sn_meth (by decide) (Nat.le_of_ble_eq_true rfl) rfl ?_
  intro G p e s m args below meth c ls hx hb hml hown hts hret hlocks hin hP B hl
  have hS : va_S (fun q => G.2.1 0 ≤ q) s.heap s.heap [] := va_S.rf
  have hl : lv_has ls 1 [(0, .ref (G.2.1 1))] := hl
  refine lv_aload_n hx hb dX5_init_0 rfl (lv_at hl 0 rfl) ?_
  refine W.objInit hx hb hown (hts _ ol_X5_3) (hts _ ob_im) (hts _ ob_co) rfl (by rw [hml]; exact hl.1) rfl dX5_init_1 (Nat.le_of_ble_eq_true rfl) (Nat.le_of_ble_eq_true rfl) ?_
  refine W.eq (g2 := F0 m 4 ls []) rfl ?_
  refine lv_aload_n hx hb dX5_init_4 rfl (lv_at hl 0 rfl) ?_
  refine lv_sipush (v := 700) hx hb dX5_init_5 (by decide) ?_
  refine sn_newa (t := 2) (a := 1) (n := 700) (atype := .byte) (ty := .byte) (x := 700) hx hb hts rfl ar_byte (Or.inr (Or.inl ⟨rfl, rfl⟩)) kd_2 (by decide) (by decide) (by decide) B hP hS (hd 2 (by decide)) (Nat.le_of_ble_eq_true rfl) (Nat.le_of_ble_eq_true rfl) dX5_init_8 (fun H hP hS => ?_)
  refine W.widen (k := 1) (n := 700) (Nat.le_of_ble_eq_true rfl) (Nat.le_of_ble_eq_true rfl) ?_
  have hP : sm_NP G 3 (I, Rf) H := hP
  refine sn_putR (x := 2) (k := 1) (n := 11) hx hb hts hown hin fk_X5_9 (fun a => ⟨rfl, rfl⟩) (dw_X5 0 (by decide)) kd_1 (by decide) (by decide) (by decide) (by decide +kernel) (by omega) B hP hS dX5_init_10 (fun H locs hP hS => ?_)
  have hP : sm_NP G 3 (I, (sm_s1 Rf 1 0 2)) H := hP
  have hr : ∀ k, 3 ≤ k → (sm_s1 Rf 1 0 2) k = fun _ => 9999 := (sn_dfs (a := 1) (j := 0) (x := 2) hr (t1 := 3) (by decide) (by decide))
  refine lv_aload_n hx hb dX5_init_13 rfl (lv_at hl 0 rfl) ?_
  refine sn_new (t := 3) (own := RX5) (index := 15) (C := RX7) (T := TX7) (N := 9) (ci := 7) hx hb hts hown kl_X5_15 it_X7 in_X7 (show sm_cs[7]? = some (RX7, TX7, 9) from rfl) uw_X7 tyX7 tyX7_ok df_X7 (by decide) kd_3 B hP hS (hd 3 (by decide)) (hr 3 (by decide)) (Nat.le_of_ble_eq_true rfl) (Nat.le_of_ble_eq_true rfl) dX5_init_14 (fun H hP hS => ?_)
  refine W.widen (k := 2) (n := 709) (Nat.le_of_ble_eq_true rfl) (Nat.le_of_ble_eq_true rfl) ?_
  have hP : sm_NP G 4 (I, (sm_s1 Rf 1 0 2)) H := hP
  refine lv_dup hx hb dX5_init_17 rfl ?_
  refine sn_callI (As := []) (rest := [.ref (G.2.1 3), .ref (G.2.1 1)]) (kc_X7_init_3 (sn_mono hd (by decide)) (sn_mono hr (by decide))) ik_X7_init nl_X5_17 hx hb hml hts hown rfl hl.1 (Nat.le_of_ble_eq_true rfl) (by decide) (by decide) ⟨(Nat.le_of_ble_eq_true rfl), (Nat.le_of_ble_eq_true rfl)⟩ B hP hS dX5_init_18 (fun H locs hP hS => ?_)
  refine W.widen (k := 20) (n := 1614) (Nat.le_of_ble_eq_true rfl) (Nat.le_of_ble_eq_true rfl) ?_
  have hP : sm_NP G 22 ((cI_X7_init_3 I), (cR_X7_init_3 (sm_s1 Rf 1 0 2))) H := hP
  have hd : ∀ k, 22 ≤ k → (cI_X7_init_3 I) k = fun _ => 0 := (dI_X7_init_3 (sn_mono hd (by decide)))
  have hr : ∀ k, 22 ≤ k → (cR_X7_init_3 (sm_s1 Rf 1 0 2)) k = fun _ => 9999 := (dR_X7_init_3 (sn_mono hr (by decide)))
  refine sn_putR (x := 3) (k := 1) (n := 11) hx hb hts hown hin fk_X5_18 (fun a => ⟨rfl, rfl⟩) (dw_X5 2 (by decide)) kd_1 (by decide) (by decide) (by decide) (by decide +kernel) (by omega) B hP hS dX5_init_21 (fun H locs hP hS => ?_)
  have hP : sm_NP G 22 ((cI_X7_init_3 I), (sm_s1 (cR_X7_init_3 (sm_s1 Rf 1 0 2)) 1 2 3)) H := hP
  have hr : ∀ k, 22 ≤ k → (sm_s1 (cR_X7_init_3 (sm_s1 Rf 1 0 2)) 1 2 3) k = fun _ => 9999 := (sn_dfs (a := 1) (j := 2) (x := 3) hr (t1 := 22) (by decide) (by decide))
  exact W.vret hx hb hret (fun t9 ht hW => ⟨rfl, by rw [ht]; exact hP, hS.F ht⟩) hS.2.2 dX5_init_24 hlocks
