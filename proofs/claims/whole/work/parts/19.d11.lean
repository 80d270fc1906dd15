def cI_X6_init_26 (I : Nat → Nat → Int32) : Nat → Nat → Int32 := I
def cR_X6_init_26 (Rf : Nat → Nat → Nat) : Nat → Nat → Nat := (sm_s1 (sm_s1 Rf 26 0 27) 26 3 28)
theorem dI_X6_init_26 {I : Nat → Nat → Int32} (hd : ∀ k, 27 ≤ k → I k = fun _ => 0) : ∀ k, 29 ≤ k → cI_X6_init_26 I k = fun _ => 0 := sn_mono hd (by decide)
theorem dR_X6_init_26 {Rf : Nat → Nat → Nat} (hr : ∀ k, 27 ≤ k → Rf k = fun _ => 9999) : ∀ k, 29 ≤ k → cR_X6_init_26 Rf k = fun _ => 9999 := sn_mono (sn_dfs (a := 26) (j := 3) (x := 28) (sn_dfs (a := 26) (j := 0) (x := 27) hr (t1 := 28) (by decide) (by decide)) (t1 := 29) (by decide) (by decide)) (by decide)
set_option maxHeartbeats 40000000 in
set_option maxRecDepth 100000 in
theorem kc_X6_init_26 {l : Launch} {I : Nat → Nat → Int32} {Rf : Nat → Nat → Nat} (hd : ∀ k, 27 ≤ k → I k = fun _ => 0) (hr : ∀ k, 27 ≤ k → Rf k = fun _ => 9999) : sm_K l 0 mX6_init [.inr (.inl 26)] 27 (I, Rf) 29 (cI_X6_init_26 I, cR_X6_init_26 Rf) 2 764 := by
  refine sn_meth (by decide) (Nat.le_of_ble_eq_true rfl) rfl ?_
  intro G p e s m args below meth c ls hx hb hml hown hts hret hlocks hin hP B hl
  have hS : va_S (fun q => G.2.1 0 ≤ q) s.heap s.heap [] := va_S.rf
  have hl : lv_has ls 1 [(0, .ref (G.2.1 26))] := hl
  refine lv_aload_n hx hb dX6_init_0 rfl (lv_at hl 0 rfl) ?_
  refine W.objInit hx hb hown (hts _ ol_X6_3) (hts _ ob_im) (hts _ ob_co) rfl (by rw [hml]; exact hl.1) rfl dX6_init_1 (Nat.le_of_ble_eq_true rfl) (Nat.le_of_ble_eq_true rfl) ?_
  refine W.eq (g2 := F0 m 4 ls []) rfl ?_
  refine lv_aload_n hx hb dX6_init_4 rfl (lv_at hl 0 rfl) ?_
  refine lv_sipush (v := 700) hx hb dX6_init_5 (by decide) ?_
  refine sn_newa (t := 27) (a := 0) (n := 700) (atype := .int) (ty := .int) (x := 700) hx hb hts rfl ar_int (Or.inl ⟨rfl, rfl⟩) kd_27 (by decide) (by decide) (by decide) B hP hS (hd 27 (by decide)) (Nat.le_of_ble_eq_true rfl) (Nat.le_of_ble_eq_true rfl) dX6_init_8 (fun H hP hS => ?_)
  refine W.widen (k := 1) (n := 700) (Nat.le_of_ble_eq_true rfl) (Nat.le_of_ble_eq_true rfl) ?_
  have hP : sm_NP G 28 (I, Rf) H := hP
  refine sn_putR (x := 27) (k := 26) (n := 4) hx hb hts hown hin fk_X6_9 (fun a => ⟨rfl, rfl⟩) (dw_X6 0 (by decide)) kd_26 (by decide) (by decide) (by decide) (by decide +kernel) (by omega) B hP hS dX6_init_10 (fun H locs hP hS => ?_)
  have hP : sm_NP G 28 (I, (sm_s1 Rf 26 0 27)) H := hP
  have hr : ∀ k, 28 ≤ k → (sm_s1 Rf 26 0 27) k = fun _ => 9999 := (sn_dfs (a := 26) (j := 0) (x := 27) hr (t1 := 28) (by decide) (by decide))
  refine lv_aload_n hx hb dX6_init_13 rfl (lv_at hl 0 rfl) ?_
  refine lv_bipush (v := 64) hx hb dX6_init_14 (by decide) ?_
  refine sn_newa (t := 28) (a := 0) (n := 64) (atype := .int) (ty := .int) (x := 64) hx hb hts rfl ar_int (Or.inl ⟨rfl, rfl⟩) kd_28 (by decide) (by decide) (by decide) B hP hS (hd 28 (by decide)) (Nat.le_of_ble_eq_true rfl) (Nat.le_of_ble_eq_true rfl) dX6_init_16 (fun H hP hS => ?_)
  refine W.widen (k := 2) (n := 764) (Nat.le_of_ble_eq_true rfl) (Nat.le_of_ble_eq_true rfl) ?_
  have hP : sm_NP G 29 (I, (sm_s1 Rf 26 0 27)) H := hP
  refine sn_putR (x := 28) (k := 26) (n := 4) hx hb hts hown hin fk_X6_15 (fun a => ⟨rfl, rfl⟩) (dw_X6 3 (by decide)) kd_26 (by decide) (by decide) (by decide) (by decide +kernel) (by omega) B hP hS dX6_init_18 (fun H locs hP hS => ?_)
  have hP : sm_NP G 29 (I, (sm_s1 (sm_s1 Rf 26 0 27) 26 3 28)) H := hP
  have hr : ∀ k, 29 ≤ k → (sm_s1 (sm_s1 Rf 26 0 27) 26 3 28) k = fun _ => 9999 := (sn_dfs (a := 26) (j := 3) (x := 28) hr (t1 := 29) (by decide) (by decide))
  exact W.vret hx hb hret (fun t9 ht hW => ⟨rfl, by rw [ht]; exact hP, hS.F ht⟩) hS.2.2 dX6_init_21 hlocks
