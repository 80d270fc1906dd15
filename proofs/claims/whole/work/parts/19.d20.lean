def cI_X5_init_40 (I : Nat → Nat → Int32) : Nat → Nat → Int32 := I
def cR_X5_init_40 (Rf : Nat → Nat → Nat) : Nat → Nat → Nat := (sm_s1 (sm_s1 Rf 40 0 1) 40 2 21)
theorem dI_X5_init_40 {I : Nat → Nat → Int32} (hd : ∀ k, 41 ≤ k → I k = fun _ => 0) : ∀ k, 41 ≤ k → cI_X5_init_40 I k = fun _ => 0 := sn_mono hd (by decide)
theorem dR_X5_init_40 {Rf : Nat → Nat → Nat} (hr : ∀ k, 41 ≤ k → Rf k = fun _ => 9999) : ∀ k, 41 ≤ k → cR_X5_init_40 Rf k = fun _ => 9999 := sn_mono (sn_dfs (a := 40) (j := 2) (x := 21) (sn_dfs (a := 40) (j := 0) (x := 1) hr (t1 := 41) (by decide) (by decide)) (t1 := 41) (by decide) (by decide)) (by decide)
set_option maxHeartbeats 40000000 in
set_option maxRecDepth 100000 in
theorem kc_X5_init_40 {l : Launch} {I : Nat → Nat → Int32} {Rf : Nat → Nat → Nat} (hd : ∀ k, 41 ≤ k → I k = fun _ => 0) (hr : ∀ k, 41 ≤ k → Rf k = fun _ => 9999) : sm_K l 0 mX5_init [.inr (.inl 40), .inr (.inl 1), .inr (.inl 21)] 41 (I, Rf) 41 (cI_X5_init_40 I, cR_X5_init_40 Rf) 0 0 := by
  refine sn_meth (by decide) (Nat.le_of_ble_eq_true rfl) rfl ?_
  intro G p e s m args below meth c ls hx hb hml hown hts hret hlocks hin hP B hl
  have hS : va_S (fun q => G.2.1 0 ≤ q) s.heap s.heap [] := va_S.rf
  have hl : lv_has ls 3 [(0, .ref (G.2.1 40)), (1, .ref (G.2.1 1)), (2, .ref (G.2.1 21))] := hl
  refine lv_aload_n hx hb dX5_init_0 rfl (lv_at hl 0 rfl) ?_
  refine W.objInit hx hb hown (hts _ ol_X5_3) (hts _ ob_im) (hts _ ob_co) rfl (by rw [hml]; exact hl.1) rfl dX5_init_1 (Nat.le_of_ble_eq_true rfl) (Nat.le_of_ble_eq_true rfl) ?_
  refine W.eq (g2 := F0 m 4 ls []) rfl ?_
  refine lv_aload_n hx hb dX5_init_4 rfl (lv_at hl 0 rfl) ?_
  refine lv_aload_n hx hb dX5_init_5 rfl (lv_at hl 1 rfl) ?_
  refine sn_putR (x := 1) (k := 40) (n := 11) hx hb hts hown hin fk_X5_9 (fun a => ⟨rfl, rfl⟩) (dw_X5 0 (by decide)) kd_40 (by decide) (by decide) (by decide) (by decide +kernel) (by omega) B hP hS dX5_init_6 (fun H locs hP hS => ?_)
  have hP : sm_NP G 41 (I, (sm_s1 Rf 40 0 1)) H := hP
  have hr : ∀ k, 41 ≤ k → (sm_s1 Rf 40 0 1) k = fun _ => 9999 := (sn_dfs (a := 40) (j := 0) (x := 1) hr (t1 := 41) (by decide) (by decide))
  refine lv_aload_n hx hb dX5_init_9 rfl (lv_at hl 0 rfl) ?_
  refine lv_aload_n hx hb dX5_init_10 rfl (lv_at hl 2 rfl) ?_
  refine sn_putR (x := 21) (k := 40) (n := 11) hx hb hts hown hin fk_X5_15 (fun a => ⟨rfl, rfl⟩) (dw_X5 2 (by decide)) kd_40 (by decide) (by decide) (by decide) (by decide +kernel) (by omega) B hP hS dX5_init_11 (fun H locs hP hS => ?_)
  have hP : sm_NP G 41 (I, (sm_s1 (sm_s1 Rf 40 0 1) 40 2 21)) H := hP
  have hr : ∀ k, 41 ≤ k → (sm_s1 (sm_s1 Rf 40 0 1) 40 2 21) k = fun _ => 9999 := (sn_dfs (a := 40) (j := 2) (x := 21) hr (t1 := 41) (by decide) (by decide))
  exact W.vret hx hb hret (fun t9 ht hW => ⟨rfl, by rw [ht]; exact hP, hS.F ht⟩) hS.2.2 dX5_init_14 hlocks
