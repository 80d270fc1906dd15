def cI_X10_init_29 (I : Nat → Nat → Int32) : Nat → Nat → Int32 := (cI_X4_init_37 (cI_X4_init_36 (cI_X4_init_35 (cI_X4_init_34 (cI_X4_init_33 (cI_X4_init_32 (cI_X4_init_31 (sm_s1 I 29 3 2))))))))
def cR_X10_init_29 (Rf : Nat → Nat → Nat) : Nat → Nat → Nat := (sm_s1 (cR_X4_init_37 (sm_s1 (cR_X4_init_36 (sm_s1 (cR_X4_init_35 (sm_s1 (cR_X4_init_34 (sm_s1 (cR_X4_init_33 (sm_s1 (cR_X4_init_32 (sm_s1 (cR_X4_init_31 (sm_s1 Rf 29 0 30)) 30 0 31)) 30 1 32)) 30 2 33)) 30 3 34)) 30 4 35)) 30 5 36)) 30 6 37)
theorem dI_X10_init_29 {I : Nat → Nat → Int32} (hd : ∀ k, 30 ≤ k → I k = fun _ => 0) : ∀ k, 38 ≤ k → cI_X10_init_29 I k = fun _ => 0 := sn_mono (dI_X4_init_37 (sn_mono (dI_X4_init_36 (sn_mono (dI_X4_init_35 (sn_mono (dI_X4_init_34 (sn_mono (dI_X4_init_33 (sn_mono (dI_X4_init_32 (sn_mono (dI_X4_init_31 (sn_mono (sn_dfs (a := 29) (j := 3) (x := 2) hd (t1 := 31) (by decide) (by decide)) (by decide))) (by decide))) (by decide))) (by decide))) (by decide))) (by decide))) (by decide))) (by decide)
theorem dR_X10_init_29 {Rf : Nat → Nat → Nat} (hr : ∀ k, 30 ≤ k → Rf k = fun _ => 9999) : ∀ k, 38 ≤ k → cR_X10_init_29 Rf k = fun _ => 9999 := sn_mono (sn_dfs (a := 30) (j := 6) (x := 37) (dR_X4_init_37 (sn_mono (sn_dfs (a := 30) (j := 5) (x := 36) (dR_X4_init_36 (sn_mono (sn_dfs (a := 30) (j := 4) (x := 35) (dR_X4_init_35 (sn_mono (sn_dfs (a := 30) (j := 3) (x := 34) (dR_X4_init_34 (sn_mono (sn_dfs (a := 30) (j := 2) (x := 33) (dR_X4_init_33 (sn_mono (sn_dfs (a := 30) (j := 1) (x := 32) (dR_X4_init_32 (sn_mono (sn_dfs (a := 30) (j := 0) (x := 31) (dR_X4_init_31 (sn_mono (sn_dfs (a := 29) (j := 0) (x := 30) hr (t1 := 31) (by decide) (by decide)) (by decide))) (t1 := 32) (by decide) (by decide)) (by decide))) (t1 := 33) (by decide) (by decide)) (by decide))) (t1 := 34) (by decide) (by decide)) (by decide))) (t1 := 35) (by decide) (by decide)) (by decide))) (t1 := 36) (by decide) (by decide)) (by decide))) (t1 := 37) (by decide) (by decide)) (by decide))) (t1 := 38) (by decide) (by decide)) (by decide)
set_option maxHeartbeats 40000000 in
set_option maxRecDepth 100000 in
theorem kc_X10_init_29 {l : Launch} {I : Nat → Nat → Int32} {Rf : Nat → Nat → Nat} (hd : ∀ k, 30 ≤ k → I k = fun _ => 0) (hr : ∀ k, 30 ≤ k → Rf k = fun _ => 9999) : sm_K l 1 mX10_init [.inr (.inl 29)] 30 (I, Rf) 38 (cI_X10_init_29 I, cR_X10_init_29 Rf) 8 49 := by
  refine sn_meth (by decide) (Nat.le_of_ble_eq_true rfl) rfl ?_
  intro G p e s m args below meth c ls hx hb hml hown hts hret hlocks hin hP B hl
  have hS : va_S (fun q => G.2.1 0 ≤ q) s.heap s.heap [] := va_S.rf
  have hl : lv_has ls 2 [(0, .ref (G.2.1 29))] := hl
  refine lv_aload_n hx hb dX10_init_0 rfl (lv_at hl 0 rfl) ?_
  refine W.objInit hx hb hown (hts _ ol_X10_5) (hts _ ob_im) (hts _ ob_co) rfl (by rw [hml]; exact hl.1) rfl dX10_init_1 (Nat.le_of_ble_eq_true rfl) (Nat.le_of_ble_eq_true rfl) ?_
  refine W.eq (g2 := F0 m 4 ls []) rfl ?_
  refine lv_aload_n hx hb dX10_init_4 rfl (lv_at hl 0 rfl) ?_
  refine lv_bipush (v := 7) hx hb dX10_init_5 (by decide) ?_
  refine sn_anew (t := 30) (a := 3) (n := 7) (C := "BaizeDoor$Player") (x := 7) (own := RX10) (index := 1) hx hb hts hown kl_X10_1 (Or.inl ⟨rfl, rfl⟩) kd_30 (by decide) (by decide) (by decide) B hP hS (hr 30 (by decide)) (Nat.le_of_ble_eq_true rfl) (Nat.le_of_ble_eq_true rfl) dX10_init_7 (fun H hP hS => ?_)
  refine W.widen (k := 1) (n := 7) (Nat.le_of_ble_eq_true rfl) (Nat.le_of_ble_eq_true rfl) ?_
  have hP : sm_NP G 31 (I, Rf) H := hP
  refine sn_putR (x := 30) (k := 29) (n := 4) hx hb hts hown hin fk_X10_11 (fun a => ⟨rfl, rfl⟩) (dw_X10 0 (by decide)) kd_29 (by decide) (by decide) (by decide) (by decide +kernel) (by omega) B hP hS dX10_init_10 (fun H locs hP hS => ?_)
  have hP : sm_NP G 31 (I, (sm_s1 Rf 29 0 30)) H := hP
  have hr : ∀ k, 31 ≤ k → (sm_s1 Rf 29 0 30) k = fun _ => 9999 := (sn_dfs (a := 29) (j := 0) (x := 30) hr (t1 := 31) (by decide) (by decide))
  refine lv_aload_n hx hb dX10_init_13 rfl (lv_at hl 0 rfl) ?_
  refine lv_iconst (v := 2) hx hb dX10_init_14 (by decide) ?_
  refine sn_putI (k := 29) (n := 4) hx hb hts hown hin fk_X10_17 (dw_X10 3 (by decide)) kd_29 (by decide) (by decide) (by decide) (by decide +kernel) B hP hS dX10_init_15 (fun H locs hP hS => ?_)
  have hP : sm_NP G 31 ((sm_s1 I 29 3 2), (sm_s1 Rf 29 0 30)) H := hP
  have hd : ∀ k, 31 ≤ k → (sm_s1 I 29 3 2) k = fun _ => 0 := (sn_dfs (a := 29) (j := 3) (x := 2) hd (t1 := 31) (by decide) (by decide))
  refine lv_iconst (v := 0) hx hb dX10_init_18 (by decide) ?_
  refine lv_istore_n (lv' := [(1, .int 0), (0, .ref (G.2.1 29))]) hx hb dX10_init_19 rfl hl (by decide) rfl (fun ls hl => ?_)
  refine lv_iload_n hx hb dX10_init_20 rfl (lv_at hl 0 rfl) ?_
  refine lv_bipush (v := 7) hx hb dX10_init_21 (by decide) ?_
  refine lv_icmp_ge (tgt := 45) hx hb dX10_init_23 (by decide) (fun h => absurd h (by decide)) (fun _ => ?_)
  refine lv_aload_n hx hb dX10_init_26 rfl (lv_at hl 1 rfl) ?_
  refine sn_getR (r := 30) (k := 29) (n := 4) hx hb hts hown fk_X10_11 kd_29 (by decide) (by decide) (by decide +kernel) rfl (by decide) B hP dX10_init_27 ?_
  refine lv_iload_n hx hb dX10_init_30 rfl (lv_at hl 0 rfl) ?_
  refine sn_new (t := 31) (own := RX10) (index := 1) (C := RX4) (T := TX4) (N := 6) (ci := 4) hx hb hts hown kl_X10_1 it_X4 in_X4 (show sm_cs[4]? = some (RX4, TX4, 6) from rfl) uw_X4 tyX4 tyX4_ok df_X4 (by decide) kd_31 B hP hS (hd 31 (by decide)) (hr 31 (by decide)) (Nat.le_of_ble_eq_true rfl) (Nat.le_of_ble_eq_true rfl) dX10_init_31 (fun H hP hS => ?_)
  refine W.widen (k := 2) (n := 13) (Nat.le_of_ble_eq_true rfl) (Nat.le_of_ble_eq_true rfl) ?_
  have hP : sm_NP G 32 ((sm_s1 I 29 3 2), (sm_s1 Rf 29 0 30)) H := hP
  refine lv_dup hx hb dX10_init_34 rfl ?_
  refine sn_callI (As := []) (rest := [.ref (G.2.1 31), .int 0, .ref (G.2.1 30)]) (kc_X4_init_31 (sn_mono hd (by decide)) (sn_mono hr (by decide))) ik_X4_init nl_X10_21 hx hb hml hts hown rfl hl.1 (Nat.le_of_ble_eq_true rfl) (by decide) (by decide) ⟨(Nat.le_of_ble_eq_true rfl), (Nat.le_of_ble_eq_true rfl)⟩ B hP hS dX10_init_35 (fun H locs hP hS => ?_)
  have hP : sm_NP G 32 ((cI_X4_init_31 (sm_s1 I 29 3 2)), (cR_X4_init_31 (sm_s1 Rf 29 0 30))) H := hP
  have hd : ∀ k, 32 ≤ k → (cI_X4_init_31 (sm_s1 I 29 3 2)) k = fun _ => 0 := (dI_X4_init_31 (sn_mono hd (by decide)))
  have hr : ∀ k, 32 ≤ k → (cR_X4_init_31 (sm_s1 Rf 29 0 30)) k = fun _ => 9999 := (dR_X4_init_31 (sn_mono hr (by decide)))
  refine sn_aast (x := 31) (k := 30) (a := 3) (n := 7) hx hb (Or.inl ⟨rfl, rfl⟩) kd_30 (by unfold vp_in; decide) (by decide) (by decide) (sn_anyP (x := 31) kd_31 (by decide) B hP) (by omega) B hP hS dX10_init_38 (fun H locs hP hS => ?_)
  have hP : sm_NP G 32 ((cI_X4_init_31 (sm_s1 I 29 3 2)), (sm_s1 (cR_X4_init_31 (sm_s1 Rf 29 0 30)) 30 0 31)) H := hP
  have hr : ∀ k, 32 ≤ k → (sm_s1 (cR_X4_init_31 (sm_s1 Rf 29 0 30)) 30 0 31) k = fun _ => 9999 := (sn_dfs (a := 30) (j := 0) (x := 31) hr (t1 := 32) (by decide) (by decide))
  refine lv_iinc (v := 1) (lv' := [(1, .int 1), (0, .ref (G.2.1 29))]) hx hb dX10_init_39 hl (k := 0) rfl (by decide) (by decide) rfl (fun ls hl => ?_)
  refine lv_goto (tgt := 20) hx hb dX10_init_42 (by decide) ?_
  refine lv_iload_n hx hb dX10_init_20 rfl (lv_at hl 0 rfl) ?_
  refine lv_bipush (v := 7) hx hb dX10_init_21 (by decide) ?_
  refine lv_icmp_ge (tgt := 45) hx hb dX10_init_23 (by decide) (fun h => absurd h (by decide)) (fun _ => ?_)
  refine lv_aload_n hx hb dX10_init_26 rfl (lv_at hl 1 rfl) ?_
  refine sn_getR (r := 30) (k := 29) (n := 4) hx hb hts hown fk_X10_11 kd_29 (by decide) (by decide) (by decide +kernel) rfl (by decide) B hP dX10_init_27 ?_
  refine lv_iload_n hx hb dX10_init_30 rfl (lv_at hl 0 rfl) ?_
  refine sn_new (t := 32) (own := RX10) (index := 1) (C := RX4) (T := TX4) (N := 6) (ci := 4) hx hb hts hown kl_X10_1 it_X4 in_X4 (show sm_cs[4]? = some (RX4, TX4, 6) from rfl) uw_X4 tyX4 tyX4_ok df_X4 (by decide) kd_32 B hP hS (hd 32 (by decide)) (hr 32 (by decide)) (Nat.le_of_ble_eq_true rfl) (Nat.le_of_ble_eq_true rfl) dX10_init_31 (fun H hP hS => ?_)
  refine W.widen (k := 3) (n := 19) (Nat.le_of_ble_eq_true rfl) (Nat.le_of_ble_eq_true rfl) ?_
  have hP : sm_NP G 33 ((cI_X4_init_31 (sm_s1 I 29 3 2)), (sm_s1 (cR_X4_init_31 (sm_s1 Rf 29 0 30)) 30 0 31)) H := hP
  refine lv_dup hx hb dX10_init_34 rfl ?_
  refine sn_callI (As := []) (rest := [.ref (G.2.1 32), .int 1, .ref (G.2.1 30)]) (kc_X4_init_32 (sn_mono hd (by decide)) (sn_mono hr (by decide))) ik_X4_init nl_X10_21 hx hb hml hts hown rfl hl.1 (Nat.le_of_ble_eq_true rfl) (by decide) (by decide) ⟨(Nat.le_of_ble_eq_true rfl), (Nat.le_of_ble_eq_true rfl)⟩ B hP hS dX10_init_35 (fun H locs hP hS => ?_)
  have hP : sm_NP G 33 ((cI_X4_init_32 (cI_X4_init_31 (sm_s1 I 29 3 2))), (cR_X4_init_32 (sm_s1 (cR_X4_init_31 (sm_s1 Rf 29 0 30)) 30 0 31))) H := hP
  have hd : ∀ k, 33 ≤ k → (cI_X4_init_32 (cI_X4_init_31 (sm_s1 I 29 3 2))) k = fun _ => 0 := (dI_X4_init_32 (sn_mono hd (by decide)))
  have hr : ∀ k, 33 ≤ k → (cR_X4_init_32 (sm_s1 (cR_X4_init_31 (sm_s1 Rf 29 0 30)) 30 0 31)) k = fun _ => 9999 := (dR_X4_init_32 (sn_mono hr (by decide)))
  refine sn_aast (x := 32) (k := 30) (a := 3) (n := 7) hx hb (Or.inl ⟨rfl, rfl⟩) kd_30 (by unfold vp_in; decide) (by decide) (by decide) (sn_anyP (x := 32) kd_32 (by decide) B hP) (by omega) B hP hS dX10_init_38 (fun H locs hP hS => ?_)
  have hP : sm_NP G 33 ((cI_X4_init_32 (cI_X4_init_31 (sm_s1 I 29 3 2))), (sm_s1 (cR_X4_init_32 (sm_s1 (cR_X4_init_31 (sm_s1 Rf 29 0 30)) 30 0 31)) 30 1 32)) H := hP
  have hr : ∀ k, 33 ≤ k → (sm_s1 (cR_X4_init_32 (sm_s1 (cR_X4_init_31 (sm_s1 Rf 29 0 30)) 30 0 31)) 30 1 32) k = fun _ => 9999 := (sn_dfs (a := 30) (j := 1) (x := 32) hr (t1 := 33) (by decide) (by decide))
  refine lv_iinc (v := 2) (lv' := [(1, .int 2), (0, .ref (G.2.1 29))]) hx hb dX10_init_39 hl (k := 0) rfl (by decide) (by decide) rfl (fun ls hl => ?_)
  refine lv_goto (tgt := 20) hx hb dX10_init_42 (by decide) ?_
  refine lv_iload_n hx hb dX10_init_20 rfl (lv_at hl 0 rfl) ?_
  refine lv_bipush (v := 7) hx hb dX10_init_21 (by decide) ?_
  refine lv_icmp_ge (tgt := 45) hx hb dX10_init_23 (by decide) (fun h => absurd h (by decide)) (fun _ => ?_)
  refine lv_aload_n hx hb dX10_init_26 rfl (lv_at hl 1 rfl) ?_
  refine sn_getR (r := 30) (k := 29) (n := 4) hx hb hts hown fk_X10_11 kd_29 (by decide) (by decide) (by decide +kernel) rfl (by decide) B hP dX10_init_27 ?_
  refine lv_iload_n hx hb dX10_init_30 rfl (lv_at hl 0 rfl) ?_
  refine sn_new (t := 33) (own := RX10) (index := 1) (C := RX4) (T := TX4) (N := 6) (ci := 4) hx hb hts hown kl_X10_1 it_X4 in_X4 (show sm_cs[4]? = some (RX4, TX4, 6) from rfl) uw_X4 tyX4 tyX4_ok df_X4 (by decide) kd_33 B hP hS (hd 33 (by decide)) (hr 33 (by decide)) (Nat.le_of_ble_eq_true rfl) (Nat.le_of_ble_eq_true rfl) dX10_init_31 (fun H hP hS => ?_)
  refine W.widen (k := 4) (n := 25) (Nat.le_of_ble_eq_true rfl) (Nat.le_of_ble_eq_true rfl) ?_
  have hP : sm_NP G 34 ((cI_X4_init_32 (cI_X4_init_31 (sm_s1 I 29 3 2))), (sm_s1 (cR_X4_init_32 (sm_s1 (cR_X4_init_31 (sm_s1 Rf 29 0 30)) 30 0 31)) 30 1 32)) H := hP
  refine lv_dup hx hb dX10_init_34 rfl ?_
  refine sn_callI (As := []) (rest := [.ref (G.2.1 33), .int 2, .ref (G.2.1 30)]) (kc_X4_init_33 (sn_mono hd (by decide)) (sn_mono hr (by decide))) ik_X4_init nl_X10_21 hx hb hml hts hown rfl hl.1 (Nat.le_of_ble_eq_true rfl) (by decide) (by decide) ⟨(Nat.le_of_ble_eq_true rfl), (Nat.le_of_ble_eq_true rfl)⟩ B hP hS dX10_init_35 (fun H locs hP hS => ?_)
  have hP : sm_NP G 34 ((cI_X4_init_33 (cI_X4_init_32 (cI_X4_init_31 (sm_s1 I 29 3 2)))), (cR_X4_init_33 (sm_s1 (cR_X4_init_32 (sm_s1 (cR_X4_init_31 (sm_s1 Rf 29 0 30)) 30 0 31)) 30 1 32))) H := hP
  have hd : ∀ k, 34 ≤ k → (cI_X4_init_33 (cI_X4_init_32 (cI_X4_init_31 (sm_s1 I 29 3 2)))) k = fun _ => 0 := (dI_X4_init_33 (sn_mono hd (by decide)))
  have hr : ∀ k, 34 ≤ k → (cR_X4_init_33 (sm_s1 (cR_X4_init_32 (sm_s1 (cR_X4_init_31 (sm_s1 Rf 29 0 30)) 30 0 31)) 30 1 32)) k = fun _ => 9999 := (dR_X4_init_33 (sn_mono hr (by decide)))
  refine sn_aast (x := 33) (k := 30) (a := 3) (n := 7) hx hb (Or.inl ⟨rfl, rfl⟩) kd_30 (by unfold vp_in; decide) (by decide) (by decide) (sn_anyP (x := 33) kd_33 (by decide) B hP) (by omega) B hP hS dX10_init_38 (fun H locs hP hS => ?_)
  have hP : sm_NP G 34 ((cI_X4_init_33 (cI_X4_init_32 (cI_X4_init_31 (sm_s1 I 29 3 2)))), (sm_s1 (cR_X4_init_33 (sm_s1 (cR_X4_init_32 (sm_s1 (cR_X4_init_31 (sm_s1 Rf 29 0 30)) 30 0 31)) 30 1 32)) 30 2 33)) H := hP
  have hr : ∀ k, 34 ≤ k → (sm_s1 (cR_X4_init_33 (sm_s1 (cR_X4_init_32 (sm_s1 (cR_X4_init_31 (sm_s1 Rf 29 0 30)) 30 0 31)) 30 1 32)) 30 2 33) k = fun _ => 9999 := (sn_dfs (a := 30) (j := 2) (x := 33) hr (t1 := 34) (by decide) (by decide))
  refine lv_iinc (v := 3) (lv' := [(1, .int 3), (0, .ref (G.2.1 29))]) hx hb dX10_init_39 hl (k := 0) rfl (by decide) (by decide) rfl (fun ls hl => ?_)
  refine lv_goto (tgt := 20) hx hb dX10_init_42 (by decide) ?_
  refine lv_iload_n hx hb dX10_init_20 rfl (lv_at hl 0 rfl) ?_
  refine lv_bipush (v := 7) hx hb dX10_init_21 (by decide) ?_
  refine lv_icmp_ge (tgt := 45) hx hb dX10_init_23 (by decide) (fun h => absurd h (by decide)) (fun _ => ?_)
  refine lv_aload_n hx hb dX10_init_26 rfl (lv_at hl 1 rfl) ?_
  refine sn_getR (r := 30) (k := 29) (n := 4) hx hb hts hown fk_X10_11 kd_29 (by decide) (by decide) (by decide +kernel) rfl (by decide) B hP dX10_init_27 ?_
  refine lv_iload_n hx hb dX10_init_30 rfl (lv_at hl 0 rfl) ?_
  refine sn_new (t := 34) (own := RX10) (index := 1) (C := RX4) (T := TX4) (N := 6) (ci := 4) hx hb hts hown kl_X10_1 it_X4 in_X4 (show sm_cs[4]? = some (RX4, TX4, 6) from rfl) uw_X4 tyX4 tyX4_ok df_X4 (by decide) kd_34 B hP hS (hd 34 (by decide)) (hr 34 (by decide)) (Nat.le_of_ble_eq_true rfl) (Nat.le_of_ble_eq_true rfl) dX10_init_31 (fun H hP hS => ?_)
  refine W.widen (k := 5) (n := 31) (Nat.le_of_ble_eq_true rfl) (Nat.le_of_ble_eq_true rfl) ?_
  have hP : sm_NP G 35 ((cI_X4_init_33 (cI_X4_init_32 (cI_X4_init_31 (sm_s1 I 29 3 2)))), (sm_s1 (cR_X4_init_33 (sm_s1 (cR_X4_init_32 (sm_s1 (cR_X4_init_31 (sm_s1 Rf 29 0 30)) 30 0 31)) 30 1 32)) 30 2 33)) H := hP
  refine lv_dup hx hb dX10_init_34 rfl ?_
  refine sn_callI (As := []) (rest := [.ref (G.2.1 34), .int 3, .ref (G.2.1 30)]) (kc_X4_init_34 (sn_mono hd (by decide)) (sn_mono hr (by decide))) ik_X4_init nl_X10_21 hx hb hml hts hown rfl hl.1 (Nat.le_of_ble_eq_true rfl) (by decide) (by decide) ⟨(Nat.le_of_ble_eq_true rfl), (Nat.le_of_ble_eq_true rfl)⟩ B hP hS dX10_init_35 (fun H locs hP hS => ?_)
  have hP : sm_NP G 35 ((cI_X4_init_34 (cI_X4_init_33 (cI_X4_init_32 (cI_X4_init_31 (sm_s1 I 29 3 2))))), (cR_X4_init_34 (sm_s1 (cR_X4_init_33 (sm_s1 (cR_X4_init_32 (sm_s1 (cR_X4_init_31 (sm_s1 Rf 29 0 30)) 30 0 31)) 30 1 32)) 30 2 33))) H := hP
  have hd : ∀ k, 35 ≤ k → (cI_X4_init_34 (cI_X4_init_33 (cI_X4_init_32 (cI_X4_init_31 (sm_s1 I 29 3 2))))) k = fun _ => 0 := (dI_X4_init_34 (sn_mono hd (by decide)))
  have hr : ∀ k, 35 ≤ k → (cR_X4_init_34 (sm_s1 (cR_X4_init_33 (sm_s1 (cR_X4_init_32 (sm_s1 (cR_X4_init_31 (sm_s1 Rf 29 0 30)) 30 0 31)) 30 1 32)) 30 2 33)) k = fun _ => 9999 := (dR_X4_init_34 (sn_mono hr (by decide)))
  refine sn_aast (x := 34) (k := 30) (a := 3) (n := 7) hx hb (Or.inl ⟨rfl, rfl⟩) kd_30 (by unfold vp_in; decide) (by decide) (by decide) (sn_anyP (x := 34) kd_34 (by decide) B hP) (by omega) B hP hS dX10_init_38 (fun H locs hP hS => ?_)
  have hP : sm_NP G 35 ((cI_X4_init_34 (cI_X4_init_33 (cI_X4_init_32 (cI_X4_init_31 (sm_s1 I 29 3 2))))), (sm_s1 (cR_X4_init_34 (sm_s1 (cR_X4_init_33 (sm_s1 (cR_X4_init_32 (sm_s1 (cR_X4_init_31 (sm_s1 Rf 29 0 30)) 30 0 31)) 30 1 32)) 30 2 33)) 30 3 34)) H := hP
  have hr : ∀ k, 35 ≤ k → (sm_s1 (cR_X4_init_34 (sm_s1 (cR_X4_init_33 (sm_s1 (cR_X4_init_32 (sm_s1 (cR_X4_init_31 (sm_s1 Rf 29 0 30)) 30 0 31)) 30 1 32)) 30 2 33)) 30 3 34) k = fun _ => 9999 := (sn_dfs (a := 30) (j := 3) (x := 34) hr (t1 := 35) (by decide) (by decide))
  refine lv_iinc (v := 4) (lv' := [(1, .int 4), (0, .ref (G.2.1 29))]) hx hb dX10_init_39 hl (k := 0) rfl (by decide) (by decide) rfl (fun ls hl => ?_)
  refine lv_goto (tgt := 20) hx hb dX10_init_42 (by decide) ?_
  refine lv_iload_n hx hb dX10_init_20 rfl (lv_at hl 0 rfl) ?_
  refine lv_bipush (v := 7) hx hb dX10_init_21 (by decide) ?_
  refine lv_icmp_ge (tgt := 45) hx hb dX10_init_23 (by decide) (fun h => absurd h (by decide)) (fun _ => ?_)
  refine lv_aload_n hx hb dX10_init_26 rfl (lv_at hl 1 rfl) ?_
  refine sn_getR (r := 30) (k := 29) (n := 4) hx hb hts hown fk_X10_11 kd_29 (by decide) (by decide) (by decide +kernel) rfl (by decide) B hP dX10_init_27 ?_
  refine lv_iload_n hx hb dX10_init_30 rfl (lv_at hl 0 rfl) ?_
  refine sn_new (t := 35) (own := RX10) (index := 1) (C := RX4) (T := TX4) (N := 6) (ci := 4) hx hb hts hown kl_X10_1 it_X4 in_X4 (show sm_cs[4]? = some (RX4, TX4, 6) from rfl) uw_X4 tyX4 tyX4_ok df_X4 (by decide) kd_35 B hP hS (hd 35 (by decide)) (hr 35 (by decide)) (Nat.le_of_ble_eq_true rfl) (Nat.le_of_ble_eq_true rfl) dX10_init_31 (fun H hP hS => ?_)
  refine W.widen (k := 6) (n := 37) (Nat.le_of_ble_eq_true rfl) (Nat.le_of_ble_eq_true rfl) ?_
  have hP : sm_NP G 36 ((cI_X4_init_34 (cI_X4_init_33 (cI_X4_init_32 (cI_X4_init_31 (sm_s1 I 29 3 2))))), (sm_s1 (cR_X4_init_34 (sm_s1 (cR_X4_init_33 (sm_s1 (cR_X4_init_32 (sm_s1 (cR_X4_init_31 (sm_s1 Rf 29 0 30)) 30 0 31)) 30 1 32)) 30 2 33)) 30 3 34)) H := hP
  refine lv_dup hx hb dX10_init_34 rfl ?_
  refine sn_callI (As := []) (rest := [.ref (G.2.1 35), .int 4, .ref (G.2.1 30)]) (kc_X4_init_35 (sn_mono hd (by decide)) (sn_mono hr (by decide))) ik_X4_init nl_X10_21 hx hb hml hts hown rfl hl.1 (Nat.le_of_ble_eq_true rfl) (by decide) (by decide) ⟨(Nat.le_of_ble_eq_true rfl), (Nat.le_of_ble_eq_true rfl)⟩ B hP hS dX10_init_35 (fun H locs hP hS => ?_)
  have hP : sm_NP G 36 ((cI_X4_init_35 (cI_X4_init_34 (cI_X4_init_33 (cI_X4_init_32 (cI_X4_init_31 (sm_s1 I 29 3 2)))))), (cR_X4_init_35 (sm_s1 (cR_X4_init_34 (sm_s1 (cR_X4_init_33 (sm_s1 (cR_X4_init_32 (sm_s1 (cR_X4_init_31 (sm_s1 Rf 29 0 30)) 30 0 31)) 30 1 32)) 30 2 33)) 30 3 34))) H := hP
  have hd : ∀ k, 36 ≤ k → (cI_X4_init_35 (cI_X4_init_34 (cI_X4_init_33 (cI_X4_init_32 (cI_X4_init_31 (sm_s1 I 29 3 2)))))) k = fun _ => 0 := (dI_X4_init_35 (sn_mono hd (by decide)))
  have hr : ∀ k, 36 ≤ k → (cR_X4_init_35 (sm_s1 (cR_X4_init_34 (sm_s1 (cR_X4_init_33 (sm_s1 (cR_X4_init_32 (sm_s1 (cR_X4_init_31 (sm_s1 Rf 29 0 30)) 30 0 31)) 30 1 32)) 30 2 33)) 30 3 34)) k = fun _ => 9999 := (dR_X4_init_35 (sn_mono hr (by decide)))
  refine sn_aast (x := 35) (k := 30) (a := 3) (n := 7) hx hb (Or.inl ⟨rfl, rfl⟩) kd_30 (by unfold vp_in; decide) (by decide) (by decide) (sn_anyP (x := 35) kd_35 (by decide) B hP) (by omega) B hP hS dX10_init_38 (fun H locs hP hS => ?_)
  have hP : sm_NP G 36 ((cI_X4_init_35 (cI_X4_init_34 (cI_X4_init_33 (cI_X4_init_32 (cI_X4_init_31 (sm_s1 I 29 3 2)))))), (sm_s1 (cR_X4_init_35 (sm_s1 (cR_X4_init_34 (sm_s1 (cR_X4_init_33 (sm_s1 (cR_X4_init_32 (sm_s1 (cR_X4_init_31 (sm_s1 Rf 29 0 30)) 30 0 31)) 30 1 32)) 30 2 33)) 30 3 34)) 30 4 35)) H := hP
  have hr : ∀ k, 36 ≤ k → (sm_s1 (cR_X4_init_35 (sm_s1 (cR_X4_init_34 (sm_s1 (cR_X4_init_33 (sm_s1 (cR_X4_init_32 (sm_s1 (cR_X4_init_31 (sm_s1 Rf 29 0 30)) 30 0 31)) 30 1 32)) 30 2 33)) 30 3 34)) 30 4 35) k = fun _ => 9999 := (sn_dfs (a := 30) (j := 4) (x := 35) hr (t1 := 36) (by decide) (by decide))
  refine lv_iinc (v := 5) (lv' := [(1, .int 5), (0, .ref (G.2.1 29))]) hx hb dX10_init_39 hl (k := 0) rfl (by decide) (by decide) rfl (fun ls hl => ?_)
  refine lv_goto (tgt := 20) hx hb dX10_init_42 (by decide) ?_
  refine lv_iload_n hx hb dX10_init_20 rfl (lv_at hl 0 rfl) ?_
  refine lv_bipush (v := 7) hx hb dX10_init_21 (by decide) ?_
  refine lv_icmp_ge (tgt := 45) hx hb dX10_init_23 (by decide) (fun h => absurd h (by decide)) (fun _ => ?_)
  refine lv_aload_n hx hb dX10_init_26 rfl (lv_at hl 1 rfl) ?_
  refine sn_getR (r := 30) (k := 29) (n := 4) hx hb hts hown fk_X10_11 kd_29 (by decide) (by decide) (by decide +kernel) rfl (by decide) B hP dX10_init_27 ?_
  refine lv_iload_n hx hb dX10_init_30 rfl (lv_at hl 0 rfl) ?_
  refine sn_new (t := 36) (own := RX10) (index := 1) (C := RX4) (T := TX4) (N := 6) (ci := 4) hx hb hts hown kl_X10_1 it_X4 in_X4 (show sm_cs[4]? = some (RX4, TX4, 6) from rfl) uw_X4 tyX4 tyX4_ok df_X4 (by decide) kd_36 B hP hS (hd 36 (by decide)) (hr 36 (by decide)) (Nat.le_of_ble_eq_true rfl) (Nat.le_of_ble_eq_true rfl) dX10_init_31 (fun H hP hS => ?_)
  refine W.widen (k := 7) (n := 43) (Nat.le_of_ble_eq_true rfl) (Nat.le_of_ble_eq_true rfl) ?_
  have hP : sm_NP G 37 ((cI_X4_init_35 (cI_X4_init_34 (cI_X4_init_33 (cI_X4_init_32 (cI_X4_init_31 (sm_s1 I 29 3 2)))))), (sm_s1 (cR_X4_init_35 (sm_s1 (cR_X4_init_34 (sm_s1 (cR_X4_init_33 (sm_s1 (cR_X4_init_32 (sm_s1 (cR_X4_init_31 (sm_s1 Rf 29 0 30)) 30 0 31)) 30 1 32)) 30 2 33)) 30 3 34)) 30 4 35)) H := hP
  refine lv_dup hx hb dX10_init_34 rfl ?_
  refine sn_callI (As := []) (rest := [.ref (G.2.1 36), .int 5, .ref (G.2.1 30)]) (kc_X4_init_36 (sn_mono hd (by decide)) (sn_mono hr (by decide))) ik_X4_init nl_X10_21 hx hb hml hts hown rfl hl.1 (Nat.le_of_ble_eq_true rfl) (by decide) (by decide) ⟨(Nat.le_of_ble_eq_true rfl), (Nat.le_of_ble_eq_true rfl)⟩ B hP hS dX10_init_35 (fun H locs hP hS => ?_)
  have hP : sm_NP G 37 ((cI_X4_init_36 (cI_X4_init_35 (cI_X4_init_34 (cI_X4_init_33 (cI_X4_init_32 (cI_X4_init_31 (sm_s1 I 29 3 2))))))), (cR_X4_init_36 (sm_s1 (cR_X4_init_35 (sm_s1 (cR_X4_init_34 (sm_s1 (cR_X4_init_33 (sm_s1 (cR_X4_init_32 (sm_s1 (cR_X4_init_31 (sm_s1 Rf 29 0 30)) 30 0 31)) 30 1 32)) 30 2 33)) 30 3 34)) 30 4 35))) H := hP
  have hd : ∀ k, 37 ≤ k → (cI_X4_init_36 (cI_X4_init_35 (cI_X4_init_34 (cI_X4_init_33 (cI_X4_init_32 (cI_X4_init_31 (sm_s1 I 29 3 2))))))) k = fun _ => 0 := (dI_X4_init_36 (sn_mono hd (by decide)))
  have hr : ∀ k, 37 ≤ k → (cR_X4_init_36 (sm_s1 (cR_X4_init_35 (sm_s1 (cR_X4_init_34 (sm_s1 (cR_X4_init_33 (sm_s1 (cR_X4_init_32 (sm_s1 (cR_X4_init_31 (sm_s1 Rf 29 0 30)) 30 0 31)) 30 1 32)) 30 2 33)) 30 3 34)) 30 4 35)) k = fun _ => 9999 := (dR_X4_init_36 (sn_mono hr (by decide)))
  refine sn_aast (x := 36) (k := 30) (a := 3) (n := 7) hx hb (Or.inl ⟨rfl, rfl⟩) kd_30 (by unfold vp_in; decide) (by decide) (by decide) (sn_anyP (x := 36) kd_36 (by decide) B hP) (by omega) B hP hS dX10_init_38 (fun H locs hP hS => ?_)
  have hP : sm_NP G 37 ((cI_X4_init_36 (cI_X4_init_35 (cI_X4_init_34 (cI_X4_init_33 (cI_X4_init_32 (cI_X4_init_31 (sm_s1 I 29 3 2))))))), (sm_s1 (cR_X4_init_36 (sm_s1 (cR_X4_init_35 (sm_s1 (cR_X4_init_34 (sm_s1 (cR_X4_init_33 (sm_s1 (cR_X4_init_32 (sm_s1 (cR_X4_init_31 (sm_s1 Rf 29 0 30)) 30 0 31)) 30 1 32)) 30 2 33)) 30 3 34)) 30 4 35)) 30 5 36)) H := hP
  have hr : ∀ k, 37 ≤ k → (sm_s1 (cR_X4_init_36 (sm_s1 (cR_X4_init_35 (sm_s1 (cR_X4_init_34 (sm_s1 (cR_X4_init_33 (sm_s1 (cR_X4_init_32 (sm_s1 (cR_X4_init_31 (sm_s1 Rf 29 0 30)) 30 0 31)) 30 1 32)) 30 2 33)) 30 3 34)) 30 4 35)) 30 5 36) k = fun _ => 9999 := (sn_dfs (a := 30) (j := 5) (x := 36) hr (t1 := 37) (by decide) (by decide))
  refine lv_iinc (v := 6) (lv' := [(1, .int 6), (0, .ref (G.2.1 29))]) hx hb dX10_init_39 hl (k := 0) rfl (by decide) (by decide) rfl (fun ls hl => ?_)
  refine lv_goto (tgt := 20) hx hb dX10_init_42 (by decide) ?_
  refine lv_iload_n hx hb dX10_init_20 rfl (lv_at hl 0 rfl) ?_
  refine lv_bipush (v := 7) hx hb dX10_init_21 (by decide) ?_
  refine lv_icmp_ge (tgt := 45) hx hb dX10_init_23 (by decide) (fun h => absurd h (by decide)) (fun _ => ?_)
  refine lv_aload_n hx hb dX10_init_26 rfl (lv_at hl 1 rfl) ?_
  refine sn_getR (r := 30) (k := 29) (n := 4) hx hb hts hown fk_X10_11 kd_29 (by decide) (by decide) (by decide +kernel) rfl (by decide) B hP dX10_init_27 ?_
  refine lv_iload_n hx hb dX10_init_30 rfl (lv_at hl 0 rfl) ?_
  refine sn_new (t := 37) (own := RX10) (index := 1) (C := RX4) (T := TX4) (N := 6) (ci := 4) hx hb hts hown kl_X10_1 it_X4 in_X4 (show sm_cs[4]? = some (RX4, TX4, 6) from rfl) uw_X4 tyX4 tyX4_ok df_X4 (by decide) kd_37 B hP hS (hd 37 (by decide)) (hr 37 (by decide)) (Nat.le_of_ble_eq_true rfl) (Nat.le_of_ble_eq_true rfl) dX10_init_31 (fun H hP hS => ?_)
  refine W.widen (k := 8) (n := 49) (Nat.le_of_ble_eq_true rfl) (Nat.le_of_ble_eq_true rfl) ?_
  have hP : sm_NP G 38 ((cI_X4_init_36 (cI_X4_init_35 (cI_X4_init_34 (cI_X4_init_33 (cI_X4_init_32 (cI_X4_init_31 (sm_s1 I 29 3 2))))))), (sm_s1 (cR_X4_init_36 (sm_s1 (cR_X4_init_35 (sm_s1 (cR_X4_init_34 (sm_s1 (cR_X4_init_33 (sm_s1 (cR_X4_init_32 (sm_s1 (cR_X4_init_31 (sm_s1 Rf 29 0 30)) 30 0 31)) 30 1 32)) 30 2 33)) 30 3 34)) 30 4 35)) 30 5 36)) H := hP
  refine lv_dup hx hb dX10_init_34 rfl ?_
  refine sn_callI (As := []) (rest := [.ref (G.2.1 37), .int 6, .ref (G.2.1 30)]) (kc_X4_init_37 (sn_mono hd (by decide)) (sn_mono hr (by decide))) ik_X4_init nl_X10_21 hx hb hml hts hown rfl hl.1 (Nat.le_of_ble_eq_true rfl) (by decide) (by decide) ⟨(Nat.le_of_ble_eq_true rfl), (Nat.le_of_ble_eq_true rfl)⟩ B hP hS dX10_init_35 (fun H locs hP hS => ?_)
  have hP : sm_NP G 38 ((cI_X4_init_37 (cI_X4_init_36 (cI_X4_init_35 (cI_X4_init_34 (cI_X4_init_33 (cI_X4_init_32 (cI_X4_init_31 (sm_s1 I 29 3 2)))))))), (cR_X4_init_37 (sm_s1 (cR_X4_init_36 (sm_s1 (cR_X4_init_35 (sm_s1 (cR_X4_init_34 (sm_s1 (cR_X4_init_33 (sm_s1 (cR_X4_init_32 (sm_s1 (cR_X4_init_31 (sm_s1 Rf 29 0 30)) 30 0 31)) 30 1 32)) 30 2 33)) 30 3 34)) 30 4 35)) 30 5 36))) H := hP
  have hd : ∀ k, 38 ≤ k → (cI_X4_init_37 (cI_X4_init_36 (cI_X4_init_35 (cI_X4_init_34 (cI_X4_init_33 (cI_X4_init_32 (cI_X4_init_31 (sm_s1 I 29 3 2)))))))) k = fun _ => 0 := (dI_X4_init_37 (sn_mono hd (by decide)))
  have hr : ∀ k, 38 ≤ k → (cR_X4_init_37 (sm_s1 (cR_X4_init_36 (sm_s1 (cR_X4_init_35 (sm_s1 (cR_X4_init_34 (sm_s1 (cR_X4_init_33 (sm_s1 (cR_X4_init_32 (sm_s1 (cR_X4_init_31 (sm_s1 Rf 29 0 30)) 30 0 31)) 30 1 32)) 30 2 33)) 30 3 34)) 30 4 35)) 30 5 36)) k = fun _ => 9999 := (dR_X4_init_37 (sn_mono hr (by decide)))
  refine sn_aast (x := 37) (k := 30) (a := 3) (n := 7) hx hb (Or.inl ⟨rfl, rfl⟩) kd_30 (by unfold vp_in; decide) (by decide) (by decide) (sn_anyP (x := 37) kd_37 (by decide) B hP) (by omega) B hP hS dX10_init_38 (fun H locs hP hS => ?_)
  have hP : sm_NP G 38 ((cI_X4_init_37 (cI_X4_init_36 (cI_X4_init_35 (cI_X4_init_34 (cI_X4_init_33 (cI_X4_init_32 (cI_X4_init_31 (sm_s1 I 29 3 2)))))))), (sm_s1 (cR_X4_init_37 (sm_s1 (cR_X4_init_36 (sm_s1 (cR_X4_init_35 (sm_s1 (cR_X4_init_34 (sm_s1 (cR_X4_init_33 (sm_s1 (cR_X4_init_32 (sm_s1 (cR_X4_init_31 (sm_s1 Rf 29 0 30)) 30 0 31)) 30 1 32)) 30 2 33)) 30 3 34)) 30 4 35)) 30 5 36)) 30 6 37)) H := hP
  have hr : ∀ k, 38 ≤ k → (sm_s1 (cR_X4_init_37 (sm_s1 (cR_X4_init_36 (sm_s1 (cR_X4_init_35 (sm_s1 (cR_X4_init_34 (sm_s1 (cR_X4_init_33 (sm_s1 (cR_X4_init_32 (sm_s1 (cR_X4_init_31 (sm_s1 Rf 29 0 30)) 30 0 31)) 30 1 32)) 30 2 33)) 30 3 34)) 30 4 35)) 30 5 36)) 30 6 37) k = fun _ => 9999 := (sn_dfs (a := 30) (j := 6) (x := 37) hr (t1 := 38) (by decide) (by decide))
  refine lv_iinc (v := 7) (lv' := [(1, .int 7), (0, .ref (G.2.1 29))]) hx hb dX10_init_39 hl (k := 0) rfl (by decide) (by decide) rfl (fun ls hl => ?_)
  refine lv_goto (tgt := 20) hx hb dX10_init_42 (by decide) ?_
  refine lv_iload_n hx hb dX10_init_20 rfl (lv_at hl 0 rfl) ?_
  refine lv_bipush (v := 7) hx hb dX10_init_21 (by decide) ?_
  refine lv_icmp_ge (tgt := 45) hx hb dX10_init_23 (by decide) (fun _ => ?_) (fun h => absurd (by decide) h)
  exact W.vret hx hb hret (fun t9 ht hW => ⟨rfl, by rw [ht]; exact hP, hS.F ht⟩) hS.2.2 dX10_init_45 hlocks
