def cI_X10_init_10 (I : Nat → Nat → Int32) : Nat → Nat → Int32 := (cI_X4_init_18 (cI_X4_init_17 (cI_X4_init_16 (cI_X4_init_15 (cI_X4_init_14 (cI_X4_init_13 (cI_X4_init_12 (sm_s1 I 10 3 2))))))))
def cR_X10_init_10 (Rf : Nat → Nat → Nat) : Nat → Nat → Nat := (sm_s1 (cR_X4_init_18 (sm_s1 (cR_X4_init_17 (sm_s1 (cR_X4_init_16 (sm_s1 (cR_X4_init_15 (sm_s1 (cR_X4_init_14 (sm_s1 (cR_X4_init_13 (sm_s1 (cR_X4_init_12 (sm_s1 Rf 10 0 11)) 11 0 12)) 11 1 13)) 11 2 14)) 11 3 15)) 11 4 16)) 11 5 17)) 11 6 18)
theorem dI_X10_init_10 {I : Nat → Nat → Int32} (hd : ∀ k, 11 ≤ k → I k = fun _ => 0) : ∀ k, 19 ≤ k → cI_X10_init_10 I k = fun _ => 0 := sn_mono (dI_X4_init_18 (sn_mono (dI_X4_init_17 (sn_mono (dI_X4_init_16 (sn_mono (dI_X4_init_15 (sn_mono (dI_X4_init_14 (sn_mono (dI_X4_init_13 (sn_mono (dI_X4_init_12 (sn_mono (sn_dfs (a := 10) (j := 3) (x := 2) hd (t1 := 12) (by decide) (by decide)) (by decide))) (by decide))) (by decide))) (by decide))) (by decide))) (by decide))) (by decide))) (by decide)
theorem dR_X10_init_10 {Rf : Nat → Nat → Nat} (hr : ∀ k, 11 ≤ k → Rf k = fun _ => 9999) : ∀ k, 19 ≤ k → cR_X10_init_10 Rf k = fun _ => 9999 := sn_mono (sn_dfs (a := 11) (j := 6) (x := 18) (dR_X4_init_18 (sn_mono (sn_dfs (a := 11) (j := 5) (x := 17) (dR_X4_init_17 (sn_mono (sn_dfs (a := 11) (j := 4) (x := 16) (dR_X4_init_16 (sn_mono (sn_dfs (a := 11) (j := 3) (x := 15) (dR_X4_init_15 (sn_mono (sn_dfs (a := 11) (j := 2) (x := 14) (dR_X4_init_14 (sn_mono (sn_dfs (a := 11) (j := 1) (x := 13) (dR_X4_init_13 (sn_mono (sn_dfs (a := 11) (j := 0) (x := 12) (dR_X4_init_12 (sn_mono (sn_dfs (a := 10) (j := 0) (x := 11) hr (t1 := 12) (by decide) (by decide)) (by decide))) (t1 := 13) (by decide) (by decide)) (by decide))) (t1 := 14) (by decide) (by decide)) (by decide))) (t1 := 15) (by decide) (by decide)) (by decide))) (t1 := 16) (by decide) (by decide)) (by decide))) (t1 := 17) (by decide) (by decide)) (by decide))) (t1 := 18) (by decide) (by decide)) (by decide))) (t1 := 19) (by decide) (by decide)) (by decide)
set_option maxHeartbeats 40000000 in
set_option maxRecDepth 100000 in
theorem kc_X10_init_10 {l : Launch} {I : Nat → Nat → Int32} {Rf : Nat → Nat → Nat} (hd : ∀ k, 11 ≤ k → I k = fun _ => 0) (hr : ∀ k, 11 ≤ k → Rf k = fun _ => 9999) : sm_K l 1 mX10_init [.inr (.inl 10)] 11 (I, Rf) 19 (cI_X10_init_10 I, cR_X10_init_10 Rf) 8 49 := by
  refine sn_meth (by decide) (Nat.le_of_ble_eq_true rfl) rfl ?_
  intro G p e s m args below meth c ls hx hb hml hown hts hret hlocks hin hP B hl
  have hS : va_S (fun q => G.2.1 0 ≤ q) s.heap s.heap [] := va_S.rf
  have hl : lv_has ls 2 [(0, .ref (G.2.1 10))] := hl
  refine lv_aload_n hx hb dX10_init_0 rfl (lv_at hl 0 rfl) ?_
  refine W.objInit hx hb hown (hts _ ol_X10_5) (hts _ ob_im) (hts _ ob_co) rfl (by rw [hml]; exact hl.1) rfl dX10_init_1 (Nat.le_of_ble_eq_true rfl) (Nat.le_of_ble_eq_true rfl) ?_
  refine W.eq (g2 := F0 m 4 ls []) rfl ?_
  refine lv_aload_n hx hb dX10_init_4 rfl (lv_at hl 0 rfl) ?_
  refine lv_bipush (v := 7) hx hb dX10_init_5 (by decide) ?_
  refine sn_anew (t := 11) (a := 3) (n := 7) (C := "BaizeDoor$Player") (x := 7) (own := RX10) (index := 1) hx hb hts hown kl_X10_1 (Or.inl ⟨rfl, rfl⟩) kd_11 (by decide) (by decide) (by decide) B hP hS (hr 11 (by decide)) (Nat.le_of_ble_eq_true rfl) (Nat.le_of_ble_eq_true rfl) dX10_init_7 (fun H hP hS => ?_)
  refine W.widen (k := 1) (n := 7) (Nat.le_of_ble_eq_true rfl) (Nat.le_of_ble_eq_true rfl) ?_
  have hP : sm_NP G 12 (I, Rf) H := hP
  refine sn_putR (x := 11) (k := 10) (n := 4) hx hb hts hown hin fk_X10_11 (fun a => ⟨rfl, rfl⟩) (dw_X10 0 (by decide)) kd_10 (by decide) (by decide) (by decide) (by decide +kernel) (by omega) B hP hS dX10_init_10 (fun H locs hP hS => ?_)
  have hP : sm_NP G 12 (I, (sm_s1 Rf 10 0 11)) H := hP
  have hr : ∀ k, 12 ≤ k → (sm_s1 Rf 10 0 11) k = fun _ => 9999 := (sn_dfs (a := 10) (j := 0) (x := 11) hr (t1 := 12) (by decide) (by decide))
  refine lv_aload_n hx hb dX10_init_13 rfl (lv_at hl 0 rfl) ?_
  refine lv_iconst (v := 2) hx hb dX10_init_14 (by decide) ?_
  refine sn_putI (k := 10) (n := 4) hx hb hts hown hin fk_X10_17 (dw_X10 3 (by decide)) kd_10 (by decide) (by decide) (by decide) (by decide +kernel) B hP hS dX10_init_15 (fun H locs hP hS => ?_)
  have hP : sm_NP G 12 ((sm_s1 I 10 3 2), (sm_s1 Rf 10 0 11)) H := hP
  have hd : ∀ k, 12 ≤ k → (sm_s1 I 10 3 2) k = fun _ => 0 := (sn_dfs (a := 10) (j := 3) (x := 2) hd (t1 := 12) (by decide) (by decide))
  refine lv_iconst (v := 0) hx hb dX10_init_18 (by decide) ?_
  refine lv_istore_n (lv' := [(1, .int 0), (0, .ref (G.2.1 10))]) hx hb dX10_init_19 rfl hl (by decide) rfl (fun ls hl => ?_)
  refine lv_iload_n hx hb dX10_init_20 rfl (lv_at hl 0 rfl) ?_
  refine lv_bipush (v := 7) hx hb dX10_init_21 (by decide) ?_
  refine lv_icmp_ge (tgt := 45) hx hb dX10_init_23 (by decide) (fun h => absurd h (by decide)) (fun _ => ?_)
  refine lv_aload_n hx hb dX10_init_26 rfl (lv_at hl 1 rfl) ?_
  refine sn_getR (r := 11) (k := 10) (n := 4) hx hb hts hown fk_X10_11 kd_10 (by decide) (by decide) (by decide +kernel) rfl (by decide) B hP dX10_init_27 ?_
  refine lv_iload_n hx hb dX10_init_30 rfl (lv_at hl 0 rfl) ?_
  refine sn_new (t := 12) (own := RX10) (index := 1) (C := RX4) (T := TX4) (N := 6) (ci := 4) hx hb hts hown kl_X10_1 it_X4 in_X4 (show sm_cs[4]? = some (RX4, TX4, 6) from rfl) uw_X4 tyX4 tyX4_ok df_X4 (by decide) kd_12 B hP hS (hd 12 (by decide)) (hr 12 (by decide)) (Nat.le_of_ble_eq_true rfl) (Nat.le_of_ble_eq_true rfl) dX10_init_31 (fun H hP hS => ?_)
  refine W.widen (k := 2) (n := 13) (Nat.le_of_ble_eq_true rfl) (Nat.le_of_ble_eq_true rfl) ?_
  have hP : sm_NP G 13 ((sm_s1 I 10 3 2), (sm_s1 Rf 10 0 11)) H := hP
  refine lv_dup hx hb dX10_init_34 rfl ?_
  refine sn_callI (As := []) (rest := [.ref (G.2.1 12), .int 0, .ref (G.2.1 11)]) (kc_X4_init_12 (sn_mono hd (by decide)) (sn_mono hr (by decide))) ik_X4_init nl_X10_21 hx hb hml hts hown rfl hl.1 (Nat.le_of_ble_eq_true rfl) (by decide) (by decide) ⟨(Nat.le_of_ble_eq_true rfl), (Nat.le_of_ble_eq_true rfl)⟩ B hP hS dX10_init_35 (fun H locs hP hS => ?_)
  have hP : sm_NP G 13 ((cI_X4_init_12 (sm_s1 I 10 3 2)), (cR_X4_init_12 (sm_s1 Rf 10 0 11))) H := hP
  have hd : ∀ k, 13 ≤ k → (cI_X4_init_12 (sm_s1 I 10 3 2)) k = fun _ => 0 := (dI_X4_init_12 (sn_mono hd (by decide)))
  have hr : ∀ k, 13 ≤ k → (cR_X4_init_12 (sm_s1 Rf 10 0 11)) k = fun _ => 9999 := (dR_X4_init_12 (sn_mono hr (by decide)))
  refine sn_aast (x := 12) (k := 11) (a := 3) (n := 7) hx hb (Or.inl ⟨rfl, rfl⟩) kd_11 (by unfold vp_in; decide) (by decide) (by decide) (sn_anyP (x := 12) kd_12 (by decide) B hP) (by omega) B hP hS dX10_init_38 (fun H locs hP hS => ?_)
  have hP : sm_NP G 13 ((cI_X4_init_12 (sm_s1 I 10 3 2)), (sm_s1 (cR_X4_init_12 (sm_s1 Rf 10 0 11)) 11 0 12)) H := hP
  have hr : ∀ k, 13 ≤ k → (sm_s1 (cR_X4_init_12 (sm_s1 Rf 10 0 11)) 11 0 12) k = fun _ => 9999 := (sn_dfs (a := 11) (j := 0) (x := 12) hr (t1 := 13) (by decide) (by decide))
  refine lv_iinc (v := 1) (lv' := [(1, .int 1), (0, .ref (G.2.1 10))]) hx hb dX10_init_39 hl (k := 0) rfl (by decide) (by decide) rfl (fun ls hl => ?_)
  refine lv_goto (tgt := 20) hx hb dX10_init_42 (by decide) ?_
  refine lv_iload_n hx hb dX10_init_20 rfl (lv_at hl 0 rfl) ?_
  refine lv_bipush (v := 7) hx hb dX10_init_21 (by decide) ?_
  refine lv_icmp_ge (tgt := 45) hx hb dX10_init_23 (by decide) (fun h => absurd h (by decide)) (fun _ => ?_)
  refine lv_aload_n hx hb dX10_init_26 rfl (lv_at hl 1 rfl) ?_
  refine sn_getR (r := 11) (k := 10) (n := 4) hx hb hts hown fk_X10_11 kd_10 (by decide) (by decide) (by decide +kernel) rfl (by decide) B hP dX10_init_27 ?_
  refine lv_iload_n hx hb dX10_init_30 rfl (lv_at hl 0 rfl) ?_
  refine sn_new (t := 13) (own := RX10) (index := 1) (C := RX4) (T := TX4) (N := 6) (ci := 4) hx hb hts hown kl_X10_1 it_X4 in_X4 (show sm_cs[4]? = some (RX4, TX4, 6) from rfl) uw_X4 tyX4 tyX4_ok df_X4 (by decide) kd_13 B hP hS (hd 13 (by decide)) (hr 13 (by decide)) (Nat.le_of_ble_eq_true rfl) (Nat.le_of_ble_eq_true rfl) dX10_init_31 (fun H hP hS => ?_)
  refine W.widen (k := 3) (n := 19) (Nat.le_of_ble_eq_true rfl) (Nat.le_of_ble_eq_true rfl) ?_
  have hP : sm_NP G 14 ((cI_X4_init_12 (sm_s1 I 10 3 2)), (sm_s1 (cR_X4_init_12 (sm_s1 Rf 10 0 11)) 11 0 12)) H := hP
  refine lv_dup hx hb dX10_init_34 rfl ?_
  refine sn_callI (As := []) (rest := [.ref (G.2.1 13), .int 1, .ref (G.2.1 11)]) (kc_X4_init_13 (sn_mono hd (by decide)) (sn_mono hr (by decide))) ik_X4_init nl_X10_21 hx hb hml hts hown rfl hl.1 (Nat.le_of_ble_eq_true rfl) (by decide) (by decide) ⟨(Nat.le_of_ble_eq_true rfl), (Nat.le_of_ble_eq_true rfl)⟩ B hP hS dX10_init_35 (fun H locs hP hS => ?_)
  have hP : sm_NP G 14 ((cI_X4_init_13 (cI_X4_init_12 (sm_s1 I 10 3 2))), (cR_X4_init_13 (sm_s1 (cR_X4_init_12 (sm_s1 Rf 10 0 11)) 11 0 12))) H := hP
  have hd : ∀ k, 14 ≤ k → (cI_X4_init_13 (cI_X4_init_12 (sm_s1 I 10 3 2))) k = fun _ => 0 := (dI_X4_init_13 (sn_mono hd (by decide)))
  have hr : ∀ k, 14 ≤ k → (cR_X4_init_13 (sm_s1 (cR_X4_init_12 (sm_s1 Rf 10 0 11)) 11 0 12)) k = fun _ => 9999 := (dR_X4_init_13 (sn_mono hr (by decide)))
  refine sn_aast (x := 13) (k := 11) (a := 3) (n := 7) hx hb (Or.inl ⟨rfl, rfl⟩) kd_11 (by unfold vp_in; decide) (by decide) (by decide) (sn_anyP (x := 13) kd_13 (by decide) B hP) (by omega) B hP hS dX10_init_38 (fun H locs hP hS => ?_)
  have hP : sm_NP G 14 ((cI_X4_init_13 (cI_X4_init_12 (sm_s1 I 10 3 2))), (sm_s1 (cR_X4_init_13 (sm_s1 (cR_X4_init_12 (sm_s1 Rf 10 0 11)) 11 0 12)) 11 1 13)) H := hP
  have hr : ∀ k, 14 ≤ k → (sm_s1 (cR_X4_init_13 (sm_s1 (cR_X4_init_12 (sm_s1 Rf 10 0 11)) 11 0 12)) 11 1 13) k = fun _ => 9999 := (sn_dfs (a := 11) (j := 1) (x := 13) hr (t1 := 14) (by decide) (by decide))
  refine lv_iinc (v := 2) (lv' := [(1, .int 2), (0, .ref (G.2.1 10))]) hx hb dX10_init_39 hl (k := 0) rfl (by decide) (by decide) rfl (fun ls hl => ?_)
  refine lv_goto (tgt := 20) hx hb dX10_init_42 (by decide) ?_
  refine lv_iload_n hx hb dX10_init_20 rfl (lv_at hl 0 rfl) ?_
  refine lv_bipush (v := 7) hx hb dX10_init_21 (by decide) ?_
  refine lv_icmp_ge (tgt := 45) hx hb dX10_init_23 (by decide) (fun h => absurd h (by decide)) (fun _ => ?_)
  refine lv_aload_n hx hb dX10_init_26 rfl (lv_at hl 1 rfl) ?_
  refine sn_getR (r := 11) (k := 10) (n := 4) hx hb hts hown fk_X10_11 kd_10 (by decide) (by decide) (by decide +kernel) rfl (by decide) B hP dX10_init_27 ?_
  refine lv_iload_n hx hb dX10_init_30 rfl (lv_at hl 0 rfl) ?_
  refine sn_new (t := 14) (own := RX10) (index := 1) (C := RX4) (T := TX4) (N := 6) (ci := 4) hx hb hts hown kl_X10_1 it_X4 in_X4 (show sm_cs[4]? = some (RX4, TX4, 6) from rfl) uw_X4 tyX4 tyX4_ok df_X4 (by decide) kd_14 B hP hS (hd 14 (by decide)) (hr 14 (by decide)) (Nat.le_of_ble_eq_true rfl) (Nat.le_of_ble_eq_true rfl) dX10_init_31 (fun H hP hS => ?_)
  refine W.widen (k := 4) (n := 25) (Nat.le_of_ble_eq_true rfl) (Nat.le_of_ble_eq_true rfl) ?_
  have hP : sm_NP G 15 ((cI_X4_init_13 (cI_X4_init_12 (sm_s1 I 10 3 2))), (sm_s1 (cR_X4_init_13 (sm_s1 (cR_X4_init_12 (sm_s1 Rf 10 0 11)) 11 0 12)) 11 1 13)) H := hP
  refine lv_dup hx hb dX10_init_34 rfl ?_
  refine sn_callI (As := []) (rest := [.ref (G.2.1 14), .int 2, .ref (G.2.1 11)]) (kc_X4_init_14 (sn_mono hd (by decide)) (sn_mono hr (by decide))) ik_X4_init nl_X10_21 hx hb hml hts hown rfl hl.1 (Nat.le_of_ble_eq_true rfl) (by decide) (by decide) ⟨(Nat.le_of_ble_eq_true rfl), (Nat.le_of_ble_eq_true rfl)⟩ B hP hS dX10_init_35 (fun H locs hP hS => ?_)
  have hP : sm_NP G 15 ((cI_X4_init_14 (cI_X4_init_13 (cI_X4_init_12 (sm_s1 I 10 3 2)))), (cR_X4_init_14 (sm_s1 (cR_X4_init_13 (sm_s1 (cR_X4_init_12 (sm_s1 Rf 10 0 11)) 11 0 12)) 11 1 13))) H := hP
  have hd : ∀ k, 15 ≤ k → (cI_X4_init_14 (cI_X4_init_13 (cI_X4_init_12 (sm_s1 I 10 3 2)))) k = fun _ => 0 := (dI_X4_init_14 (sn_mono hd (by decide)))
  have hr : ∀ k, 15 ≤ k → (cR_X4_init_14 (sm_s1 (cR_X4_init_13 (sm_s1 (cR_X4_init_12 (sm_s1 Rf 10 0 11)) 11 0 12)) 11 1 13)) k = fun _ => 9999 := (dR_X4_init_14 (sn_mono hr (by decide)))
  refine sn_aast (x := 14) (k := 11) (a := 3) (n := 7) hx hb (Or.inl ⟨rfl, rfl⟩) kd_11 (by unfold vp_in; decide) (by decide) (by decide) (sn_anyP (x := 14) kd_14 (by decide) B hP) (by omega) B hP hS dX10_init_38 (fun H locs hP hS => ?_)
  have hP : sm_NP G 15 ((cI_X4_init_14 (cI_X4_init_13 (cI_X4_init_12 (sm_s1 I 10 3 2)))), (sm_s1 (cR_X4_init_14 (sm_s1 (cR_X4_init_13 (sm_s1 (cR_X4_init_12 (sm_s1 Rf 10 0 11)) 11 0 12)) 11 1 13)) 11 2 14)) H := hP
  have hr : ∀ k, 15 ≤ k → (sm_s1 (cR_X4_init_14 (sm_s1 (cR_X4_init_13 (sm_s1 (cR_X4_init_12 (sm_s1 Rf 10 0 11)) 11 0 12)) 11 1 13)) 11 2 14) k = fun _ => 9999 := (sn_dfs (a := 11) (j := 2) (x := 14) hr (t1 := 15) (by decide) (by decide))
  refine lv_iinc (v := 3) (lv' := [(1, .int 3), (0, .ref (G.2.1 10))]) hx hb dX10_init_39 hl (k := 0) rfl (by decide) (by decide) rfl (fun ls hl => ?_)
  refine lv_goto (tgt := 20) hx hb dX10_init_42 (by decide) ?_
  refine lv_iload_n hx hb dX10_init_20 rfl (lv_at hl 0 rfl) ?_
  refine lv_bipush (v := 7) hx hb dX10_init_21 (by decide) ?_
  refine lv_icmp_ge (tgt := 45) hx hb dX10_init_23 (by decide) (fun h => absurd h (by decide)) (fun _ => ?_)
  refine lv_aload_n hx hb dX10_init_26 rfl (lv_at hl 1 rfl) ?_
  refine sn_getR (r := 11) (k := 10) (n := 4) hx hb hts hown fk_X10_11 kd_10 (by decide) (by decide) (by decide +kernel) rfl (by decide) B hP dX10_init_27 ?_
  refine lv_iload_n hx hb dX10_init_30 rfl (lv_at hl 0 rfl) ?_
  refine sn_new (t := 15) (own := RX10) (index := 1) (C := RX4) (T := TX4) (N := 6) (ci := 4) hx hb hts hown kl_X10_1 it_X4 in_X4 (show sm_cs[4]? = some (RX4, TX4, 6) from rfl) uw_X4 tyX4 tyX4_ok df_X4 (by decide) kd_15 B hP hS (hd 15 (by decide)) (hr 15 (by decide)) (Nat.le_of_ble_eq_true rfl) (Nat.le_of_ble_eq_true rfl) dX10_init_31 (fun H hP hS => ?_)
  refine W.widen (k := 5) (n := 31) (Nat.le_of_ble_eq_true rfl) (Nat.le_of_ble_eq_true rfl) ?_
  have hP : sm_NP G 16 ((cI_X4_init_14 (cI_X4_init_13 (cI_X4_init_12 (sm_s1 I 10 3 2)))), (sm_s1 (cR_X4_init_14 (sm_s1 (cR_X4_init_13 (sm_s1 (cR_X4_init_12 (sm_s1 Rf 10 0 11)) 11 0 12)) 11 1 13)) 11 2 14)) H := hP
  refine lv_dup hx hb dX10_init_34 rfl ?_
  refine sn_callI (As := []) (rest := [.ref (G.2.1 15), .int 3, .ref (G.2.1 11)]) (kc_X4_init_15 (sn_mono hd (by decide)) (sn_mono hr (by decide))) ik_X4_init nl_X10_21 hx hb hml hts hown rfl hl.1 (Nat.le_of_ble_eq_true rfl) (by decide) (by decide) ⟨(Nat.le_of_ble_eq_true rfl), (Nat.le_of_ble_eq_true rfl)⟩ B hP hS dX10_init_35 (fun H locs hP hS => ?_)
  have hP : sm_NP G 16 ((cI_X4_init_15 (cI_X4_init_14 (cI_X4_init_13 (cI_X4_init_12 (sm_s1 I 10 3 2))))), (cR_X4_init_15 (sm_s1 (cR_X4_init_14 (sm_s1 (cR_X4_init_13 (sm_s1 (cR_X4_init_12 (sm_s1 Rf 10 0 11)) 11 0 12)) 11 1 13)) 11 2 14))) H := hP
  have hd : ∀ k, 16 ≤ k → (cI_X4_init_15 (cI_X4_init_14 (cI_X4_init_13 (cI_X4_init_12 (sm_s1 I 10 3 2))))) k = fun _ => 0 := (dI_X4_init_15 (sn_mono hd (by decide)))
  have hr : ∀ k, 16 ≤ k → (cR_X4_init_15 (sm_s1 (cR_X4_init_14 (sm_s1 (cR_X4_init_13 (sm_s1 (cR_X4_init_12 (sm_s1 Rf 10 0 11)) 11 0 12)) 11 1 13)) 11 2 14)) k = fun _ => 9999 := (dR_X4_init_15 (sn_mono hr (by decide)))
  refine sn_aast (x := 15) (k := 11) (a := 3) (n := 7) hx hb (Or.inl ⟨rfl, rfl⟩) kd_11 (by unfold vp_in; decide) (by decide) (by decide) (sn_anyP (x := 15) kd_15 (by decide) B hP) (by omega) B hP hS dX10_init_38 (fun H locs hP hS => ?_)
  have hP : sm_NP G 16 ((cI_X4_init_15 (cI_X4_init_14 (cI_X4_init_13 (cI_X4_init_12 (sm_s1 I 10 3 2))))), (sm_s1 (cR_X4_init_15 (sm_s1 (cR_X4_init_14 (sm_s1 (cR_X4_init_13 (sm_s1 (cR_X4_init_12 (sm_s1 Rf 10 0 11)) 11 0 12)) 11 1 13)) 11 2 14)) 11 3 15)) H := hP
  have hr : ∀ k, 16 ≤ k → (sm_s1 (cR_X4_init_15 (sm_s1 (cR_X4_init_14 (sm_s1 (cR_X4_init_13 (sm_s1 (cR_X4_init_12 (sm_s1 Rf 10 0 11)) 11 0 12)) 11 1 13)) 11 2 14)) 11 3 15) k = fun _ => 9999 := (sn_dfs (a := 11) (j := 3) (x := 15) hr (t1 := 16) (by decide) (by decide))
  refine lv_iinc (v := 4) (lv' := [(1, .int 4), (0, .ref (G.2.1 10))]) hx hb dX10_init_39 hl (k := 0) rfl (by decide) (by decide) rfl (fun ls hl => ?_)
  refine lv_goto (tgt := 20) hx hb dX10_init_42 (by decide) ?_
  refine lv_iload_n hx hb dX10_init_20 rfl (lv_at hl 0 rfl) ?_
  refine lv_bipush (v := 7) hx hb dX10_init_21 (by decide) ?_
  refine lv_icmp_ge (tgt := 45) hx hb dX10_init_23 (by decide) (fun h => absurd h (by decide)) (fun _ => ?_)
  refine lv_aload_n hx hb dX10_init_26 rfl (lv_at hl 1 rfl) ?_
  refine sn_getR (r := 11) (k := 10) (n := 4) hx hb hts hown fk_X10_11 kd_10 (by decide) (by decide) (by decide +kernel) rfl (by decide) B hP dX10_init_27 ?_
  refine lv_iload_n hx hb dX10_init_30 rfl (lv_at hl 0 rfl) ?_
  refine sn_new (t := 16) (own := RX10) (index := 1) (C := RX4) (T := TX4) (N := 6) (ci := 4) hx hb hts hown kl_X10_1 it_X4 in_X4 (show sm_cs[4]? = some (RX4, TX4, 6) from rfl) uw_X4 tyX4 tyX4_ok df_X4 (by decide) kd_16 B hP hS (hd 16 (by decide)) (hr 16 (by decide)) (Nat.le_of_ble_eq_true rfl) (Nat.le_of_ble_eq_true rfl) dX10_init_31 (fun H hP hS => ?_)
  refine W.widen (k := 6) (n := 37) (Nat.le_of_ble_eq_true rfl) (Nat.le_of_ble_eq_true rfl) ?_
  have hP : sm_NP G 17 ((cI_X4_init_15 (cI_X4_init_14 (cI_X4_init_13 (cI_X4_init_12 (sm_s1 I 10 3 2))))), (sm_s1 (cR_X4_init_15 (sm_s1 (cR_X4_init_14 (sm_s1 (cR_X4_init_13 (sm_s1 (cR_X4_init_12 (sm_s1 Rf 10 0 11)) 11 0 12)) 11 1 13)) 11 2 14)) 11 3 15)) H := hP
  refine lv_dup hx hb dX10_init_34 rfl ?_
  refine sn_callI (As := []) (rest := [.ref (G.2.1 16), .int 4, .ref (G.2.1 11)]) (kc_X4_init_16 (sn_mono hd (by decide)) (sn_mono hr (by decide))) ik_X4_init nl_X10_21 hx hb hml hts hown rfl hl.1 (Nat.le_of_ble_eq_true rfl) (by decide) (by decide) ⟨(Nat.le_of_ble_eq_true rfl), (Nat.le_of_ble_eq_true rfl)⟩ B hP hS dX10_init_35 (fun H locs hP hS => ?_)
  have hP : sm_NP G 17 ((cI_X4_init_16 (cI_X4_init_15 (cI_X4_init_14 (cI_X4_init_13 (cI_X4_init_12 (sm_s1 I 10 3 2)))))), (cR_X4_init_16 (sm_s1 (cR_X4_init_15 (sm_s1 (cR_X4_init_14 (sm_s1 (cR_X4_init_13 (sm_s1 (cR_X4_init_12 (sm_s1 Rf 10 0 11)) 11 0 12)) 11 1 13)) 11 2 14)) 11 3 15))) H := hP
  have hd : ∀ k, 17 ≤ k → (cI_X4_init_16 (cI_X4_init_15 (cI_X4_init_14 (cI_X4_init_13 (cI_X4_init_12 (sm_s1 I 10 3 2)))))) k = fun _ => 0 := (dI_X4_init_16 (sn_mono hd (by decide)))
  have hr : ∀ k, 17 ≤ k → (cR_X4_init_16 (sm_s1 (cR_X4_init_15 (sm_s1 (cR_X4_init_14 (sm_s1 (cR_X4_init_13 (sm_s1 (cR_X4_init_12 (sm_s1 Rf 10 0 11)) 11 0 12)) 11 1 13)) 11 2 14)) 11 3 15)) k = fun _ => 9999 := (dR_X4_init_16 (sn_mono hr (by decide)))
  refine sn_aast (x := 16) (k := 11) (a := 3) (n := 7) hx hb (Or.inl ⟨rfl, rfl⟩) kd_11 (by unfold vp_in; decide) (by decide) (by decide) (sn_anyP (x := 16) kd_16 (by decide) B hP) (by omega) B hP hS dX10_init_38 (fun H locs hP hS => ?_)
  have hP : sm_NP G 17 ((cI_X4_init_16 (cI_X4_init_15 (cI_X4_init_14 (cI_X4_init_13 (cI_X4_init_12 (sm_s1 I 10 3 2)))))), (sm_s1 (cR_X4_init_16 (sm_s1 (cR_X4_init_15 (sm_s1 (cR_X4_init_14 (sm_s1 (cR_X4_init_13 (sm_s1 (cR_X4_init_12 (sm_s1 Rf 10 0 11)) 11 0 12)) 11 1 13)) 11 2 14)) 11 3 15)) 11 4 16)) H := hP
  have hr : ∀ k, 17 ≤ k → (sm_s1 (cR_X4_init_16 (sm_s1 (cR_X4_init_15 (sm_s1 (cR_X4_init_14 (sm_s1 (cR_X4_init_13 (sm_s1 (cR_X4_init_12 (sm_s1 Rf 10 0 11)) 11 0 12)) 11 1 13)) 11 2 14)) 11 3 15)) 11 4 16) k = fun _ => 9999 := (sn_dfs (a := 11) (j := 4) (x := 16) hr (t1 := 17) (by decide) (by decide))
  refine lv_iinc (v := 5) (lv' := [(1, .int 5), (0, .ref (G.2.1 10))]) hx hb dX10_init_39 hl (k := 0) rfl (by decide) (by decide) rfl (fun ls hl => ?_)
  refine lv_goto (tgt := 20) hx hb dX10_init_42 (by decide) ?_
  refine lv_iload_n hx hb dX10_init_20 rfl (lv_at hl 0 rfl) ?_
  refine lv_bipush (v := 7) hx hb dX10_init_21 (by decide) ?_
  refine lv_icmp_ge (tgt := 45) hx hb dX10_init_23 (by decide) (fun h => absurd h (by decide)) (fun _ => ?_)
  refine lv_aload_n hx hb dX10_init_26 rfl (lv_at hl 1 rfl) ?_
  refine sn_getR (r := 11) (k := 10) (n := 4) hx hb hts hown fk_X10_11 kd_10 (by decide) (by decide) (by decide +kernel) rfl (by decide) B hP dX10_init_27 ?_
  refine lv_iload_n hx hb dX10_init_30 rfl (lv_at hl 0 rfl) ?_
  refine sn_new (t := 17) (own := RX10) (index := 1) (C := RX4) (T := TX4) (N := 6) (ci := 4) hx hb hts hown kl_X10_1 it_X4 in_X4 (show sm_cs[4]? = some (RX4, TX4, 6) from rfl) uw_X4 tyX4 tyX4_ok df_X4 (by decide) kd_17 B hP hS (hd 17 (by decide)) (hr 17 (by decide)) (Nat.le_of_ble_eq_true rfl) (Nat.le_of_ble_eq_true rfl) dX10_init_31 (fun H hP hS => ?_)
  refine W.widen (k := 7) (n := 43) (Nat.le_of_ble_eq_true rfl) (Nat.le_of_ble_eq_true rfl) ?_
  have hP : sm_NP G 18 ((cI_X4_init_16 (cI_X4_init_15 (cI_X4_init_14 (cI_X4_init_13 (cI_X4_init_12 (sm_s1 I 10 3 2)))))), (sm_s1 (cR_X4_init_16 (sm_s1 (cR_X4_init_15 (sm_s1 (cR_X4_init_14 (sm_s1 (cR_X4_init_13 (sm_s1 (cR_X4_init_12 (sm_s1 Rf 10 0 11)) 11 0 12)) 11 1 13)) 11 2 14)) 11 3 15)) 11 4 16)) H := hP
  refine lv_dup hx hb dX10_init_34 rfl ?_
  refine sn_callI (As := []) (rest := [.ref (G.2.1 17), .int 5, .ref (G.2.1 11)]) (kc_X4_init_17 (sn_mono hd (by decide)) (sn_mono hr (by decide))) ik_X4_init nl_X10_21 hx hb hml hts hown rfl hl.1 (Nat.le_of_ble_eq_true rfl) (by decide) (by decide) ⟨(Nat.le_of_ble_eq_true rfl), (Nat.le_of_ble_eq_true rfl)⟩ B hP hS dX10_init_35 (fun H locs hP hS => ?_)
  have hP : sm_NP G 18 ((cI_X4_init_17 (cI_X4_init_16 (cI_X4_init_15 (cI_X4_init_14 (cI_X4_init_13 (cI_X4_init_12 (sm_s1 I 10 3 2))))))), (cR_X4_init_17 (sm_s1 (cR_X4_init_16 (sm_s1 (cR_X4_init_15 (sm_s1 (cR_X4_init_14 (sm_s1 (cR_X4_init_13 (sm_s1 (cR_X4_init_12 (sm_s1 Rf 10 0 11)) 11 0 12)) 11 1 13)) 11 2 14)) 11 3 15)) 11 4 16))) H := hP
  have hd : ∀ k, 18 ≤ k → (cI_X4_init_17 (cI_X4_init_16 (cI_X4_init_15 (cI_X4_init_14 (cI_X4_init_13 (cI_X4_init_12 (sm_s1 I 10 3 2))))))) k = fun _ => 0 := (dI_X4_init_17 (sn_mono hd (by decide)))
  have hr : ∀ k, 18 ≤ k → (cR_X4_init_17 (sm_s1 (cR_X4_init_16 (sm_s1 (cR_X4_init_15 (sm_s1 (cR_X4_init_14 (sm_s1 (cR_X4_init_13 (sm_s1 (cR_X4_init_12 (sm_s1 Rf 10 0 11)) 11 0 12)) 11 1 13)) 11 2 14)) 11 3 15)) 11 4 16)) k = fun _ => 9999 := (dR_X4_init_17 (sn_mono hr (by decide)))
  refine sn_aast (x := 17) (k := 11) (a := 3) (n := 7) hx hb (Or.inl ⟨rfl, rfl⟩) kd_11 (by unfold vp_in; decide) (by decide) (by decide) (sn_anyP (x := 17) kd_17 (by decide) B hP) (by omega) B hP hS dX10_init_38 (fun H locs hP hS => ?_)
  have hP : sm_NP G 18 ((cI_X4_init_17 (cI_X4_init_16 (cI_X4_init_15 (cI_X4_init_14 (cI_X4_init_13 (cI_X4_init_12 (sm_s1 I 10 3 2))))))), (sm_s1 (cR_X4_init_17 (sm_s1 (cR_X4_init_16 (sm_s1 (cR_X4_init_15 (sm_s1 (cR_X4_init_14 (sm_s1 (cR_X4_init_13 (sm_s1 (cR_X4_init_12 (sm_s1 Rf 10 0 11)) 11 0 12)) 11 1 13)) 11 2 14)) 11 3 15)) 11 4 16)) 11 5 17)) H := hP
  have hr : ∀ k, 18 ≤ k → (sm_s1 (cR_X4_init_17 (sm_s1 (cR_X4_init_16 (sm_s1 (cR_X4_init_15 (sm_s1 (cR_X4_init_14 (sm_s1 (cR_X4_init_13 (sm_s1 (cR_X4_init_12 (sm_s1 Rf 10 0 11)) 11 0 12)) 11 1 13)) 11 2 14)) 11 3 15)) 11 4 16)) 11 5 17) k = fun _ => 9999 := (sn_dfs (a := 11) (j := 5) (x := 17) hr (t1 := 18) (by decide) (by decide))
  refine lv_iinc (v := 6) (lv' := [(1, .int 6), (0, .ref (G.2.1 10))]) hx hb dX10_init_39 hl (k := 0) rfl (by decide) (by decide) rfl (fun ls hl => ?_)
  refine lv_goto (tgt := 20) hx hb dX10_init_42 (by decide) ?_
  refine lv_iload_n hx hb dX10_init_20 rfl (lv_at hl 0 rfl) ?_
  refine lv_bipush (v := 7) hx hb dX10_init_21 (by decide) ?_
  refine lv_icmp_ge (tgt := 45) hx hb dX10_init_23 (by decide) (fun h => absurd h (by decide)) (fun _ => ?_)
  refine lv_aload_n hx hb dX10_init_26 rfl (lv_at hl 1 rfl) ?_
  refine sn_getR (r := 11) (k := 10) (n := 4) hx hb hts hown fk_X10_11 kd_10 (by decide) (by decide) (by decide +kernel) rfl (by decide) B hP dX10_init_27 ?_
  refine lv_iload_n hx hb dX10_init_30 rfl (lv_at hl 0 rfl) ?_
  refine sn_new (t := 18) (own := RX10) (index := 1) (C := RX4) (T := TX4) (N := 6) (ci := 4) hx hb hts hown kl_X10_1 it_X4 in_X4 (show sm_cs[4]? = some (RX4, TX4, 6) from rfl) uw_X4 tyX4 tyX4_ok df_X4 (by decide) kd_18 B hP hS (hd 18 (by decide)) (hr 18 (by decide)) (Nat.le_of_ble_eq_true rfl) (Nat.le_of_ble_eq_true rfl) dX10_init_31 (fun H hP hS => ?_)
  refine W.widen (k := 8) (n := 49) (Nat.le_of_ble_eq_true rfl) (Nat.le_of_ble_eq_true rfl) ?_
  have hP : sm_NP G 19 ((cI_X4_init_17 (cI_X4_init_16 (cI_X4_init_15 (cI_X4_init_14 (cI_X4_init_13 (cI_X4_init_12 (sm_s1 I 10 3 2))))))), (sm_s1 (cR_X4_init_17 (sm_s1 (cR_X4_init_16 (sm_s1 (cR_X4_init_15 (sm_s1 (cR_X4_init_14 (sm_s1 (cR_X4_init_13 (sm_s1 (cR_X4_init_12 (sm_s1 Rf 10 0 11)) 11 0 12)) 11 1 13)) 11 2 14)) 11 3 15)) 11 4 16)) 11 5 17)) H := hP
  refine lv_dup hx hb dX10_init_34 rfl ?_
  refine sn_callI (As := []) (rest := [.ref (G.2.1 18), .int 6, .ref (G.2.1 11)]) (kc_X4_init_18 (sn_mono hd (by decide)) (sn_mono hr (by decide))) ik_X4_init nl_X10_21 hx hb hml hts hown rfl hl.1 (Nat.le_of_ble_eq_true rfl) (by decide) (by decide) ⟨(Nat.le_of_ble_eq_true rfl), (Nat.le_of_ble_eq_true rfl)⟩ B hP hS dX10_init_35 (fun H locs hP hS => ?_)
  have hP : sm_NP G 19 ((cI_X4_init_18 (cI_X4_init_17 (cI_X4_init_16 (cI_X4_init_15 (cI_X4_init_14 (cI_X4_init_13 (cI_X4_init_12 (sm_s1 I 10 3 2)))))))), (cR_X4_init_18 (sm_s1 (cR_X4_init_17 (sm_s1 (cR_X4_init_16 (sm_s1 (cR_X4_init_15 (sm_s1 (cR_X4_init_14 (sm_s1 (cR_X4_init_13 (sm_s1 (cR_X4_init_12 (sm_s1 Rf 10 0 11)) 11 0 12)) 11 1 13)) 11 2 14)) 11 3 15)) 11 4 16)) 11 5 17))) H := hP
  have hd : ∀ k, 19 ≤ k → (cI_X4_init_18 (cI_X4_init_17 (cI_X4_init_16 (cI_X4_init_15 (cI_X4_init_14 (cI_X4_init_13 (cI_X4_init_12 (sm_s1 I 10 3 2)))))))) k = fun _ => 0 := (dI_X4_init_18 (sn_mono hd (by decide)))
  have hr : ∀ k, 19 ≤ k → (cR_X4_init_18 (sm_s1 (cR_X4_init_17 (sm_s1 (cR_X4_init_16 (sm_s1 (cR_X4_init_15 (sm_s1 (cR_X4_init_14 (sm_s1 (cR_X4_init_13 (sm_s1 (cR_X4_init_12 (sm_s1 Rf 10 0 11)) 11 0 12)) 11 1 13)) 11 2 14)) 11 3 15)) 11 4 16)) 11 5 17)) k = fun _ => 9999 := (dR_X4_init_18 (sn_mono hr (by decide)))
  refine sn_aast (x := 18) (k := 11) (a := 3) (n := 7) hx hb (Or.inl ⟨rfl, rfl⟩) kd_11 (by unfold vp_in; decide) (by decide) (by decide) (sn_anyP (x := 18) kd_18 (by decide) B hP) (by omega) B hP hS dX10_init_38 (fun H locs hP hS => ?_)
  have hP : sm_NP G 19 ((cI_X4_init_18 (cI_X4_init_17 (cI_X4_init_16 (cI_X4_init_15 (cI_X4_init_14 (cI_X4_init_13 (cI_X4_init_12 (sm_s1 I 10 3 2)))))))), (sm_s1 (cR_X4_init_18 (sm_s1 (cR_X4_init_17 (sm_s1 (cR_X4_init_16 (sm_s1 (cR_X4_init_15 (sm_s1 (cR_X4_init_14 (sm_s1 (cR_X4_init_13 (sm_s1 (cR_X4_init_12 (sm_s1 Rf 10 0 11)) 11 0 12)) 11 1 13)) 11 2 14)) 11 3 15)) 11 4 16)) 11 5 17)) 11 6 18)) H := hP
  have hr : ∀ k, 19 ≤ k → (sm_s1 (cR_X4_init_18 (sm_s1 (cR_X4_init_17 (sm_s1 (cR_X4_init_16 (sm_s1 (cR_X4_init_15 (sm_s1 (cR_X4_init_14 (sm_s1 (cR_X4_init_13 (sm_s1 (cR_X4_init_12 (sm_s1 Rf 10 0 11)) 11 0 12)) 11 1 13)) 11 2 14)) 11 3 15)) 11 4 16)) 11 5 17)) 11 6 18) k = fun _ => 9999 := (sn_dfs (a := 11) (j := 6) (x := 18) hr (t1 := 19) (by decide) (by decide))
  refine lv_iinc (v := 7) (lv' := [(1, .int 7), (0, .ref (G.2.1 10))]) hx hb dX10_init_39 hl (k := 0) rfl (by decide) (by decide) rfl (fun ls hl => ?_)
  refine lv_goto (tgt := 20) hx hb dX10_init_42 (by decide) ?_
  refine lv_iload_n hx hb dX10_init_20 rfl (lv_at hl 0 rfl) ?_
  refine lv_bipush (v := 7) hx hb dX10_init_21 (by decide) ?_
  refine lv_icmp_ge (tgt := 45) hx hb dX10_init_23 (by decide) (fun _ => ?_) (fun h => absurd (by decide) h)
  exact W.vret hx hb hret (fun t9 ht hW => ⟨rfl, by rw [ht]; exact hP, hS.F ht⟩) hS.2.2 dX10_init_45 hlocks
