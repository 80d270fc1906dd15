def cI_X10_init_59 (I : Nat → Nat → Int32) : Nat → Nat → Int32 := (cI_X4_init_67 (cI_X4_init_66 (cI_X4_init_65 (cI_X4_init_64 (cI_X4_init_63 (cI_X4_init_62 (cI_X4_init_61 (sm_s1 I 59 3 2))))))))
def cR_X10_init_59 (Rf : Nat → Nat → Nat) : Nat → Nat → Nat := (sm_s1 (cR_X4_init_67 (sm_s1 (cR_X4_init_66 (sm_s1 (cR_X4_init_65 (sm_s1 (cR_X4_init_64 (sm_s1 (cR_X4_init_63 (sm_s1 (cR_X4_init_62 (sm_s1 (cR_X4_init_61 (sm_s1 Rf 59 0 60)) 60 0 61)) 60 1 62)) 60 2 63)) 60 3 64)) 60 4 65)) 60 5 66)) 60 6 67)
theorem dI_X10_init_59 {I : Nat → Nat → Int32} (hd : ∀ k, 60 ≤ k → I k = fun _ => 0) : ∀ k, 68 ≤ k → cI_X10_init_59 I k = fun _ => 0 := sn_mono (dI_X4_init_67 (sn_mono (dI_X4_init_66 (sn_mono (dI_X4_init_65 (sn_mono (dI_X4_init_64 (sn_mono (dI_X4_init_63 (sn_mono (dI_X4_init_62 (sn_mono (dI_X4_init_61 (sn_mono (sn_dfs (a := 59) (j := 3) (x := 2) hd (t1 := 61) (by decide) (by decide)) (by decide))) (by decide))) (by decide))) (by decide))) (by decide))) (by decide))) (by decide))) (by decide)
theorem dR_X10_init_59 {Rf : Nat → Nat → Nat} (hr : ∀ k, 60 ≤ k → Rf k = fun _ => 9999) : ∀ k, 68 ≤ k → cR_X10_init_59 Rf k = fun _ => 9999 := sn_mono (sn_dfs (a := 60) (j := 6) (x := 67) (dR_X4_init_67 (sn_mono (sn_dfs (a := 60) (j := 5) (x := 66) (dR_X4_init_66 (sn_mono (sn_dfs (a := 60) (j := 4) (x := 65) (dR_X4_init_65 (sn_mono (sn_dfs (a := 60) (j := 3) (x := 64) (dR_X4_init_64 (sn_mono (sn_dfs (a := 60) (j := 2) (x := 63) (dR_X4_init_63 (sn_mono (sn_dfs (a := 60) (j := 1) (x := 62) (dR_X4_init_62 (sn_mono (sn_dfs (a := 60) (j := 0) (x := 61) (dR_X4_init_61 (sn_mono (sn_dfs (a := 59) (j := 0) (x := 60) hr (t1 := 61) (by decide) (by decide)) (by decide))) (t1 := 62) (by decide) (by decide)) (by decide))) (t1 := 63) (by decide) (by decide)) (by decide))) (t1 := 64) (by decide) (by decide)) (by decide))) (t1 := 65) (by decide) (by decide)) (by decide))) (t1 := 66) (by decide) (by decide)) (by decide))) (t1 := 67) (by decide) (by decide)) (by decide))) (t1 := 68) (by decide) (by decide)) (by decide)
set_option maxHeartbeats 40000000 in
set_option maxRecDepth 100000 in
theorem kc_X10_init_59 {l : Launch} {I : Nat → Nat → Int32} {Rf : Nat → Nat → Nat} (hd : ∀ k, 60 ≤ k → I k = fun _ => 0) (hr : ∀ k, 60 ≤ k → Rf k = fun _ => 9999) : sm_K l 1 mX10_init [.inr (.inl 59)] 60 (I, Rf) 68 (cI_X10_init_59 I, cR_X10_init_59 Rf) 8 49 := by
  refine sn_meth (by decide) (Nat.le_of_ble_eq_true rfl) rfl ?_
  intro G p e s m args below meth c ls hx hb hml hown hts hret hlocks hin hP B hl
  have hS : va_S (fun q => G.2.1 0 ≤ q) s.heap s.heap [] := va_S.rf
  have hl : lv_has ls 2 [(0, .ref (G.2.1 59))] := hl
  refine lv_aload_n hx hb dX10_init_0 rfl (lv_at hl 0 rfl) ?_
  refine W.objInit hx hb hown (hts _ ol_X10_5) (hts _ ob_im) (hts _ ob_co) rfl (by rw [hml]; exact hl.1) rfl dX10_init_1 (Nat.le_of_ble_eq_true rfl) (Nat.le_of_ble_eq_true rfl) ?_
  refine W.eq (g2 := F0 m 4 ls []) rfl ?_
  refine lv_aload_n hx hb dX10_init_4 rfl (lv_at hl 0 rfl) ?_
  refine lv_bipush (v := 7) hx hb dX10_init_5 (by decide) ?_
  refine sn_anew (t := 60) (a := 3) (n := 7) (C := "BaizeDoor$Player") (x := 7) (own := RX10) (index := 1) hx hb hts hown kl_X10_1 (Or.inl ⟨rfl, rfl⟩) kd_60 (by decide) (by decide) (by decide) B hP hS (hr 60 (by decide)) (Nat.le_of_ble_eq_true rfl) (Nat.le_of_ble_eq_true rfl) dX10_init_7 (fun H hP hS => ?_)
  refine W.widen (k := 1) (n := 7) (Nat.le_of_ble_eq_true rfl) (Nat.le_of_ble_eq_true rfl) ?_
  have hP : sm_NP G 61 (I, Rf) H := hP
  refine sn_putR (x := 60) (k := 59) (n := 4) hx hb hts hown hin fk_X10_11 (fun a => ⟨rfl, rfl⟩) (dw_X10 0 (by decide)) kd_59 (by decide) (by decide) (by decide) (by decide +kernel) (by omega) B hP hS dX10_init_10 (fun H locs hP hS => ?_)
  have hP : sm_NP G 61 (I, (sm_s1 Rf 59 0 60)) H := hP
  have hr : ∀ k, 61 ≤ k → (sm_s1 Rf 59 0 60) k = fun _ => 9999 := (sn_dfs (a := 59) (j := 0) (x := 60) hr (t1 := 61) (by decide) (by decide))
  refine lv_aload_n hx hb dX10_init_13 rfl (lv_at hl 0 rfl) ?_
  refine lv_iconst (v := 2) hx hb dX10_init_14 (by decide) ?_
  refine sn_putI (k := 59) (n := 4) hx hb hts hown hin fk_X10_17 (dw_X10 3 (by decide)) kd_59 (by decide) (by decide) (by decide) (by decide +kernel) B hP hS dX10_init_15 (fun H locs hP hS => ?_)
  have hP : sm_NP G 61 ((sm_s1 I 59 3 2), (sm_s1 Rf 59 0 60)) H := hP
  have hd : ∀ k, 61 ≤ k → (sm_s1 I 59 3 2) k = fun _ => 0 := (sn_dfs (a := 59) (j := 3) (x := 2) hd (t1 := 61) (by decide) (by decide))
  refine lv_iconst (v := 0) hx hb dX10_init_18 (by decide) ?_
  refine lv_istore_n (lv' := [(1, .int 0), (0, .ref (G.2.1 59))]) hx hb dX10_init_19 rfl hl (by decide) rfl (fun ls hl => ?_)
  refine lv_iload_n hx hb dX10_init_20 rfl (lv_at hl 0 rfl) ?_
  refine lv_bipush (v := 7) hx hb dX10_init_21 (by decide) ?_
  refine lv_icmp_ge (tgt := 45) hx hb dX10_init_23 (by decide) (fun h => absurd h (by decide)) (fun _ => ?_)
  refine lv_aload_n hx hb dX10_init_26 rfl (lv_at hl 1 rfl) ?_
  refine sn_getR (r := 60) (k := 59) (n := 4) hx hb hts hown fk_X10_11 kd_59 (by decide) (by decide) (by decide +kernel) rfl (by decide) B hP dX10_init_27 ?_
  refine lv_iload_n hx hb dX10_init_30 rfl (lv_at hl 0 rfl) ?_
  refine sn_new (t := 61) (own := RX10) (index := 1) (C := RX4) (T := TX4) (N := 6) (ci := 4) hx hb hts hown kl_X10_1 it_X4 in_X4 (show sm_cs[4]? = some (RX4, TX4, 6) from rfl) uw_X4 tyX4 tyX4_ok df_X4 (by decide) kd_61 B hP hS (hd 61 (by decide)) (hr 61 (by decide)) (Nat.le_of_ble_eq_true rfl) (Nat.le_of_ble_eq_true rfl) dX10_init_31 (fun H hP hS => ?_)
  refine W.widen (k := 2) (n := 13) (Nat.le_of_ble_eq_true rfl) (Nat.le_of_ble_eq_true rfl) ?_
  have hP : sm_NP G 62 ((sm_s1 I 59 3 2), (sm_s1 Rf 59 0 60)) H := hP
  refine lv_dup hx hb dX10_init_34 rfl ?_
  refine sn_callI (As := []) (rest := [.ref (G.2.1 61), .int 0, .ref (G.2.1 60)]) (kc_X4_init_61 (sn_mono hd (by decide)) (sn_mono hr (by decide))) ik_X4_init nl_X10_21 hx hb hml hts hown rfl hl.1 (Nat.le_of_ble_eq_true rfl) (by decide) (by decide) ⟨(Nat.le_of_ble_eq_true rfl), (Nat.le_of_ble_eq_true rfl)⟩ B hP hS dX10_init_35 (fun H locs hP hS => ?_)
  have hP : sm_NP G 62 ((cI_X4_init_61 (sm_s1 I 59 3 2)), (cR_X4_init_61 (sm_s1 Rf 59 0 60))) H := hP
  have hd : ∀ k, 62 ≤ k → (cI_X4_init_61 (sm_s1 I 59 3 2)) k = fun _ => 0 := (dI_X4_init_61 (sn_mono hd (by decide)))
  have hr : ∀ k, 62 ≤ k → (cR_X4_init_61 (sm_s1 Rf 59 0 60)) k = fun _ => 9999 := (dR_X4_init_61 (sn_mono hr (by decide)))
  refine sn_aast (x := 61) (k := 60) (a := 3) (n := 7) hx hb (Or.inl ⟨rfl, rfl⟩) kd_60 (by unfold vp_in; decide) (by decide) (by decide) (sn_anyP (x := 61) kd_61 (by decide) B hP) (by omega) B hP hS dX10_init_38 (fun H locs hP hS => ?_)
  have hP : sm_NP G 62 ((cI_X4_init_61 (sm_s1 I 59 3 2)), (sm_s1 (cR_X4_init_61 (sm_s1 Rf 59 0 60)) 60 0 61)) H := hP
  have hr : ∀ k, 62 ≤ k → (sm_s1 (cR_X4_init_61 (sm_s1 Rf 59 0 60)) 60 0 61) k = fun _ => 9999 := (sn_dfs (a := 60) (j := 0) (x := 61) hr (t1 := 62) (by decide) (by decide))
  refine lv_iinc (v := 1) (lv' := [(1, .int 1), (0, .ref (G.2.1 59))]) hx hb dX10_init_39 hl (k := 0) rfl (by decide) (by decide) rfl (fun ls hl => ?_)
  refine lv_goto (tgt := 20) hx hb dX10_init_42 (by decide) ?_
  refine lv_iload_n hx hb dX10_init_20 rfl (lv_at hl 0 rfl) ?_
  refine lv_bipush (v := 7) hx hb dX10_init_21 (by decide) ?_
  refine lv_icmp_ge (tgt := 45) hx hb dX10_init_23 (by decide) (fun h => absurd h (by decide)) (fun _ => ?_)
  refine lv_aload_n hx hb dX10_init_26 rfl (lv_at hl 1 rfl) ?_
  refine sn_getR (r := 60) (k := 59) (n := 4) hx hb hts hown fk_X10_11 kd_59 (by decide) (by decide) (by decide +kernel) rfl (by decide) B hP dX10_init_27 ?_
  refine lv_iload_n hx hb dX10_init_30 rfl (lv_at hl 0 rfl) ?_
  refine sn_new (t := 62) (own := RX10) (index := 1) (C := RX4) (T := TX4) (N := 6) (ci := 4) hx hb hts hown kl_X10_1 it_X4 in_X4 (show sm_cs[4]? = some (RX4, TX4, 6) from rfl) uw_X4 tyX4 tyX4_ok df_X4 (by decide) kd_62 B hP hS (hd 62 (by decide)) (hr 62 (by decide)) (Nat.le_of_ble_eq_true rfl) (Nat.le_of_ble_eq_true rfl) dX10_init_31 (fun H hP hS => ?_)
  refine W.widen (k := 3) (n := 19) (Nat.le_of_ble_eq_true rfl) (Nat.le_of_ble_eq_true rfl) ?_
  have hP : sm_NP G 63 ((cI_X4_init_61 (sm_s1 I 59 3 2)), (sm_s1 (cR_X4_init_61 (sm_s1 Rf 59 0 60)) 60 0 61)) H := hP
  refine lv_dup hx hb dX10_init_34 rfl ?_
  refine sn_callI (As := []) (rest := [.ref (G.2.1 62), .int 1, .ref (G.2.1 60)]) (kc_X4_init_62 (sn_mono hd (by decide)) (sn_mono hr (by decide))) ik_X4_init nl_X10_21 hx hb hml hts hown rfl hl.1 (Nat.le_of_ble_eq_true rfl) (by decide) (by decide) ⟨(Nat.le_of_ble_eq_true rfl), (Nat.le_of_ble_eq_true rfl)⟩ B hP hS dX10_init_35 (fun H locs hP hS => ?_)
  have hP : sm_NP G 63 ((cI_X4_init_62 (cI_X4_init_61 (sm_s1 I 59 3 2))), (cR_X4_init_62 (sm_s1 (cR_X4_init_61 (sm_s1 Rf 59 0 60)) 60 0 61))) H := hP
  have hd : ∀ k, 63 ≤ k → (cI_X4_init_62 (cI_X4_init_61 (sm_s1 I 59 3 2))) k = fun _ => 0 := (dI_X4_init_62 (sn_mono hd (by decide)))
  have hr : ∀ k, 63 ≤ k → (cR_X4_init_62 (sm_s1 (cR_X4_init_61 (sm_s1 Rf 59 0 60)) 60 0 61)) k = fun _ => 9999 := (dR_X4_init_62 (sn_mono hr (by decide)))
  refine sn_aast (x := 62) (k := 60) (a := 3) (n := 7) hx hb (Or.inl ⟨rfl, rfl⟩) kd_60 (by unfold vp_in; decide) (by decide) (by decide) (sn_anyP (x := 62) kd_62 (by decide) B hP) (by omega) B hP hS dX10_init_38 (fun H locs hP hS => ?_)
  have hP : sm_NP G 63 ((cI_X4_init_62 (cI_X4_init_61 (sm_s1 I 59 3 2))), (sm_s1 (cR_X4_init_62 (sm_s1 (cR_X4_init_61 (sm_s1 Rf 59 0 60)) 60 0 61)) 60 1 62)) H := hP
  have hr : ∀ k, 63 ≤ k → (sm_s1 (cR_X4_init_62 (sm_s1 (cR_X4_init_61 (sm_s1 Rf 59 0 60)) 60 0 61)) 60 1 62) k = fun _ => 9999 := (sn_dfs (a := 60) (j := 1) (x := 62) hr (t1 := 63) (by decide) (by decide))
  refine lv_iinc (v := 2) (lv' := [(1, .int 2), (0, .ref (G.2.1 59))]) hx hb dX10_init_39 hl (k := 0) rfl (by decide) (by decide) rfl (fun ls hl => ?_)
  refine lv_goto (tgt := 20) hx hb dX10_init_42 (by decide) ?_
  refine lv_iload_n hx hb dX10_init_20 rfl (lv_at hl 0 rfl) ?_
  refine lv_bipush (v := 7) hx hb dX10_init_21 (by decide) ?_
  refine lv_icmp_ge (tgt := 45) hx hb dX10_init_23 (by decide) (fun h => absurd h (by decide)) (fun _ => ?_)
  refine lv_aload_n hx hb dX10_init_26 rfl (lv_at hl 1 rfl) ?_
  refine sn_getR (r := 60) (k := 59) (n := 4) hx hb hts hown fk_X10_11 kd_59 (by decide) (by decide) (by decide +kernel) rfl (by decide) B hP dX10_init_27 ?_
  refine lv_iload_n hx hb dX10_init_30 rfl (lv_at hl 0 rfl) ?_
  refine sn_new (t := 63) (own := RX10) (index := 1) (C := RX4) (T := TX4) (N := 6) (ci := 4) hx hb hts hown kl_X10_1 it_X4 in_X4 (show sm_cs[4]? = some (RX4, TX4, 6) from rfl) uw_X4 tyX4 tyX4_ok df_X4 (by decide) kd_63 B hP hS (hd 63 (by decide)) (hr 63 (by decide)) (Nat.le_of_ble_eq_true rfl) (Nat.le_of_ble_eq_true rfl) dX10_init_31 (fun H hP hS => ?_)
  refine W.widen (k := 4) (n := 25) (Nat.le_of_ble_eq_true rfl) (Nat.le_of_ble_eq_true rfl) ?_
  have hP : sm_NP G 64 ((cI_X4_init_62 (cI_X4_init_61 (sm_s1 I 59 3 2))), (sm_s1 (cR_X4_init_62 (sm_s1 (cR_X4_init_61 (sm_s1 Rf 59 0 60)) 60 0 61)) 60 1 62)) H := hP
  refine lv_dup hx hb dX10_init_34 rfl ?_
  refine sn_callI (As := []) (rest := [.ref (G.2.1 63), .int 2, .ref (G.2.1 60)]) (kc_X4_init_63 (sn_mono hd (by decide)) (sn_mono hr (by decide))) ik_X4_init nl_X10_21 hx hb hml hts hown rfl hl.1 (Nat.le_of_ble_eq_true rfl) (by decide) (by decide) ⟨(Nat.le_of_ble_eq_true rfl), (Nat.le_of_ble_eq_true rfl)⟩ B hP hS dX10_init_35 (fun H locs hP hS => ?_)
  have hP : sm_NP G 64 ((cI_X4_init_63 (cI_X4_init_62 (cI_X4_init_61 (sm_s1 I 59 3 2)))), (cR_X4_init_63 (sm_s1 (cR_X4_init_62 (sm_s1 (cR_X4_init_61 (sm_s1 Rf 59 0 60)) 60 0 61)) 60 1 62))) H := hP
  have hd : ∀ k, 64 ≤ k → (cI_X4_init_63 (cI_X4_init_62 (cI_X4_init_61 (sm_s1 I 59 3 2)))) k = fun _ => 0 := (dI_X4_init_63 (sn_mono hd (by decide)))
  have hr : ∀ k, 64 ≤ k → (cR_X4_init_63 (sm_s1 (cR_X4_init_62 (sm_s1 (cR_X4_init_61 (sm_s1 Rf 59 0 60)) 60 0 61)) 60 1 62)) k = fun _ => 9999 := (dR_X4_init_63 (sn_mono hr (by decide)))
  refine sn_aast (x := 63) (k := 60) (a := 3) (n := 7) hx hb (Or.inl ⟨rfl, rfl⟩) kd_60 (by unfold vp_in; decide) (by decide) (by decide) (sn_anyP (x := 63) kd_63 (by decide) B hP) (by omega) B hP hS dX10_init_38 (fun H locs hP hS => ?_)
  have hP : sm_NP G 64 ((cI_X4_init_63 (cI_X4_init_62 (cI_X4_init_61 (sm_s1 I 59 3 2)))), (sm_s1 (cR_X4_init_63 (sm_s1 (cR_X4_init_62 (sm_s1 (cR_X4_init_61 (sm_s1 Rf 59 0 60)) 60 0 61)) 60 1 62)) 60 2 63)) H := hP
  have hr : ∀ k, 64 ≤ k → (sm_s1 (cR_X4_init_63 (sm_s1 (cR_X4_init_62 (sm_s1 (cR_X4_init_61 (sm_s1 Rf 59 0 60)) 60 0 61)) 60 1 62)) 60 2 63) k = fun _ => 9999 := (sn_dfs (a := 60) (j := 2) (x := 63) hr (t1 := 64) (by decide) (by decide))
  refine lv_iinc (v := 3) (lv' := [(1, .int 3), (0, .ref (G.2.1 59))]) hx hb dX10_init_39 hl (k := 0) rfl (by decide) (by decide) rfl (fun ls hl => ?_)
  refine lv_goto (tgt := 20) hx hb dX10_init_42 (by decide) ?_
  refine lv_iload_n hx hb dX10_init_20 rfl (lv_at hl 0 rfl) ?_
  refine lv_bipush (v := 7) hx hb dX10_init_21 (by decide) ?_
  refine lv_icmp_ge (tgt := 45) hx hb dX10_init_23 (by decide) (fun h => absurd h (by decide)) (fun _ => ?_)
  refine lv_aload_n hx hb dX10_init_26 rfl (lv_at hl 1 rfl) ?_
  refine sn_getR (r := 60) (k := 59) (n := 4) hx hb hts hown fk_X10_11 kd_59 (by decide) (by decide) (by decide +kernel) rfl (by decide) B hP dX10_init_27 ?_
  refine lv_iload_n hx hb dX10_init_30 rfl (lv_at hl 0 rfl) ?_
  refine sn_new (t := 64) (own := RX10) (index := 1) (C := RX4) (T := TX4) (N := 6) (ci := 4) hx hb hts hown kl_X10_1 it_X4 in_X4 (show sm_cs[4]? = some (RX4, TX4, 6) from rfl) uw_X4 tyX4 tyX4_ok df_X4 (by decide) kd_64 B hP hS (hd 64 (by decide)) (hr 64 (by decide)) (Nat.le_of_ble_eq_true rfl) (Nat.le_of_ble_eq_true rfl) dX10_init_31 (fun H hP hS => ?_)
  refine W.widen (k := 5) (n := 31) (Nat.le_of_ble_eq_true rfl) (Nat.le_of_ble_eq_true rfl) ?_
  have hP : sm_NP G 65 ((cI_X4_init_63 (cI_X4_init_62 (cI_X4_init_61 (sm_s1 I 59 3 2)))), (sm_s1 (cR_X4_init_63 (sm_s1 (cR_X4_init_62 (sm_s1 (cR_X4_init_61 (sm_s1 Rf 59 0 60)) 60 0 61)) 60 1 62)) 60 2 63)) H := hP
  refine lv_dup hx hb dX10_init_34 rfl ?_
  refine sn_callI (As := []) (rest := [.ref (G.2.1 64), .int 3, .ref (G.2.1 60)]) (kc_X4_init_64 (sn_mono hd (by decide)) (sn_mono hr (by decide))) ik_X4_init nl_X10_21 hx hb hml hts hown rfl hl.1 (Nat.le_of_ble_eq_true rfl) (by decide) (by decide) ⟨(Nat.le_of_ble_eq_true rfl), (Nat.le_of_ble_eq_true rfl)⟩ B hP hS dX10_init_35 (fun H locs hP hS => ?_)
  have hP : sm_NP G 65 ((cI_X4_init_64 (cI_X4_init_63 (cI_X4_init_62 (cI_X4_init_61 (sm_s1 I 59 3 2))))), (cR_X4_init_64 (sm_s1 (cR_X4_init_63 (sm_s1 (cR_X4_init_62 (sm_s1 (cR_X4_init_61 (sm_s1 Rf 59 0 60)) 60 0 61)) 60 1 62)) 60 2 63))) H := hP
  have hd : ∀ k, 65 ≤ k → (cI_X4_init_64 (cI_X4_init_63 (cI_X4_init_62 (cI_X4_init_61 (sm_s1 I 59 3 2))))) k = fun _ => 0 := (dI_X4_init_64 (sn_mono hd (by decide)))
  have hr : ∀ k, 65 ≤ k → (cR_X4_init_64 (sm_s1 (cR_X4_init_63 (sm_s1 (cR_X4_init_62 (sm_s1 (cR_X4_init_61 (sm_s1 Rf 59 0 60)) 60 0 61)) 60 1 62)) 60 2 63)) k = fun _ => 9999 := (dR_X4_init_64 (sn_mono hr (by decide)))
  refine sn_aast (x := 64) (k := 60) (a := 3) (n := 7) hx hb (Or.inl ⟨rfl, rfl⟩) kd_60 (by unfold vp_in; decide) (by decide) (by decide) (sn_anyP (x := 64) kd_64 (by decide) B hP) (by omega) B hP hS dX10_init_38 (fun H locs hP hS => ?_)
  have hP : sm_NP G 65 ((cI_X4_init_64 (cI_X4_init_63 (cI_X4_init_62 (cI_X4_init_61 (sm_s1 I 59 3 2))))), (sm_s1 (cR_X4_init_64 (sm_s1 (cR_X4_init_63 (sm_s1 (cR_X4_init_62 (sm_s1 (cR_X4_init_61 (sm_s1 Rf 59 0 60)) 60 0 61)) 60 1 62)) 60 2 63)) 60 3 64)) H := hP
  have hr : ∀ k, 65 ≤ k → (sm_s1 (cR_X4_init_64 (sm_s1 (cR_X4_init_63 (sm_s1 (cR_X4_init_62 (sm_s1 (cR_X4_init_61 (sm_s1 Rf 59 0 60)) 60 0 61)) 60 1 62)) 60 2 63)) 60 3 64) k = fun _ => 9999 := (sn_dfs (a := 60) (j := 3) (x := 64) hr (t1 := 65) (by decide) (by decide))
  refine lv_iinc (v := 4) (lv' := [(1, .int 4), (0, .ref (G.2.1 59))]) hx hb dX10_init_39 hl (k := 0) rfl (by decide) (by decide) rfl (fun ls hl => ?_)
  refine lv_goto (tgt := 20) hx hb dX10_init_42 (by decide) ?_
  refine lv_iload_n hx hb dX10_init_20 rfl (lv_at hl 0 rfl) ?_
  refine lv_bipush (v := 7) hx hb dX10_init_21 (by decide) ?_
  refine lv_icmp_ge (tgt := 45) hx hb dX10_init_23 (by decide) (fun h => absurd h (by decide)) (fun _ => ?_)
  refine lv_aload_n hx hb dX10_init_26 rfl (lv_at hl 1 rfl) ?_
  refine sn_getR (r := 60) (k := 59) (n := 4) hx hb hts hown fk_X10_11 kd_59 (by decide) (by decide) (by decide +kernel) rfl (by decide) B hP dX10_init_27 ?_
  refine lv_iload_n hx hb dX10_init_30 rfl (lv_at hl 0 rfl) ?_
  refine sn_new (t := 65) (own := RX10) (index := 1) (C := RX4) (T := TX4) (N := 6) (ci := 4) hx hb hts hown kl_X10_1 it_X4 in_X4 (show sm_cs[4]? = some (RX4, TX4, 6) from rfl) uw_X4 tyX4 tyX4_ok df_X4 (by decide) kd_65 B hP hS (hd 65 (by decide)) (hr 65 (by decide)) (Nat.le_of_ble_eq_true rfl) (Nat.le_of_ble_eq_true rfl) dX10_init_31 (fun H hP hS => ?_)
  refine W.widen (k := 6) (n := 37) (Nat.le_of_ble_eq_true rfl) (Nat.le_of_ble_eq_true rfl) ?_
  have hP : sm_NP G 66 ((cI_X4_init_64 (cI_X4_init_63 (cI_X4_init_62 (cI_X4_init_61 (sm_s1 I 59 3 2))))), (sm_s1 (cR_X4_init_64 (sm_s1 (cR_X4_init_63 (sm_s1 (cR_X4_init_62 (sm_s1 (cR_X4_init_61 (sm_s1 Rf 59 0 60)) 60 0 61)) 60 1 62)) 60 2 63)) 60 3 64)) H := hP
  refine lv_dup hx hb dX10_init_34 rfl ?_
  refine sn_callI (As := []) (rest := [.ref (G.2.1 65), .int 4, .ref (G.2.1 60)]) (kc_X4_init_65 (sn_mono hd (by decide)) (sn_mono hr (by decide))) ik_X4_init nl_X10_21 hx hb hml hts hown rfl hl.1 (Nat.le_of_ble_eq_true rfl) (by decide) (by decide) ⟨(Nat.le_of_ble_eq_true rfl), (Nat.le_of_ble_eq_true rfl)⟩ B hP hS dX10_init_35 (fun H locs hP hS => ?_)
  have hP : sm_NP G 66 ((cI_X4_init_65 (cI_X4_init_64 (cI_X4_init_63 (cI_X4_init_62 (cI_X4_init_61 (sm_s1 I 59 3 2)))))), (cR_X4_init_65 (sm_s1 (cR_X4_init_64 (sm_s1 (cR_X4_init_63 (sm_s1 (cR_X4_init_62 (sm_s1 (cR_X4_init_61 (sm_s1 Rf 59 0 60)) 60 0 61)) 60 1 62)) 60 2 63)) 60 3 64))) H := hP
  have hd : ∀ k, 66 ≤ k → (cI_X4_init_65 (cI_X4_init_64 (cI_X4_init_63 (cI_X4_init_62 (cI_X4_init_61 (sm_s1 I 59 3 2)))))) k = fun _ => 0 := (dI_X4_init_65 (sn_mono hd (by decide)))
  have hr : ∀ k, 66 ≤ k → (cR_X4_init_65 (sm_s1 (cR_X4_init_64 (sm_s1 (cR_X4_init_63 (sm_s1 (cR_X4_init_62 (sm_s1 (cR_X4_init_61 (sm_s1 Rf 59 0 60)) 60 0 61)) 60 1 62)) 60 2 63)) 60 3 64)) k = fun _ => 9999 := (dR_X4_init_65 (sn_mono hr (by decide)))
  refine sn_aast (x := 65) (k := 60) (a := 3) (n := 7) hx hb (Or.inl ⟨rfl, rfl⟩) kd_60 (by unfold vp_in; decide) (by decide) (by decide) (sn_anyP (x := 65) kd_65 (by decide) B hP) (by omega) B hP hS dX10_init_38 (fun H locs hP hS => ?_)
  have hP : sm_NP G 66 ((cI_X4_init_65 (cI_X4_init_64 (cI_X4_init_63 (cI_X4_init_62 (cI_X4_init_61 (sm_s1 I 59 3 2)))))), (sm_s1 (cR_X4_init_65 (sm_s1 (cR_X4_init_64 (sm_s1 (cR_X4_init_63 (sm_s1 (cR_X4_init_62 (sm_s1 (cR_X4_init_61 (sm_s1 Rf 59 0 60)) 60 0 61)) 60 1 62)) 60 2 63)) 60 3 64)) 60 4 65)) H := hP
  have hr : ∀ k, 66 ≤ k → (sm_s1 (cR_X4_init_65 (sm_s1 (cR_X4_init_64 (sm_s1 (cR_X4_init_63 (sm_s1 (cR_X4_init_62 (sm_s1 (cR_X4_init_61 (sm_s1 Rf 59 0 60)) 60 0 61)) 60 1 62)) 60 2 63)) 60 3 64)) 60 4 65) k = fun _ => 9999 := (sn_dfs (a := 60) (j := 4) (x := 65) hr (t1 := 66) (by decide) (by decide))
  refine lv_iinc (v := 5) (lv' := [(1, .int 5), (0, .ref (G.2.1 59))]) hx hb dX10_init_39 hl (k := 0) rfl (by decide) (by decide) rfl (fun ls hl => ?_)
  refine lv_goto (tgt := 20) hx hb dX10_init_42 (by decide) ?_
  refine lv_iload_n hx hb dX10_init_20 rfl (lv_at hl 0 rfl) ?_
  refine lv_bipush (v := 7) hx hb dX10_init_21 (by decide) ?_
  refine lv_icmp_ge (tgt := 45) hx hb dX10_init_23 (by decide) (fun h => absurd h (by decide)) (fun _ => ?_)
  refine lv_aload_n hx hb dX10_init_26 rfl (lv_at hl 1 rfl) ?_
  refine sn_getR (r := 60) (k := 59) (n := 4) hx hb hts hown fk_X10_11 kd_59 (by decide) (by decide) (by decide +kernel) rfl (by decide) B hP dX10_init_27 ?_
  refine lv_iload_n hx hb dX10_init_30 rfl (lv_at hl 0 rfl) ?_
  refine sn_new (t := 66) (own := RX10) (index := 1) (C := RX4) (T := TX4) (N := 6) (ci := 4) hx hb hts hown kl_X10_1 it_X4 in_X4 (show sm_cs[4]? = some (RX4, TX4, 6) from rfl) uw_X4 tyX4 tyX4_ok df_X4 (by decide) kd_66 B hP hS (hd 66 (by decide)) (hr 66 (by decide)) (Nat.le_of_ble_eq_true rfl) (Nat.le_of_ble_eq_true rfl) dX10_init_31 (fun H hP hS => ?_)
  refine W.widen (k := 7) (n := 43) (Nat.le_of_ble_eq_true rfl) (Nat.le_of_ble_eq_true rfl) ?_
  have hP : sm_NP G 67 ((cI_X4_init_65 (cI_X4_init_64 (cI_X4_init_63 (cI_X4_init_62 (cI_X4_init_61 (sm_s1 I 59 3 2)))))), (sm_s1 (cR_X4_init_65 (sm_s1 (cR_X4_init_64 (sm_s1 (cR_X4_init_63 (sm_s1 (cR_X4_init_62 (sm_s1 (cR_X4_init_61 (sm_s1 Rf 59 0 60)) 60 0 61)) 60 1 62)) 60 2 63)) 60 3 64)) 60 4 65)) H := hP
  refine lv_dup hx hb dX10_init_34 rfl ?_
  refine sn_callI (As := []) (rest := [.ref (G.2.1 66), .int 5, .ref (G.2.1 60)]) (kc_X4_init_66 (sn_mono hd (by decide)) (sn_mono hr (by decide))) ik_X4_init nl_X10_21 hx hb hml hts hown rfl hl.1 (Nat.le_of_ble_eq_true rfl) (by decide) (by decide) ⟨(Nat.le_of_ble_eq_true rfl), (Nat.le_of_ble_eq_true rfl)⟩ B hP hS dX10_init_35 (fun H locs hP hS => ?_)
  have hP : sm_NP G 67 ((cI_X4_init_66 (cI_X4_init_65 (cI_X4_init_64 (cI_X4_init_63 (cI_X4_init_62 (cI_X4_init_61 (sm_s1 I 59 3 2))))))), (cR_X4_init_66 (sm_s1 (cR_X4_init_65 (sm_s1 (cR_X4_init_64 (sm_s1 (cR_X4_init_63 (sm_s1 (cR_X4_init_62 (sm_s1 (cR_X4_init_61 (sm_s1 Rf 59 0 60)) 60 0 61)) 60 1 62)) 60 2 63)) 60 3 64)) 60 4 65))) H := hP
  have hd : ∀ k, 67 ≤ k → (cI_X4_init_66 (cI_X4_init_65 (cI_X4_init_64 (cI_X4_init_63 (cI_X4_init_62 (cI_X4_init_61 (sm_s1 I 59 3 2))))))) k = fun _ => 0 := (dI_X4_init_66 (sn_mono hd (by decide)))
  have hr : ∀ k, 67 ≤ k → (cR_X4_init_66 (sm_s1 (cR_X4_init_65 (sm_s1 (cR_X4_init_64 (sm_s1 (cR_X4_init_63 (sm_s1 (cR_X4_init_62 (sm_s1 (cR_X4_init_61 (sm_s1 Rf 59 0 60)) 60 0 61)) 60 1 62)) 60 2 63)) 60 3 64)) 60 4 65)) k = fun _ => 9999 := (dR_X4_init_66 (sn_mono hr (by decide)))
  refine sn_aast (x := 66) (k := 60) (a := 3) (n := 7) hx hb (Or.inl ⟨rfl, rfl⟩) kd_60 (by unfold vp_in; decide) (by decide) (by decide) (sn_anyP (x := 66) kd_66 (by decide) B hP) (by omega) B hP hS dX10_init_38 (fun H locs hP hS => ?_)
  have hP : sm_NP G 67 ((cI_X4_init_66 (cI_X4_init_65 (cI_X4_init_64 (cI_X4_init_63 (cI_X4_init_62 (cI_X4_init_61 (sm_s1 I 59 3 2))))))), (sm_s1 (cR_X4_init_66 (sm_s1 (cR_X4_init_65 (sm_s1 (cR_X4_init_64 (sm_s1 (cR_X4_init_63 (sm_s1 (cR_X4_init_62 (sm_s1 (cR_X4_init_61 (sm_s1 Rf 59 0 60)) 60 0 61)) 60 1 62)) 60 2 63)) 60 3 64)) 60 4 65)) 60 5 66)) H := hP
  have hr : ∀ k, 67 ≤ k → (sm_s1 (cR_X4_init_66 (sm_s1 (cR_X4_init_65 (sm_s1 (cR_X4_init_64 (sm_s1 (cR_X4_init_63 (sm_s1 (cR_X4_init_62 (sm_s1 (cR_X4_init_61 (sm_s1 Rf 59 0 60)) 60 0 61)) 60 1 62)) 60 2 63)) 60 3 64)) 60 4 65)) 60 5 66) k = fun _ => 9999 := (sn_dfs (a := 60) (j := 5) (x := 66) hr (t1 := 67) (by decide) (by decide))
  refine lv_iinc (v := 6) (lv' := [(1, .int 6), (0, .ref (G.2.1 59))]) hx hb dX10_init_39 hl (k := 0) rfl (by decide) (by decide) rfl (fun ls hl => ?_)
  refine lv_goto (tgt := 20) hx hb dX10_init_42 (by decide) ?_
  refine lv_iload_n hx hb dX10_init_20 rfl (lv_at hl 0 rfl) ?_
  refine lv_bipush (v := 7) hx hb dX10_init_21 (by decide) ?_
  refine lv_icmp_ge (tgt := 45) hx hb dX10_init_23 (by decide) (fun h => absurd h (by decide)) (fun _ => ?_)
  refine lv_aload_n hx hb dX10_init_26 rfl (lv_at hl 1 rfl) ?_
  refine sn_getR (r := 60) (k := 59) (n := 4) hx hb hts hown fk_X10_11 kd_59 (by decide) (by decide) (by decide +kernel) rfl (by decide) B hP dX10_init_27 ?_
  refine lv_iload_n hx hb dX10_init_30 rfl (lv_at hl 0 rfl) ?_
  refine sn_new (t := 67) (own := RX10) (index := 1) (C := RX4) (T := TX4) (N := 6) (ci := 4) hx hb hts hown kl_X10_1 it_X4 in_X4 (show sm_cs[4]? = some (RX4, TX4, 6) from rfl) uw_X4 tyX4 tyX4_ok df_X4 (by decide) kd_67 B hP hS (hd 67 (by decide)) (hr 67 (by decide)) (Nat.le_of_ble_eq_true rfl) (Nat.le_of_ble_eq_true rfl) dX10_init_31 (fun H hP hS => ?_)
  refine W.widen (k := 8) (n := 49) (Nat.le_of_ble_eq_true rfl) (Nat.le_of_ble_eq_true rfl) ?_
  have hP : sm_NP G 68 ((cI_X4_init_66 (cI_X4_init_65 (cI_X4_init_64 (cI_X4_init_63 (cI_X4_init_62 (cI_X4_init_61 (sm_s1 I 59 3 2))))))), (sm_s1 (cR_X4_init_66 (sm_s1 (cR_X4_init_65 (sm_s1 (cR_X4_init_64 (sm_s1 (cR_X4_init_63 (sm_s1 (cR_X4_init_62 (sm_s1 (cR_X4_init_61 (sm_s1 Rf 59 0 60)) 60 0 61)) 60 1 62)) 60 2 63)) 60 3 64)) 60 4 65)) 60 5 66)) H := hP
  refine lv_dup hx hb dX10_init_34 rfl ?_
  refine sn_callI (As := []) (rest := [.ref (G.2.1 67), .int 6, .ref (G.2.1 60)]) (kc_X4_init_67 (sn_mono hd (by decide)) (sn_mono hr (by decide))) ik_X4_init nl_X10_21 hx hb hml hts hown rfl hl.1 (Nat.le_of_ble_eq_true rfl) (by decide) (by decide) ⟨(Nat.le_of_ble_eq_true rfl), (Nat.le_of_ble_eq_true rfl)⟩ B hP hS dX10_init_35 (fun H locs hP hS => ?_)
  have hP : sm_NP G 68 ((cI_X4_init_67 (cI_X4_init_66 (cI_X4_init_65 (cI_X4_init_64 (cI_X4_init_63 (cI_X4_init_62 (cI_X4_init_61 (sm_s1 I 59 3 2)))))))), (cR_X4_init_67 (sm_s1 (cR_X4_init_66 (sm_s1 (cR_X4_init_65 (sm_s1 (cR_X4_init_64 (sm_s1 (cR_X4_init_63 (sm_s1 (cR_X4_init_62 (sm_s1 (cR_X4_init_61 (sm_s1 Rf 59 0 60)) 60 0 61)) 60 1 62)) 60 2 63)) 60 3 64)) 60 4 65)) 60 5 66))) H := hP
  have hd : ∀ k, 68 ≤ k → (cI_X4_init_67 (cI_X4_init_66 (cI_X4_init_65 (cI_X4_init_64 (cI_X4_init_63 (cI_X4_init_62 (cI_X4_init_61 (sm_s1 I 59 3 2)))))))) k = fun _ => 0 := (dI_X4_init_67 (sn_mono hd (by decide)))
  have hr : ∀ k, 68 ≤ k → (cR_X4_init_67 (sm_s1 (cR_X4_init_66 (sm_s1 (cR_X4_init_65 (sm_s1 (cR_X4_init_64 (sm_s1 (cR_X4_init_63 (sm_s1 (cR_X4_init_62 (sm_s1 (cR_X4_init_61 (sm_s1 Rf 59 0 60)) 60 0 61)) 60 1 62)) 60 2 63)) 60 3 64)) 60 4 65)) 60 5 66)) k = fun _ => 9999 := (dR_X4_init_67 (sn_mono hr (by decide)))
  refine sn_aast (x := 67) (k := 60) (a := 3) (n := 7) hx hb (Or.inl ⟨rfl, rfl⟩) kd_60 (by unfold vp_in; decide) (by decide) (by decide) (sn_anyP (x := 67) kd_67 (by decide) B hP) (by omega) B hP hS dX10_init_38 (fun H locs hP hS => ?_)
  have hP : sm_NP G 68 ((cI_X4_init_67 (cI_X4_init_66 (cI_X4_init_65 (cI_X4_init_64 (cI_X4_init_63 (cI_X4_init_62 (cI_X4_init_61 (sm_s1 I 59 3 2)))))))), (sm_s1 (cR_X4_init_67 (sm_s1 (cR_X4_init_66 (sm_s1 (cR_X4_init_65 (sm_s1 (cR_X4_init_64 (sm_s1 (cR_X4_init_63 (sm_s1 (cR_X4_init_62 (sm_s1 (cR_X4_init_61 (sm_s1 Rf 59 0 60)) 60 0 61)) 60 1 62)) 60 2 63)) 60 3 64)) 60 4 65)) 60 5 66)) 60 6 67)) H := hP
  have hr : ∀ k, 68 ≤ k → (sm_s1 (cR_X4_init_67 (sm_s1 (cR_X4_init_66 (sm_s1 (cR_X4_init_65 (sm_s1 (cR_X4_init_64 (sm_s1 (cR_X4_init_63 (sm_s1 (cR_X4_init_62 (sm_s1 (cR_X4_init_61 (sm_s1 Rf 59 0 60)) 60 0 61)) 60 1 62)) 60 2 63)) 60 3 64)) 60 4 65)) 60 5 66)) 60 6 67) k = fun _ => 9999 := (sn_dfs (a := 60) (j := 6) (x := 67) hr (t1 := 68) (by decide) (by decide))
  refine lv_iinc (v := 7) (lv' := [(1, .int 7), (0, .ref (G.2.1 59))]) hx hb dX10_init_39 hl (k := 0) rfl (by decide) (by decide) rfl (fun ls hl => ?_)
  refine lv_goto (tgt := 20) hx hb dX10_init_42 (by decide) ?_
  refine lv_iload_n hx hb dX10_init_20 rfl (lv_at hl 0 rfl) ?_
  refine lv_bipush (v := 7) hx hb dX10_init_21 (by decide) ?_
  refine lv_icmp_ge (tgt := 45) hx hb dX10_init_23 (by decide) (fun _ => ?_) (fun h => absurd (by decide) h)
  exact W.vret hx hb hret (fun t9 ht hW => ⟨rfl, by rw [ht]; exact hP, hS.F ht⟩) hS.2.2 dX10_init_45 hlocks
