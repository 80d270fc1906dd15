/-! ===== the walk of the law's beginning; the claim out of it ===== -/
theorem ml_118 : Cond.methodLink "BaizeDoorLaw" 118 yX11_init ∈ sm_gt := sm_g1 29 (by decide +kernel) rfl
theorem ml_121 : Cond.methodLink "BaizeDoorLaw" 121 yX12_init ∈ sm_gt := sm_g6 91 (by decide +kernel) rfl
theorem kl_L_8 : Cond.classLink "BaizeDoorLaw" 8 RX11 ∈ sm_gt := sm_g1 27 (by decide +kernel) rfl
theorem kl_L_119 : Cond.classLink "BaizeDoorLaw" 119 RX12 ∈ sm_gt := sm_g6 89 (by decide +kernel) rfl
theorem ar_long : Cond.arrayClass .long ∈ sm_gt := sm_g9 28 (by decide +kernel) rfl
set_option maxHeartbeats 4000000 in
set_option maxRecDepth 20000 in
theorem whole_start {p : Program} {e : Env} {s : State} {m : MethodId} {below : List Frame} {meth : Method} {c : Code} (l : Launch) (hl9 : l.stackTraces = false) {N : Nat} {Inv : sm_M → Prop} (hz : zo_all N Inv) (hI : Inv (sm_I0, sm_R0)) {b L : Nat} {xs : Nat → Int32} (hL : L ≤ 3072) (C0 : lw_At p s m meth c b L xs) : W p l e room_1 s m #[Value.ref b] below meth c s.heap [] 0 0 (lw_Z below #[Value.ref b] s) (entryFrame m ([Value.ref b] : List Value).toArray 7) := by
  obtain ⟨G, rfl, C, NB, g0⟩ := zs_G C0 hL
  have hx := C0.1
  have hb := C0.2.1
  have hml := C0.2.2.2.1
  have hown : s.vm.findClass "BaizeDoorLaw" = some m.cls := C0.2.2.2.2.1
  have hts := lz_gt C0.2.2.2.2.2.1
  have hl := lv_entry ([Value.ref (G.2.1 5000)]) (n := 7) (Nat.le_of_ble_eq_true rfl)
  rw [lg_entry_eq]
  generalize (lg_sl ([Value.ref (G.2.1 5000)]) ++ List.replicate (7 - (lg_sl ([Value.ref (G.2.1 5000)])).length) Slot.unset).toArray = ls at hl ⊢
  have hl : lv_has ls 7 [(0, .ref (G.2.1 5000))] := hl
  have hS : va_S (fun q => G.2.1 0 ≤ q) s.heap s.heap [] := va_S.rf
  have hP : sm_NP G 0 ((fun _ _ => 0), (fun _ _ => 9999)) s.heap := ⟨fun k q hq => absurd (List.getElem?_eq_some_iff.mp hq).1 (Nat.not_lt_zero k), by rw [g0]; rfl⟩
  refine sn_new (t := 0) (own := "BaizeDoorLaw") (index := 8) (C := RX11) (T := TX11) (N := 16) (ci := 11) hx hb hts hown kl_L_8 it_X11 in_X11 (show sm_cs[11]? = some (RX11, TX11, 16) from rfl) uw_X11 tyX11 tyX11_ok df_X11 (by decide) kd_0 NB hP hS rfl rfl (Nat.le_of_ble_eq_true rfl) (Nat.le_of_ble_eq_true rfl) dL_law_0 (fun H hP hS => ?_)
  refine lv_dup hx hb dL_law_3 rfl ?_
  refine sn_callI (As := []) (rest := [.ref (G.2.1 0)]) (kc_X11_init_0 (fun _ _ => rfl) (fun _ _ => rfl)) ik_X11_init (Or.inr ml_118) hx hb hml hts hown rfl hl.1 (Nat.le_of_ble_eq_true rfl) (by decide) (by decide) ⟨(Nat.le_of_ble_eq_true rfl), (Nat.le_of_ble_eq_true rfl)⟩ NB hP hS dL_law_4 (fun H locs hP hS => ?_)
  refine lv_astore_n (lv' := [(1, .ref (G.2.1 0)), (0, .ref (G.2.1 5000))]) hx hb dL_law_7 rfl hl (by decide) rfl (fun ls hl => ?_)
  have hd1 : ∀ k, 80 ≤ k → cI_X11_init_0 (fun _ _ => 0) k = fun _ => 0 := dI_X11_init_0 (fun _ _ => rfl)
  have hr1 : ∀ k, 80 ≤ k → cR_X11_init_0 (fun _ _ => 9999) k = fun _ => 9999 := dR_X11_init_0 (fun _ _ => rfl)
  refine sn_new (t := 80) (own := "BaizeDoorLaw") (index := 119) (C := RX12) (T := TX12) (N := 59) (ci := 12) hx hb hts hown kl_L_119 it_X12 in_X12 (show sm_cs[12]? = some (RX12, TX12, 59) from rfl) uw_X12 tyX12 tyX12_ok df_X12 (by decide) kd_80 NB hP hS (hd1 80 (by decide)) (hr1 80 (by decide)) (Nat.le_of_ble_eq_true rfl) (Nat.le_of_ble_eq_true rfl) dL_law_8 (fun H hP hS => ?_)
  refine lv_dup hx hb dL_law_11 rfl ?_
  refine sn_callI (As := []) (rest := [.ref (G.2.1 80)]) (kc_X12_init_80 (sn_mono hd1 (by decide)) (sn_mono hr1 (by decide))) ik_X12_init (Or.inr ml_121) hx hb hml hts hown rfl hl.1 (Nat.le_of_ble_eq_true rfl) (by decide) (by decide) ⟨(Nat.le_of_ble_eq_true rfl), (Nat.le_of_ble_eq_true rfl)⟩ NB hP hS dL_law_12 (fun H locs hP hS => ?_)
  refine lv_astore_n (lv' := [(2, .ref (G.2.1 80)), (1, .ref (G.2.1 0)), (0, .ref (G.2.1 5000))]) hx hb dL_law_15 rfl hl (by decide) rfl (fun ls hl => ?_)
  refine lv_iconst (v := 1) hx hb dL_law_16 (by decide) ?_
  have hP1 : va_P G.1 sm_cs (sm_cl G (sm_I0, sm_R0)) H := sn_full hP sm_R0_ok
  have hsz : H.size = G.2.1 5001 := by
    rw [hP.2, g0, C.2.2.2.2.2.2]
    rfl
  refine va_newaK (g := F0 m 17 ls [.int 1]) (atype := .long) (N := 1) hx hb (hts _ ar_long) rfl dL_law_17 rfl (by decide) (by decide) (by decide) (Nat.le_of_ble_eq_true rfl) (Nat.le_of_ble_eq_true rfl) hsz fun H1 cA e1 z1 o1 hAr hNm => ?_
  have hcA : cA = G.2.2.1 5 := by
    have h9 : s.vm.findClass ("[" ++ (newarray.typeOf ArrayType.long).toString) = some (G.2.2.1 5) := (C.2.2.2.1.2 0 _ rfl).2
    exact Option.some.inj (hNm.symm.trans h9)
  subst hcA
  have hP2 : va_P G.1 sm_cs (sm_cl G (sm_I0, sm_R0)) H1 := hP1.kept (fun k q hq => by
    obtain ⟨hk, rfl⟩ := sm_cl_get hq
    refine o1 _ ?_
    have := C.2.2.2.2.2.1 k hk
    have := C.2.2.2.2.2.2
    show G.2.1 k < G.2.1 5001
    omega)
  have ho : wz_o G 0 H1 := e1
  have hS2 : va_S (sm_A G s.heap.size) s.heap H1 locs := by
    have hgA : ∀ q, sm_A G s.heap.size q ↔ G.2.1 0 ≤ q := fun q => by
      rw [g0]
      refine ⟨?_, Or.inr⟩
      rintro (⟨k, hk, rfl⟩ | h)
      · have := C.2.2.2.2.2.1 k hk
        omega
      · exact h
    refine ⟨by rw [z1, ← hsz]; exact Nat.le_trans hS.1 (Nat.le_succ _), fun q h1 h2 => ?_, fun q hq => (hgA _).mpr (hS.2.2 q hq)⟩
    rw [o1 q (by rw [← hsz]; exact Nat.lt_of_lt_of_le h1 hS.1)]
    exact hS.2.1 q h1 (fun h => h2 ((hgA q).mpr h))
  have fin9 : W p l e room_1 s m #[Value.ref (G.2.1 5000)] below meth c H1 locs 121 14000 (lw_Z below #[Value.ref (G.2.1 5000)] s) (F0 m 19 ls [.ref (G.2.1 5001)]) := by
    refine lv_astore_n (lv' := [(3, .ref (G.2.1 5001)), (2, .ref (G.2.1 80)), (1, .ref (G.2.1 0)), (0, .ref (G.2.1 5000))]) hx hb dL_law_19 rfl hl (by decide) rfl (fun ls hl => ?_)
    refine lv_iconst (v := 0) hx hb dL_law_20 (by decide) ?_
    refine lv_istore (x := 0) (lv' := [(4, .int 0), (3, .ref (G.2.1 5001)), (2, .ref (G.2.1 80)), (1, .ref (G.2.1 0)), (0, .ref (G.2.1 5000))]) hx hb dL_law_21 hl (by decide) rfl (fun ls hl => ?_)
    exact lz_loop (Lx := L) (xs := xs) hl9 hL hz 600 0 0 (sm_I0, sm_R0) 0 hI rfl (by omega) (by omega) (by omega) G p e s m below meth c H1 locs ls C hS2 hP2 ho (lv_sub hl [4, 3, 2, 1, 0] rfl)
  exact W.widen (k := 121) (n := 14000) (Nat.le_of_ble_eq_true rfl) (Nat.le_of_ble_eq_true rfl) fin9
