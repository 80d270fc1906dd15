/-! ===== String constants: length() and charAt(k) ===== -/
section SMS
variable {l : Launch} {d : Nat} {M : sm_I} {pc q : Nat} {L L' : List (Nat × sm_V)} {S : List sm_V} {σ σ' σ1 : sm_M} {o : sm_O} {i idx n d1 : Nat} {M1 : sm_I} {x : Int32} {As : List sm_V} {v : Option sm_V}
theorem sm_nret {ty : FieldType} (hd : decode M.2.1 pc = .ok (.ireturn, 1)) (hr : M.2.2.2 = some ty) (hn : narrow ty (.int x) = .int x) : sm_W l d M pc L [.inl x] σ (.inl (some (.inl x))) σ := by
  intro G p e s m args below meth c H locs ls C B hS hP hl
  refine vx_ret ?_
  exact W.zret (v := x) C.1 C.2.1 (C.2.2.2.2.2.1.trans hr) hn (fun t ht hW => ⟨_, rfl, rfl, by rw [ht]; exact hP, hS.F ht⟩) hS.2.2 hd C.2.2.2.2.2.2.1
theorem sm_i2c {w : Int32} (hd : decode M.2.1 pc = .ok (.i2c, 1)) (hq : pc + 1 = q) (hv : (x.toUInt32 % 65536).toInt32 = w) (k : sm_W l d M q L (.inl w :: S) σ o σ') : sm_W l d M pc L (.inl x :: S) σ o σ' := by
  subst hq
  intro G p e s m args below meth c H locs ls C B hS hP hl
  exact lv_i2c C.1 C.2.1 hd hv (k G p e s m args below meth c H locs ls C B hS hP hl)
theorem sm_gst (hd : decode M.2.1 pc = .ok (.getstatic idx, 3)) (hq : pc + 3 = q) (hw : Cond.fieldLink M.1.cls idx "java/lang/String" "COMPACT_STRINGS" "Z" ∈ sm_gt) (k : sm_W l d M q L (.inl 1 :: S) σ o σ') : sm_W l d M pc L S σ o σ' := by
  subst hq
  intro G p e s m args below meth c H locs ls C B hS hP hl
  exact va_gets C.1 C.2.1 B.2.2.2.2.2.1 hS C.2.2.2.1 (C.2.2.2.2.1 _ hw) (fun _ h => h) hd (k G p e s m args below meth c H locs ls C B hS hP hl)
theorem sm_gsc (hd : decode M.2.1 pc = .ok (.getfield idx, 3)) (hq : pc + 3 = q) (hw : Cond.fieldLink M.1.cls idx "java/lang/String" "coder" "B" ∈ sm_gt) (hi : i < sm_NS) (k : sm_W l d M q L (.inl 0 :: S) σ o σ') : sm_W l d M pc L (.inr (.inl (1000 + i)) :: S) σ o σ' := by
  subst hq
  intro G p e s m args below meth c H locs ls C B hS hP hl
  exact vk_getf C.1 C.2.1 (B.2.2.1 i hi).2.1 hS C.2.2.2.1 (C.2.2.2.2.1 _ hw) (fun _ h => h) hd (k G p e s m args below meth c H locs ls C B hS hP hl)
theorem sm_gsv (hd : decode M.2.1 pc = .ok (.getfield idx, 3)) (hq : pc + 3 = q) (hw : Cond.fieldLink M.1.cls idx "java/lang/String" "value" "[B" ∈ sm_gt) (hi : i < sm_NS) (k : sm_W l d M q L (.inr (.inl (2000 + i)) :: S) σ o σ') : sm_W l d M pc L (.inr (.inl (1000 + i)) :: S) σ o σ' := by
  subst hq
  intro G p e s m args below meth c H locs ls C B hS hP hl
  exact vk_getf C.1 C.2.1 (B.2.2.1 i hi).2.2.1 hS C.2.2.2.1 (C.2.2.2.2.1 _ hw) (fun _ h => h) hd (k G p e s m args below meth c H locs ls C B hS hP hl)
theorem sm_tln (hd : decode M.2.1 pc = .ok (.arraylength, 1)) (hq : pc + 1 = q) (hi : i < sm_NS) (k : sm_W l d M q L (.inl (Int32.ofNat (sm_len.getD i 0)) :: S) σ o σ') : sm_W l d M pc L (.inr (.inl (2000 + i)) :: S) σ o σ' := by
  subst hq
  intro G p e s m args below meth c H locs ls C B hS hP hl
  exact va_tlen C.1 C.2.1 (B.2.2.1 i hi).2.2.2 hS rfl hd (k G p e s m args below meth c H locs ls C B hS hP hl)
theorem sm_tbd (hd : decode M.2.1 pc = .ok (.baload, 1)) (hq : pc + 1 = q) (hi : i < sm_NS) (hx : vp_in x (sm_len.getD i 0)) (k : sm_W l d M q L (.inl ((sm_byt.getD i []).getD x.toNatClampNeg 0) :: S) σ o σ') : sm_W l d M pc L (.inl x :: .inr (.inl (2000 + i)) :: S) σ o σ' := by
  subst hq
  intro G p e s m args below meth c H locs ls C B hS hP hl
  exact va_tb C.1 C.2.1 (B.2.2.1 i hi).2.2.2 hS hx rfl hd (k G p e s m args below meth c H locs ls C B hS hP hl)
theorem sm_callT (hE : sm_E l d1 M1 (.inr (.inl (1000 + i)) :: As) σ (.inl v) σ1) (hmk : sm_mk M.1.cls idx n M1) (him : Cond.instanceMethod M1.1 ∈ sm_gt) (hse : Cond.selects "java/lang/String" M1.1 M1.1 ∈ sm_gt) (hi : i < sm_NS) (hn : As.length = n) (hd : d1 + 1 ≤ d) (hs : sm_sz S ≤ 8) (hdg : decode M.2.1 pc = .ok (.invokevirtual idx, 3)) (hq : pc + 3 = q)
    (kk : sm_W l d M q L (v.toList ++ S) σ1 o σ') : sm_W l d M pc L (As.reverse ++ .inr (.inl (1000 + i)) :: S) σ o σ' := by
  subst hq
  intro G p e s m args below meth c H locs ls C B hS hP hl
  have hrc : ∃ cell : Cell, H[G.2.1 (1000 + i)]? = some cell ∧ cell.vm.isStatics = false ∧ s.vm.findClass "java/lang/String" = some cell.cls := by
    obtain ⟨cell, h1, h2, h3, -⟩ := (B.2.2.1 i hi).1.kept hS.2.1
    exact ⟨cell, h1, h2, h3⟩
  have est : (As.reverse ++ .inr (.inl (1000 + i)) :: S).map (sm_vv G.2.1) = (As.map (sm_vv G.2.1)).reverse ++ Value.ref (G.2.1 (1000 + i)) :: S.map (sm_vv G.2.1) := by
    rw [List.map_append, List.map_reverse]
    rfl
  rw [est]
  exact sm_after (a := (Value.ref (G.2.1 (1000 + i)) :: As.map (sm_vv G.2.1)).toArray) (vx_runV (C := "java/lang/String") (Ts := sm_gt) (n := n) (nL := M.2.2.1) ⟨C.1, C.2.1, C.2.2.1, C.2.2.2.1, C.2.2.2.2.1⟩ (hE G H.size) ⟨sm_cb C.2.2.2.2.1 hmk hd, C.2.2.2.2.1 _ him, C.2.2.2.2.1 _ hse⟩ ⟨sm_blind _ _ _ _, hrc, fun U hU hW => ⟨rfl, by rw [hU], by rw [hU]; exact hP, sm_B.move B hS hU hW⟩⟩ rfl (by rw [List.length_map]; exact hn) hl.1 rfl (sm_hW hs) hdg ⟨Nat.zero_le _, Nat.zero_le _⟩) hS C B hl kk
end SMS
theorem dJ0_length_8abf5_0 : decode cJ0_length_8abf5 0 = .ok (.aload_n 0, 1) := by decide +kernel
theorem dJ0_length_8abf5_1 : decode cJ0_length_8abf5 1 = .ok (.getfield 9, 3) := by decide +kernel
theorem dJ0_length_8abf5_4 : decode cJ0_length_8abf5 4 = .ok (.arraylength, 1) := by decide +kernel
theorem dJ0_length_8abf5_5 : decode cJ0_length_8abf5 5 = .ok (.aload_n 0, 1) := by decide +kernel
theorem dJ0_length_8abf5_6 : decode cJ0_length_8abf5 6 = .ok (.invokevirtual 335, 3) := by decide +kernel
theorem dJ0_length_8abf5_9 : decode cJ0_length_8abf5 9 = .ok (.ishr, 1) := by decide +kernel
theorem dJ0_length_8abf5_10 : decode cJ0_length_8abf5 10 = .ok (.ireturn, 1) := by decide +kernel
theorem dJ0_charAt_5068e_0 : decode cJ0_charAt_5068e 0 = .ok (.aload_n 0, 1) := by decide +kernel
theorem dJ0_charAt_5068e_1 : decode cJ0_charAt_5068e 1 = .ok (.invokevirtual 492, 3) := by decide +kernel
theorem dJ0_charAt_5068e_4 : decode cJ0_charAt_5068e 4 = .ok (.ifCond .eq 12, 3) := by decide +kernel
theorem dJ0_charAt_5068e_7 : decode cJ0_charAt_5068e 7 = .ok (.aload_n 0, 1) := by decide +kernel
theorem dJ0_charAt_5068e_8 : decode cJ0_charAt_5068e 8 = .ok (.getfield 9, 3) := by decide +kernel
theorem dJ0_charAt_5068e_11 : decode cJ0_charAt_5068e 11 = .ok (.iload_n 1, 1) := by decide +kernel
theorem dJ0_charAt_5068e_12 : decode cJ0_charAt_5068e 12 = .ok (.invokestatic 495, 3) := by decide +kernel
theorem dJ0_charAt_5068e_15 : decode cJ0_charAt_5068e 15 = .ok (.ireturn, 1) := by decide +kernel
theorem dJ0_charAt_5068e_16 : decode cJ0_charAt_5068e 16 = .ok (.aload_n 0, 1) := by decide +kernel
theorem dJ0_charAt_5068e_17 : decode cJ0_charAt_5068e 17 = .ok (.getfield 9, 3) := by decide +kernel
theorem dJ0_charAt_5068e_20 : decode cJ0_charAt_5068e 20 = .ok (.iload_n 1, 1) := by decide +kernel
theorem dJ0_charAt_5068e_21 : decode cJ0_charAt_5068e 21 = .ok (.invokestatic 498, 3) := by decide +kernel
theorem dJ0_charAt_5068e_24 : decode cJ0_charAt_5068e 24 = .ok (.ireturn, 1) := by decide +kernel
theorem dJ0_coder_7d493_0 : decode cJ0_coder_7d493 0 = .ok (.getstatic 38, 3) := by decide +kernel
theorem dJ0_coder_7d493_3 : decode cJ0_coder_7d493 3 = .ok (.ifCond .eq 10, 3) := by decide +kernel
theorem dJ0_coder_7d493_6 : decode cJ0_coder_7d493 6 = .ok (.aload_n 0, 1) := by decide +kernel
theorem dJ0_coder_7d493_7 : decode cJ0_coder_7d493 7 = .ok (.getfield 15, 3) := by decide +kernel
theorem dJ0_coder_7d493_10 : decode cJ0_coder_7d493 10 = .ok (.goto 4, 3) := by decide +kernel
theorem dJ0_coder_7d493_13 : decode cJ0_coder_7d493 13 = .ok (.iconst 1, 1) := by decide +kernel
theorem dJ0_coder_7d493_14 : decode cJ0_coder_7d493 14 = .ok (.ireturn, 1) := by decide +kernel
theorem dJ0_isLatin1_aae02_0 : decode cJ0_isLatin1_aae02 0 = .ok (.getstatic 38, 3) := by decide +kernel
theorem dJ0_isLatin1_aae02_3 : decode cJ0_isLatin1_aae02 3 = .ok (.ifCond .eq 14, 3) := by decide +kernel
theorem dJ0_isLatin1_aae02_6 : decode cJ0_isLatin1_aae02 6 = .ok (.aload_n 0, 1) := by decide +kernel
theorem dJ0_isLatin1_aae02_7 : decode cJ0_isLatin1_aae02 7 = .ok (.getfield 15, 3) := by decide +kernel
theorem dJ0_isLatin1_aae02_10 : decode cJ0_isLatin1_aae02 10 = .ok (.ifCond .ne 7, 3) := by decide +kernel
theorem dJ0_isLatin1_aae02_13 : decode cJ0_isLatin1_aae02 13 = .ok (.iconst 1, 1) := by decide +kernel
theorem dJ0_isLatin1_aae02_14 : decode cJ0_isLatin1_aae02 14 = .ok (.goto 4, 3) := by decide +kernel
theorem dJ0_isLatin1_aae02_17 : decode cJ0_isLatin1_aae02 17 = .ok (.iconst 0, 1) := by decide +kernel
theorem dJ0_isLatin1_aae02_18 : decode cJ0_isLatin1_aae02 18 = .ok (.ireturn, 1) := by decide +kernel
theorem dJ0_checkIndex_df160_0 : decode cJ0_checkIndex_df160 0 = .ok (.iload_n 0, 1) := by decide +kernel
theorem dJ0_checkIndex_df160_1 : decode cJ0_checkIndex_df160 1 = .ok (.iload_n 1, 1) := by decide +kernel
theorem dJ0_checkIndex_df160_2 : decode cJ0_checkIndex_df160 2 = .ok (.getstatic 1053, 3) := by decide +kernel
theorem dJ0_checkIndex_df160_5 : decode cJ0_checkIndex_df160 5 = .ok (.invokestatic 1059, 3) := by decide +kernel
theorem dJ0_checkIndex_df160_8 : decode cJ0_checkIndex_df160 8 = .ok (.pop, 1) := by decide +kernel
theorem dJ0_checkIndex_df160_9 : decode cJ0_checkIndex_df160 9 = .ok (.return_, 1) := by decide +kernel
theorem dJ1_charAt_3b067_0 : decode cJ1_charAt_3b067 0 = .ok (.iload_n 1, 1) := by decide +kernel
theorem dJ1_charAt_3b067_1 : decode cJ1_charAt_3b067 1 = .ok (.aload_n 0, 1) := by decide +kernel
theorem dJ1_charAt_3b067_2 : decode cJ1_charAt_3b067 2 = .ok (.arraylength, 1) := by decide +kernel
theorem dJ1_charAt_3b067_3 : decode cJ1_charAt_3b067 3 = .ok (.invokestatic 9, 3) := by decide +kernel
theorem dJ1_charAt_3b067_6 : decode cJ1_charAt_3b067 6 = .ok (.aload_n 0, 1) := by decide +kernel
theorem dJ1_charAt_3b067_7 : decode cJ1_charAt_3b067 7 = .ok (.iload_n 1, 1) := by decide +kernel
theorem dJ1_charAt_3b067_8 : decode cJ1_charAt_3b067 8 = .ok (.baload, 1) := by decide +kernel
theorem dJ1_charAt_3b067_9 : decode cJ1_charAt_3b067 9 = .ok (.sipush 255, 3) := by decide +kernel
theorem dJ1_charAt_3b067_12 : decode cJ1_charAt_3b067 12 = .ok (.iand, 1) := by decide +kernel
theorem dJ1_charAt_3b067_13 : decode cJ1_charAt_3b067 13 = .ok (.i2c, 1) := by decide +kernel
theorem dJ1_charAt_3b067_14 : decode cJ1_charAt_3b067 14 = .ok (.ireturn, 1) := by decide +kernel
theorem dJ3_checkIndex_8e157_0 : decode cJ3_checkIndex_8e157 0 = .ok (.iload_n 0, 1) := by decide +kernel
theorem dJ3_checkIndex_8e157_1 : decode cJ3_checkIndex_8e157 1 = .ok (.ifCond .lt 8, 3) := by decide +kernel
theorem dJ3_checkIndex_8e157_4 : decode cJ3_checkIndex_8e157 4 = .ok (.iload_n 0, 1) := by decide +kernel
theorem dJ3_checkIndex_8e157_5 : decode cJ3_checkIndex_8e157 5 = .ok (.iload_n 1, 1) := by decide +kernel
theorem dJ3_checkIndex_8e157_6 : decode cJ3_checkIndex_8e157 6 = .ok (.if_icmp .lt 10, 3) := by decide +kernel
theorem dJ3_checkIndex_8e157_9 : decode cJ3_checkIndex_8e157 9 = .ok (.aload_n 2, 1) := by decide +kernel
theorem dJ3_checkIndex_8e157_10 : decode cJ3_checkIndex_8e157 10 = .ok (.iload_n 0, 1) := by decide +kernel
theorem dJ3_checkIndex_8e157_11 : decode cJ3_checkIndex_8e157 11 = .ok (.iload_n 1, 1) := by decide +kernel
theorem dJ3_checkIndex_8e157_12 : decode cJ3_checkIndex_8e157 12 = .ok (.invokestatic 95, 3) := by decide +kernel
theorem dJ3_checkIndex_8e157_15 : decode cJ3_checkIndex_8e157 15 = .ok (.athrow, 1) := by decide +kernel
theorem dJ3_checkIndex_8e157_16 : decode cJ3_checkIndex_8e157 16 = .ok (.iload_n 0, 1) := by decide +kernel
theorem dJ3_checkIndex_8e157_17 : decode cJ3_checkIndex_8e157 17 = .ok (.ireturn, 1) := by decide +kernel
theorem fl_cs : Cond.fieldLink "java/lang/String" 38 "java/lang/String" "COMPACT_STRINGS" "Z" ∈ sm_gt := sm_g3 212 (by decide +kernel) rfl
theorem fl_va : Cond.fieldLink "java/lang/String" 9 "java/lang/String" "value" "[B" ∈ sm_gt := sm_g9 47 (by decide +kernel) rfl
theorem fl_co : Cond.fieldLink "java/lang/String" 15 "java/lang/String" "coder" "B" ∈ sm_gt := sm_g9 48 (by decide +kernel) rfl
theorem fl_si : Cond.fieldLink "java/lang/String" 1053 "jdk/internal/util/Preconditions" "SIOOBE_FORMATTER" "Ljava/util/function/BiFunction;" ∈ sm_gt := sm_g3 228 (by decide +kernel) rfl
theorem e_coder {l : Launch} {i : Nat} (hi : i < sm_NS) (σ : sm_M) : sm_E l 0 mJ0_coder_7d493 [.inr (.inl (1000 + i))] σ (.inl (some (.inl 0))) σ := by
  refine sm_meth (by decide) (Nat.le_of_ble_eq_true rfl) ?_
  show sm_W l 0 mJ0_coder_7d493 0 [(0, .inr (.inl (1000 + i)))] [] σ _ σ
  refine sm_gst (q := 3) dJ0_coder_7d493_0 rfl fl_cs ?_
  refine sm_if_eq (tgt := 13) (q := 6) dJ0_coder_7d493_3 (by decide) rfl (fun h => absurd h (by decide)) (fun _ => ?_)
  refine sm_aload_n (q := 7) dJ0_coder_7d493_6 rfl rfl 0 rfl ?_
  refine sm_gsc (q := 10) dJ0_coder_7d493_7 rfl fl_co hi ?_
  refine sm_goto (q := 14) dJ0_coder_7d493_10 (by decide) ?_
  exact sm_nret dJ0_coder_7d493_14 rfl rfl
theorem e_latin1 {l : Launch} {i : Nat} (hi : i < sm_NS) (σ : sm_M) : sm_E l 0 mJ0_isLatin1_aae02 [.inr (.inl (1000 + i))] σ (.inl (some (.inl 1))) σ := by
  refine sm_meth (by decide) (Nat.le_of_ble_eq_true rfl) ?_
  show sm_W l 0 mJ0_isLatin1_aae02 0 [(0, .inr (.inl (1000 + i)))] [] σ _ σ
  refine sm_gst (q := 3) dJ0_isLatin1_aae02_0 rfl fl_cs ?_
  refine sm_if_eq (tgt := 17) (q := 6) dJ0_isLatin1_aae02_3 (by decide) rfl (fun h => absurd h (by decide)) (fun _ => ?_)
  refine sm_aload_n (q := 7) dJ0_isLatin1_aae02_6 rfl rfl 0 rfl ?_
  refine sm_gsc (q := 10) dJ0_isLatin1_aae02_7 rfl fl_co hi ?_
  refine sm_if_ne (tgt := 17) (q := 13) dJ0_isLatin1_aae02_10 (by decide) rfl (fun h => absurd rfl h) (fun _ => ?_)
  refine sm_iconst (v := 1) (q := 14) dJ0_isLatin1_aae02_13 rfl (by decide) ?_
  refine sm_goto (q := 18) dJ0_isLatin1_aae02_14 (by decide) ?_
  exact sm_zret dJ0_isLatin1_aae02_18 rfl (by decide)
theorem st_len : ∀ i, i < sm_NS → (Int32.ofNat (sm_len.getD i 0) >>> ((0 : Int32) &&& 31)) = Int32.ofNat (sm_len.getD i 0) := by decide +kernel
theorem e_strlen {l : Launch} {i : Nat} (hi : i < sm_NS) (σ : sm_M) : sm_E l 1 mJ0_length_8abf5 [.inr (.inl (1000 + i))] σ (.inl (some (.inl (Int32.ofNat (sm_len.getD i 0))))) σ := by
  refine sm_meth (by decide) (Nat.le_of_ble_eq_true rfl) ?_
  show sm_W l 1 mJ0_length_8abf5 0 [(0, .inr (.inl (1000 + i)))] [] σ _ σ
  refine sm_aload_n (q := 1) dJ0_length_8abf5_0 rfl rfl 0 rfl ?_
  refine sm_gsv (q := 4) dJ0_length_8abf5_1 rfl fl_va hi ?_
  refine sm_tln (q := 5) dJ0_length_8abf5_4 rfl hi ?_
  refine sm_aload_n (q := 6) dJ0_length_8abf5_5 rfl rfl 0 rfl ?_
  refine sm_callT (q := 9) (As := []) (S := [.inl (Int32.ofNat (sm_len.getD i 0))]) (v := some (.inl 0)) (e_coder hi σ) ml_J0_335 im_J0_coder_7d493 se_J0_coder_7d493 hi rfl (by decide) (Nat.le_of_ble_eq_true rfl) dJ0_length_8abf5_6 rfl ?_
  refine sm_ishr (x := Int32.ofNat (sm_len.getD i 0)) (y := 0) (S := []) (q := 10) dJ0_length_8abf5_9 rfl ?_
  rw [st_len i hi]
  exact sm_iret dJ0_length_8abf5_10 rfl
/-- Preconditions.checkIndex of an index that is right, whatever the third argument is -/
theorem e_precond {l : Launch} {x n : Int32} {v : Value} (hv : v = .null ∨ ∃ t, v = .ref t) (h0 : ¬ x < 0) (h1 : x < n) (A : Nat → Prop) : Met l yJ3_checkIndex_8e157 (sm_ws mJ3_checkIndex_8e157) ({ frames := 1, cells := 0, slots := 0, locals := 60 }) (va_Pc [.int x, .int n, v] (fun _ => True)) (vp_Si (fun r => r = x)) 0 0 A := by
  refine Met.ofW (cc := cJ3_checkIndex_8e157) (maxL := 3) (ret := some .int) (by decide) rfl ?_
  intro p e s m args below meth c s₁ B hml hv9
  obtain ⟨rfl, -⟩ := hv9
  have hx := B.exec
  have hb := B.bytes
  have hr := B.returns
  have hlocks := B.notSynchronized
  have hcat : v.category = 1 := by rcases hv with rfl | ⟨t, rfl⟩ <;> rfl
  have hl0 : (lg_sl ([.int x, .int n, v])).length ≤ 3 := by
    rcases hv with rfl | ⟨t, rfl⟩ <;> exact Nat.le_of_ble_eq_true rfl
  have hl := lv_entry ([.int x, .int n, v]) (n := 3) hl0
  rw [lg_entry_eq]
  generalize (lg_sl ([.int x, .int n, v]) ++ List.replicate (3 - (lg_sl ([.int x, .int n, v])).length) Slot.unset).toArray = ls at hl ⊢
  have hl : lv_has ls 3 [(0, .int x), (1, .int n), (2, v)] := by
    rcases hv with rfl | ⟨t, rfl⟩ <;> exact hl
  refine lv_iload_n hx hb dJ3_checkIndex_8e157_0 rfl (lv_at hl 0 rfl) ?_
  refine lv_if_lt (tgt := 9) hx hb dJ3_checkIndex_8e157_1 (by decide) (fun h => absurd h h0) (fun _ => ?_)
  refine lv_iload_n hx hb dJ3_checkIndex_8e157_4 rfl (lv_at hl 0 rfl) ?_
  refine lv_iload_n hx hb dJ3_checkIndex_8e157_5 rfl (lv_at hl 1 rfl) ?_
  refine lv_icmp_lt (tgt := 16) hx hb dJ3_checkIndex_8e157_6 (by decide) (fun _ => ?_) (fun h => absurd h1 h)
  refine lv_iload_n hx hb dJ3_checkIndex_8e157_16 rfl (lv_at hl 0 rfl) ?_
  exact W.iret (v := x) hx hb hr (fun t ht hW => ⟨x, rfl, rfl, ht⟩) (fun q hq => by cases hq) dJ3_checkIndex_8e157_17
theorem e_chk {l : Launch} {x n : Int32} (h0 : ¬ x < 0) (h1 : x < n) (σ : sm_M) : sm_E l 1 mJ0_checkIndex_df160 [.inl x, .inl n] σ (.inl none) σ := by
  refine sm_meth (by decide) (Nat.le_of_ble_eq_true rfl) ?_
  show sm_W l 1 mJ0_checkIndex_df160 0 [(0, .inl x), (1, .inl n)] [] σ _ σ
  refine sm_iload_n (q := 1) dJ0_checkIndex_df160_0 rfl rfl 0 rfl ?_
  refine sm_iload_n (q := 2) dJ0_checkIndex_df160_1 rfl rfl 1 rfl ?_
  intro G p e s m args below meth c H locs ls C B hS hP hl
  have key : ∀ v : Value, (v = .null ∨ ∃ t, v = .ref t) → va_Z "jdk/internal/util/Preconditions" "SIOOBE_FORMATTER" "Ljava/util/function/BiFunction;" v (sm_A G s.heap.size) s s.heap →
      W p l e (sm_rm 1 (.inl none)) s m args below meth c H locs 0 0 (vx_MQ below (sm_Q G (.inl none) σ s.heap.size) (sm_X G (.inl none) σ s.heap.size) args s 0 0 (sm_A G s.heap.size)) (F0 m 2 ls [.int n, .int x]) := by
    intro v hv hZ
    have hcat : v.category = 1 := by rcases hv with rfl | ⟨t, rfl⟩ <;> rfl
    refine va_gets C.1 C.2.1 hZ hS C.2.2.2.1 (C.2.2.2.2.1 _ fl_si) (fun _ h => h) dJ0_checkIndex_df160_2 ?_
    have hcb : CallB (sm_rm 1 (.inl none)) s args "java/lang/String" 1059 yJ3_checkIndex_8e157 cJ3_checkIndex_8e157 3 (some .int) (sm_ws mJ3_checkIndex_8e157) ({ frames := 1, cells := 0, slots := 0, locals := 60 }) 0 0 3 := by
      obtain ⟨⟨h1, h2, h3, h4, h5, h6, h7⟩, h8⟩ := ms_J0_1059
      refine callB_of (Ts := sm_gt) 3 C.2.2.2.2.1 ?_ rfl rfl rfl (C.2.2.2.2.1 _ h2) (C.2.2.2.2.1 _ h1) ⟨h4, h5, h6⟩ ⟨by decide, by decide⟩
      intro w hw
      rcases List.mem_cons.mp hw with rfl | hw
      · exact ⟨h3, sm_gt_good h3⟩
      · exact ⟨hw, sm_gt_good hw⟩
    refine vp_callSi (W.runS (Ts := sm_gt) (nL := 2) (n := 3) (As := [.int x, .int n, v]) (rest := []) ⟨C.1, C.2.1, C.2.2.1, C.2.2.2.1, C.2.2.2.2.1⟩ (e_precond hv h0 h1 (fun _ => False)) ⟨hcb, C.2.2.2.2.1 _ ms_J0_1059.2⟩ ⟨fun a U g mk hq => hq, fun U hU hW => ⟨rfl, trivial⟩⟩ rfl rfl hl.1 rfl (lv_room (Nat.le_of_ble_eq_true rfl)) dJ0_checkIndex_df160_5 ⟨Nat.le_refl _, Nat.le_refl _⟩) (fun r hr => ?_)
    refine lv_pop C.1 C.2.1 dJ0_checkIndex_df160_8 rfl ?_
    refine vx_ret ?_
    exact W.vret C.1 C.2.1 (C.2.2.2.2.2.1.trans rfl) (fun t ht hW => ⟨_, rfl, rfl, by rw [ht]; exact hP, hS.F ht⟩) hS.2.2 dJ0_checkIndex_df160_9 C.2.2.2.2.2.2.1
  rcases B.2.2.2.2.2.2.1 with h | ⟨t, h⟩
  · exact key .null (Or.inl rfl) h
  · exact key (.ref t) (Or.inr ⟨t, rfl⟩) h
theorem st_in : ∀ i, i < sm_NS → ∀ j, j < sm_len.getD i 0 → (((sm_byt.getD i []).getD j 0 &&& 255).toUInt32 % 65536).toInt32 = (sm_byt.getD i []).getD j 0 ∧ narrow .char (.int ((sm_byt.getD i []).getD j 0)) = .int ((sm_byt.getD i []).getD j 0) := by decide +kernel
theorem st_lt : ∀ i, i < sm_NS → sm_len.getD i 0 < 100 := by decide +kernel
theorem st_ofn {x : Int32} {n : Nat} (hn : n < 100) (h : ¬ (x < 0 ∨ n ≤ x.toNatClampNeg)) : x < Int32.ofNat n := by
  have h0 : ¬ x < 0 := fun z => h (Or.inl z)
  have h1 : x.toNatClampNeg < n := Nat.lt_of_not_le fun z => h (Or.inr z)
  have e1 : (Int32.ofNat n).toInt = (n : Int) := nI_toInt (by omega)
  have h2 : (0 : Int) ≤ x.toInt := by
    have := Int32.not_lt.mp h0
    simpa using Int32.le_iff_toInt_le.mp this
  have e2 : ((x.toNatClampNeg : Nat) : Int) = x.toInt := by
    show ((x.toInt.toNat : Nat) : Int) = x.toInt
    omega
  rw [Int32.lt_iff_toInt_lt, e1, ← e2]
  omega
theorem e_latin {l : Launch} {i : Nat} {x : Int32} (hi : i < sm_NS) (hx : ¬ (x < 0 ∨ sm_len.getD i 0 ≤ x.toNatClampNeg)) (σ : sm_M) : sm_E l 2 mJ1_charAt_3b067 [.inr (.inl (2000 + i)), .inl x] σ (.inl (some (.inl ((sm_byt.getD i []).getD x.toNatClampNeg 0)))) σ := by
  obtain ⟨z1, z2⟩ := st_in i hi x.toNatClampNeg (Nat.lt_of_not_le fun z => hx (Or.inr z))
  refine sm_meth (by decide) (Nat.le_of_ble_eq_true rfl) ?_
  show sm_W l 2 mJ1_charAt_3b067 0 [(0, .inr (.inl (2000 + i))), (1, .inl x)] [] σ _ σ
  refine sm_iload_n (q := 1) dJ1_charAt_3b067_0 rfl rfl 1 rfl ?_
  refine sm_aload_n (q := 2) dJ1_charAt_3b067_1 rfl rfl 0 rfl ?_
  refine sm_tln (q := 3) dJ1_charAt_3b067_2 rfl hi ?_
  refine sm_callSv (q := 6) (As := [.inl x, .inl (Int32.ofNat (sm_len.getD i 0))]) (S := []) (e_chk (fun z => hx (Or.inl z)) (st_ofn (st_lt i hi) hx) σ) ms_J1_9 rfl (by decide) (Nat.le_of_ble_eq_true rfl) dJ1_charAt_3b067_3 rfl ?_
  refine sm_aload_n (q := 7) dJ1_charAt_3b067_6 rfl rfl 0 rfl ?_
  refine sm_iload_n (q := 8) dJ1_charAt_3b067_7 rfl rfl 1 rfl ?_
  refine sm_tbd (q := 9) dJ1_charAt_3b067_8 rfl hi hx ?_
  refine sm_sipush (v := 255) (q := 12) dJ1_charAt_3b067_9 rfl (by decide) ?_
  refine sm_iand (q := 13) dJ1_charAt_3b067_12 rfl ?_
  refine sm_i2c (q := 14) dJ1_charAt_3b067_13 rfl z1 ?_
  exact sm_nret dJ1_charAt_3b067_14 rfl z2
theorem e_charAt {l : Launch} {i : Nat} {x : Int32} (hi : i < sm_NS) (hx : ¬ (x < 0 ∨ sm_len.getD i 0 ≤ x.toNatClampNeg)) (σ : sm_M) : sm_E l 3 mJ0_charAt_5068e [.inr (.inl (1000 + i)), .inl x] σ (.inl (some (.inl ((sm_byt.getD i []).getD x.toNatClampNeg 0)))) σ := by
  obtain ⟨z1, z2⟩ := st_in i hi x.toNatClampNeg (Nat.lt_of_not_le fun z => hx (Or.inr z))
  refine sm_meth (by decide) (Nat.le_of_ble_eq_true rfl) ?_
  show sm_W l 3 mJ0_charAt_5068e 0 [(0, .inr (.inl (1000 + i))), (1, .inl x)] [] σ _ σ
  refine sm_aload_n (q := 1) dJ0_charAt_5068e_0 rfl rfl 0 rfl ?_
  refine sm_callT (q := 4) (As := []) (S := []) (v := some (.inl 1)) (e_latin1 hi σ) ml_J0_492 im_J0_isLatin1_aae02 se_J0_isLatin1_aae02 hi rfl (by decide) (Nat.le_of_ble_eq_true rfl) dJ0_charAt_5068e_1 rfl ?_
  refine sm_if_eq (x := 1) (S := []) (tgt := 16) (q := 7) dJ0_charAt_5068e_4 (by decide) rfl (fun h => absurd h (by decide)) (fun _ => ?_)
  refine sm_aload_n (q := 8) dJ0_charAt_5068e_7 rfl rfl 0 rfl ?_
  refine sm_gsv (q := 11) dJ0_charAt_5068e_8 rfl fl_va hi ?_
  refine sm_iload_n (q := 12) dJ0_charAt_5068e_11 rfl rfl 1 rfl ?_
  refine sm_callSi (q := 15) (As := [.inr (.inl (2000 + i)), .inl x]) (S := []) (e_latin hi hx σ) ms_J0_495 rfl (by decide) (Nat.le_of_ble_eq_true rfl) dJ0_charAt_5068e_12 rfl ?_
  exact sm_nret dJ0_charAt_5068e_15 rfl z2
section SMD2
variable {l : Launch} {d : Nat} {M : sm_I} {pc q : Nat} {L L' : List (Nat × sm_V)} {S : List sm_V} {σ σ' σ1 : sm_M} {o : sm_O} {idx r : Nat} {x : Int32}
/-- String.length() of a constant -/
theorem sm_strlen (hd : decode M.2.1 pc = .ok (.invokevirtual idx, 3)) (hq : pc + 3 = q) (hm : sm_mk M.1.cls idx 0 mJ0_length_8abf5) (h1 : 1000 ≤ r) (h2 : r < 1000 + sm_NS) (hs : sm_sz S ≤ 8) (hdp : 4 ≤ d) (k : sm_W l d M q L (.inl (sm_sln r) :: S) σ o σ') : sm_W l d M pc L (.inr (.inl r) :: S) σ o σ' := by
  obtain ⟨i, rfl⟩ : ∃ i, r = 1000 + i := ⟨r - 1000, by omega⟩
  have e : 1000 + i - 1000 = i := by omega
  unfold sm_sln at k
  rw [e] at k
  exact sm_callT (As := []) (e_strlen (by omega) σ) hm im_J0_length_8abf5 se_J0_length_8abf5 (by omega) rfl (by omega) hs hd hq k
/-- String.charAt(x) of a constant -/
theorem sm_strchr (hd : decode M.2.1 pc = .ok (.invokevirtual idx, 3)) (hq : pc + 3 = q) (hm : sm_mk M.1.cls idx 1 mJ0_charAt_5068e) (h1 : 1000 ≤ r) (h2 : r < 1000 + sm_NS) (h3 : ¬ (x < 0 ∨ sm_len.getD (r - 1000) 0 ≤ x.toNatClampNeg)) (hs : sm_sz S ≤ 8) (hdp : 4 ≤ d) (k : sm_W l d M q L (.inl (sm_sch r x) :: S) σ o σ') : sm_W l d M pc L (.inl x :: .inr (.inl r) :: S) σ o σ' := by
  obtain ⟨i, rfl⟩ : ∃ i, r = 1000 + i := ⟨r - 1000, by omega⟩
  have e : 1000 + i - 1000 = i := by omega
  unfold sm_sch at k
  rw [e] at k h3
  exact sm_callT (As := [.inl x]) (e_charAt (by omega) h3 σ) hm im_J0_charAt_5068e se_J0_charAt_5068e (by omega) rfl (by omega) hs hd hq k
end SMD2
