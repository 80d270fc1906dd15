/-! ===== the head of the law's loop ===== -/
section LH
variable {l : Launch} {xs : Nat → Int32} {Lx n : Nat} {σ : sm_M} {v : Int64}
theorem lz_head {i : Nat} (d23 : decode code 23 = .ok (.iload 4, 2)) (d25 : decode code 25 = .ok (.aload_n 0, 1)) (d26 : decode code 26 = .ok (.arraylength, 1)) (d27 : decode code 27 = .ok (.bipush 6, 2)) (d29 : decode code 29 = .ok (.isub, 1)) (d30 : decode code 30 = .ok (.if_icmp .gt 2567, 3)) (d97 : decode code 2597 = .ok (.iconst 1, 1)) (d98 : decode code 2598 = .ok (.ireturn, 1)) (hiL : i ≤ Lx) (hLx : Lx ≤ 3072)
    (k : i + 6 ≤ Lx → lz_W l xs Lx n 33 [(0, .inr (.inl 5000)), (1, .inr (.inl 0)), (2, .inr (.inl 80)), (3, .inr (.inl 5001)), (4, .inl (nI i))] [] σ v) : lz_W l xs Lx n 23 [(0, .inr (.inl 5000)), (1, .inr (.inl 0)), (2, .inr (.inl 80)), (3, .inr (.inl 5001)), (4, .inl (nI i))] [] σ v := by
  intro h6 G p e s m below meth c H locs ls C hS hP ho hl
  refine lv_iload C.1.1 C.1.2.1 d23 (lv_at hl 4 rfl) ?_
  refine lv_aload_n C.1.1 C.1.2.1 d25 rfl (lv_at hl 0 rfl) ?_
  refine va_slen C.1.1 C.1.2.1 C.1.2.2.2.2.2.2.1 C.1.2.2.2.2.2.2.2.1 (lz_A C.2.2.2.2.2.1 C.1.2.2.2.2.2.2.2.1) hS d26 ?_
  refine lv_bipush (v := 6) C.1.1 C.1.2.1 d27 (by decide) ?_
  refine lv_isub C.1.1 C.1.2.1 d29 ?_
  have hsub : (nI Lx - nI 6).toInt = (Lx : Int) - 6 := pk_sub_toInt (by omega) (by omega)
  have hii : (nI i).toInt = i := nI_toInt (by omega)
  refine lv_icmp_gt (tgt := 2597) C.1.1 C.1.2.1 d30 (by decide) (fun _ => ?_) (fun h => ?_)
  · refine lv_iconst (v := 1) C.1.1 C.1.2.1 d97 (by decide) ?_
    refine va_forget (fun q hq => ?_) ?_
    · rcases hS.2.2 q hq with ⟨k, hk, e9⟩ | h9
      · have := C.2.2.2.2.2.1 k hk
        omega
      · exact h9
    · refine W.widen (k := 601024) (n := 7293034) (by omega) (by omega) ?_
      exact lw_ret C.1.1 C.1.2.1 C.1.2.2.1 C.1.2.2.2.2.2.2.2.2.1 d98
  · refine k ?_ h6 G p e s m below meth c H locs ls C hS hP ho hl
    have h9 : ¬ (nI Lx - nI 6 < nI i) := h
    rw [Int32.lt_iff_toInt_lt, hsub, hii] at h9
    omega
theorem lz_63 (x : Int32) : ∃ w, w < 64 ∧ x &&& 63 = nI w := by
  refine ⟨(x.toBitVec &&& 63#32).toNat, ?_, ?_⟩
  · have h : (x.toBitVec &&& 63#32).toNat ≤ 63 := by
      rw [BitVec.toNat_and]
      exact Nat.and_le_right
    omega
  · apply Int32.toBitVec_inj.1
    show x.toBitVec &&& 63#32 = BitVec.ofNat 32 (x.toBitVec &&& 63#32).toNat
    rw [BitVec.ofNat_toNat, BitVec.setWidth_eq]
theorem lz_switch {i w : Nat} {L : List (Nat × sm_V)} (d33 : decode code 33 = .ok (.aload_n 0, 1)) (d34 : decode code 34 = .ok (.iload 4, 2)) (d36 : decode code 36 = .ok (.iaload, 1)) (d37 : decode code 37 = .ok (.bipush 63, 2)) (d39 : decode code 39 = .ok (.iand, 1)) (a b : Nat) (h0 : L[a]? = some (0, .inr (.inl 5000))) (h4 : L[b]? = some (4, .inl (nI i))) (hi : i < Lx) (ew : xs i &&& 63 = nI w) (k : lz_W l xs Lx n 40 L [.inl (nI w)] σ v) : lz_W l xs Lx n 33 L [] σ v := by
  intro h6 G p e s m below meth c H locs ls C hS hP ho hl
  have hL := C.2.1
  refine lv_aload_n C.1.1 C.1.2.1 d33 rfl (lv_at hl a (sm_lv_at h0)) ?_
  refine lv_iload C.1.1 C.1.2.1 d34 (lv_at hl b (sm_lv_at h4)) ?_
  refine va_sld (xs := xs) (L := Lx) C.1.1 C.1.2.1 C.1.2.2.2.2.2.2.1 C.1.2.2.2.2.2.2.2.1 (lz_A C.2.2.2.2.2.1 C.1.2.2.2.2.2.2.2.1) hS (vp_in_nI hi (by omega)) d36 ?_
  rw [nI_clamp (by omega)]
  refine lv_bipush (v := 63) C.1.1 C.1.2.1 d37 (by decide) ?_
  refine lv_iand C.1.1 C.1.2.1 d39 ?_
  rw [ew]
  exact k h6 G p e s m below meth c H locs ls C hS hP ho hl
theorem lz_tabIn {dflt lo hi off : Int} {offs : Array Int} {len q : Nat} {x : Int32} {L : List (Nat × sm_V)} (hd : decode code 40 = .ok (.tableswitch dflt lo hi offs, len)) (h1 : ¬ x.toInt < lo) (h2 : ¬ hi < x.toInt) (ho : offs[(x.toInt - lo).toNat]? = some off) (ht : ((40 : Nat) : Int) + off = (q : Int)) (k : lz_W l xs Lx n q L [] σ v) : lz_W l xs Lx n 40 L [.inl x] σ v := by
  intro h6 G p e s m below meth c H locs ls C hS hP ho' hl
  exact lv_tableIn C.1.1 C.1.2.1 hd h1 h2 ho ht (k h6 G p e s m below meth c H locs ls C hS hP ho' hl)
theorem lz_tabOut {dflt lo : Int} {offs : Array Int} {len q w : Nat} {L : List (Nat × sm_V)} (hd : decode code 40 = .ok (.tableswitch dflt lo 44 offs, len)) (h : 45 ≤ w) (hw : w < 64) (ht : ((40 : Nat) : Int) + dflt = (q : Int)) (k : lz_W l xs Lx n q L [] σ v) : lz_W l xs Lx n 40 L [.inl (nI w)] σ v := by
  intro h6 G p e s m below meth c H locs ls C hS hP ho' hl
  exact lv_tableOut C.1.1 C.1.2.1 hd (Or.inr (by rw [nI_toInt (by omega)]; omega)) ht (k h6 G p e s m below meth c H locs ls C hS hP ho' hl)
end LH
/-! ===== the law's loop ===== -/
set_option maxHeartbeats 4000000 in
theorem lz_loop {l : Launch} (hl : l.stackTraces = false) {xs : Nat → Int32} {Lx N : Nat} (hLx : Lx ≤ 3072) {Inv : sm_M → Prop} (hz : zo_all N Inv) : ∀ (f n i : Nat) (σ : sm_M) (v : Int64), Inv σ → i = 6 * n → Lx < i + 6 * f + 6 → i ≤ Lx → lz_W l xs Lx n 23 [(0, .inr (.inl 5000)), (1, .inr (.inl 0)), (2, .inr (.inl 80)), (3, .inr (.inl 5001)), (4, .inl (nI i))] [] σ v := by
  obtain ⟨z0, z1, z2, z3, z4, z5, z6, z7, z8, z9, z10, z11, z12, z13, z14, z15, z16, z17, z18, z19, z20, z21, z22, z23, z24, z25, z26, z27, z28, z29, z30, z31, z32, z33, z34, z35, z36, z37, z38, z39, z40, z41, z42, z43, z44⟩ := hz
  intro f
  induction f with
  | zero =>
    intro n i σ v hI hin hf hiL
    exact lz_head dL_law_23 dL_law_25 dL_law_26 dL_law_27 dL_law_29 dL_law_30 dL_law_2597 dL_law_2598 hiL hLx (fun h => absurd h (by omega))
  | succ f ih =>
    intro n i σ v hI hin hf hiL
    refine lz_head dL_law_23 dL_law_25 dL_law_26 dL_law_27 dL_law_29 dL_law_30 dL_law_2597 dL_law_2598 hiL hLx (fun hi => ?_)
    have h7 : n + 1 ≤ 600 := by omega
    have kk : ∀ τ v', Inv τ → lz_W l xs Lx (n + 1) 2591 [(0, .inr (.inl 5000)), (1, .inr (.inl 0)), (2, .inr (.inl 80)), (3, .inr (.inl 5001)), (4, .inl (nI i))] [] τ v' := fun τ v' hτ => by
      refine lz_inc (i := i) (x := 0) (L' := [(4, .inl (nI (i + 6))), (0, .inr (.inl 5000)), (1, .inr (.inl 0)), (2, .inr (.inl 80)), (3, .inr (.inl 5001))]) dL_law_2591 dL_law_2594 4 rfl rfl ?_
      refine lz_pick [1, 2, 3, 4, 0] rfl ?_
      exact ih (n + 1) (i + 6) τ v' hτ (by omega) (by omega) (by omega)
    obtain ⟨w, hw, ew⟩ := lz_63 (xs i)
    refine lz_switch (w := w) dL_law_33 dL_law_34 dL_law_36 dL_law_37 dL_law_39 0 4 rfl rfl (by omega) ew ?_
    by_cases w0 : w = 0
    · subst w0
      exact lz_tabIn (off := 196) dL_law_40 (by decide) (by decide) rfl (by decide) (lc_feed hl z0 hI hi h7 kk)
    by_cases w1 : w = 1
    · subst w1
      exact lz_tabIn (off := 269) dL_law_40 (by decide) (by decide) rfl (by decide) (lc_school hl z1 hI hi h7 kk)
    by_cases w2 : w = 2
    · subst w2
      exact lz_tabIn (off := 325) dL_law_40 (by decide) (by decide) rfl (by decide) (lc_fault hl z2 hI hi h7 kk)
    by_cases w3 : w = 3
    · subst w3
      exact lz_tabIn (off := 338) dL_law_40 (by decide) (by decide) rfl (by decide) (lc_count hl z3 hI hi h7 kk)
    by_cases w4 : w = 4
    · subst w4
      exact lz_tabIn (off := 394) dL_law_40 (by decide) (by decide) rfl (by decide) (lc_piece hl z4 hI hi h7 kk)
    by_cases w5 : w = 5
    · subst w5
      exact lz_tabIn (off := 462) dL_law_40 (by decide) (by decide) rfl (by decide) (lc_bar hl z5 hI hi h7 kk)
    by_cases w6 : w = 6
    · subst w6
      exact lz_tabIn (off := 530) dL_law_40 (by decide) (by decide) rfl (by decide) (lc_pupil hl z6 hI hi h7 kk)
    by_cases w7 : w = 7
    · subst w7
      exact lz_tabIn (off := 598) dL_law_40 (by decide) (by decide) rfl (by decide) (lc_weeks hl z7 hI hi h7 kk)
    by_cases w8 : w = 8
    · subst w8
      exact lz_tabIn (off := 623) dL_law_40 (by decide) (by decide) rfl (by decide) (lc_door hl z8 hI hi h7 kk)
    by_cases w9 : w = 9
    · subst w9
      exact lz_tabIn (off := 691) dL_law_40 (by decide) (by decide) rfl (by decide) (lc_gloves hl z9 hI hi h7 kk)
    by_cases w10 : w = 10
    · subst w10
      exact lz_tabIn (off := 759) dL_law_40 (by decide) (by decide) rfl (by decide) (lc_begin hl z10 hI hi h7 kk)
    by_cases w11 : w = 11
    · subst w11
      exact lz_tabIn (off := 827) dL_law_40 (by decide) (by decide) rfl (by decide) (lc_pianos hl z11 hI hi h7 kk)
    by_cases w12 : w = 12
    · subst w12
      exact lz_tabIn (off := 852) dL_law_40 (by decide) (by decide) rfl (by decide) (lc_undo hl z12 hI hi h7 kk)
    by_cases w13 : w = 13
    · subst w13
      exact lz_tabIn (off := 865) dL_law_40 (by decide) (by decide) rfl (by decide) (lc_then hl z13 hI hi h7 kk)
    by_cases w14 : w = 14
    · subst w14
      exact lz_tabIn (off := 945) dL_law_40 (by decide) (by decide) rfl (by decide) (lc_done hl z14 hI hi h7 kk)
    by_cases w15 : w = 15
    · subst w15
      exact lz_tabIn (off := 1001) dL_law_40 (by decide) (by decide) rfl (by decide) (lc_heard hl z15 hI hi h7 kk)
    by_cases w16 : w = 16
    · subst w16
      exact lz_tabIn (off := 1057) dL_law_40 (by decide) (by decide) rfl (by decide) (lc_best hl z16 hI hi h7 kk)
    by_cases w17 : w = 17
    · subst w17
      exact lz_tabIn (off := 1113) dL_law_40 (by decide) (by decide) rfl (by decide) (lc_stuck hl z17 hI hi h7 kk)
    by_cases w18 : w = 18
    · subst w18
      exact lz_tabIn (off := 1126) dL_law_40 (by decide) (by decide) rfl (by decide) (lc_free hl z18 hI hi h7 kk)
    by_cases w19 : w = 19
    · subst w19
      exact lz_tabIn (off := 1182) dL_law_40 (by decide) (by decide) rfl (by decide) (lc_nobody hl z19 hI hi h7 kk)
    by_cases w20 : w = 20
    · subst w20
      exact lz_tabIn (off := 1238) dL_law_40 (by decide) (by decide) rfl (by decide) (lc_through hl z20 hI hi h7 kk)
    by_cases w21 : w = 21
    · subst w21
      exact lz_tabIn (off := 1294) dL_law_40 (by decide) (by decide) rfl (by decide) (lc_toBeDone hl z21 hI hi h7 kk)
    by_cases w22 : w = 22
    · subst w22
      exact lz_tabIn (off := 1362) dL_law_40 (by decide) (by decide) rfl (by decide) (lc_fits hl z22 hI hi h7 kk)
    by_cases w23 : w = 23
    · subst w23
      exact lz_tabIn (off := 1430) dL_law_40 (by decide) (by decide) rfl (by decide) (lc_repertoire hl z23 hI hi h7 kk)
    by_cases w24 : w = 24
    · subst w24
      exact lz_tabIn (off := 1486) dL_law_40 (by decide) (by decide) rfl (by decide) (lc_choice hl z24 hI hi h7 kk)
    by_cases w25 : w = 25
    · subst w25
      exact lz_tabIn (off := 1542) dL_law_40 (by decide) (by decide) rfl (by decide) (lc_hardest hl z25 hI hi h7 kk)
    by_cases w26 : w = 26
    · subst w26
      exact lz_tabIn (off := 1555) dL_law_40 (by decide) (by decide) rfl (by decide) (lc_concert hl z26 hI hi h7 kk)
    by_cases w27 : w = 27
    · subst w27
      exact lz_tabIn (off := 1623) dL_law_40 (by decide) (by decide) rfl (by decide) (lc_duet hl z27 hI hi h7 kk)
    by_cases w28 : w = 28
    · subst w28
      exact lz_tabIn (off := 1636) dL_law_40 (by decide) (by decide) rfl (by decide) (lc_next hl z28 hI hi h7 kk)
    by_cases w29 : w = 29
    · subst w29
      exact lz_tabIn (off := 1692) dL_law_40 (by decide) (by decide) rfl (by decide) (lc_rush hl z29 hI hi h7 kk)
    by_cases w30 : w = 30
    · subst w30
      exact lz_tabIn (off := 1760) dL_law_40 (by decide) (by decide) rfl (by decide) (lc_sorest hl z30 hI hi h7 kk)
    by_cases w31 : w = 31
    · subst w31
      exact lz_tabIn (off := 1816) dL_law_40 (by decide) (by decide) rfl (by decide) (lc_toGlove hl z31 hI hi h7 kk)
    by_cases w32 : w = 32
    · subst w32
      exact lz_tabIn (off := 1872) dL_law_40 (by decide) (by decide) rfl (by decide) (lc_full hl z32 hI hi h7 kk)
    by_cases w33 : w = 33
    · subst w33
      exact lz_tabIn (off := 1928) dL_law_40 (by decide) (by decide) rfl (by decide) (lc_empty hl z33 hI hi h7 kk)
    by_cases w34 : w = 34
    · subst w34
      exact lz_tabIn (off := 1984) dL_law_40 (by decide) (by decide) rfl (by decide) (lc_common hl z34 hI hi h7 kk)
    by_cases w35 : w = 35
    · subst w35
      exact lz_tabIn (off := 2052) dL_law_40 (by decide) (by decide) rfl (by decide) (lc_work hl z35 hI hi h7 kk)
    by_cases w36 : w = 36
    · subst w36
      exact lz_tabIn (off := 2108) dL_law_40 (by decide) (by decide) rfl (by decide) (lc_mates hl z36 hI hi h7 kk)
    by_cases w37 : w = 37
    · subst w37
      exact lz_tabIn (off := 2164) dL_law_40 (by decide) (by decide) rfl (by decide) (lc_see hl z37 hI hi h7 kk)
    by_cases w38 : w = 38
    · subst w38
      exact lz_tabIn (off := 2244) dL_law_40 (by decide) (by decide) rfl (by decide) (lc_been hl z38 hI hi h7 kk)
    by_cases w39 : w = 39
    · subst w39
      exact lz_tabIn (off := 2300) dL_law_40 (by decide) (by decide) rfl (by decide) (lc_listen hl z39 hI hi h7 kk)
    by_cases w40 : w = 40
    · subst w40
      exact lz_tabIn (off := 2356) dL_law_40 (by decide) (by decide) rfl (by decide) (lc_forget hl z40 hI hi h7 kk)
    by_cases w41 : w = 41
    · subst w41
      exact lz_tabIn (off := 2367) dL_law_40 (by decide) (by decide) rfl (by decide) (lc_game hl z41 hI hi h7 kk)
    by_cases w42 : w = 42
    · subst w42
      exact lz_tabIn (off := 2447) dL_law_40 (by decide) (by decide) rfl (by decide) (lc_years hl z42 hI hi h7 kk)
    by_cases w43 : w = 43
    · subst w43
      exact lz_tabIn (off := 2527) dL_law_40 (by decide) (by decide) rfl (by decide) (lc_image hl z43 hI hi h7 kk)
    by_cases w44 : w = 44
    · subst w44
      exact lz_tabIn (off := 2538) dL_law_40 (by decide) (by decide) rfl (by decide) (lc_restore hl z44 hI hi h7 kk)
    exact lz_tabOut dL_law_40 (by omega) (by omega) (by decide) (lz_widen (by omega) h7 (kk σ v hI))
