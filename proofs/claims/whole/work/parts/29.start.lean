/-! ===== the start of the law ===== -/
theorem zs_w1 {args : Array Value} {s : State} {w : Cond} (hts : ∀ w ∈ lw_tbl, w.before args s = true) (i : Nat) (h : tables_1_1[i]? = some w) : w.before args s = true := hts w (List.mem_append_right _ (sm_t1 w (List.mem_of_getElem? h)))
theorem zs_w2 {args : Array Value} {s : State} {w : Cond} (hts : ∀ w ∈ lw_tbl, w.before args s = true) (i : Nat) (h : tables_1_2[i]? = some w) : w.before args s = true := hts w (List.mem_append_right _ (sm_t2 w (List.mem_of_getElem? h)))
theorem zs_w3 {args : Array Value} {s : State} {w : Cond} (hts : ∀ w ∈ lw_tbl, w.before args s = true) (i : Nat) (h : tables_1_3[i]? = some w) : w.before args s = true := hts w (List.mem_append_right _ (sm_t3 w (List.mem_of_getElem? h)))
theorem zs_w4 {args : Array Value} {s : State} {w : Cond} (hts : ∀ w ∈ lw_tbl, w.before args s = true) (i : Nat) (h : tables_1_4[i]? = some w) : w.before args s = true := hts w (List.mem_append_right _ (sm_t4 w (List.mem_of_getElem? h)))
theorem zs_w5 {args : Array Value} {s : State} {w : Cond} (hts : ∀ w ∈ lw_tbl, w.before args s = true) (i : Nat) (h : tables_1_5[i]? = some w) : w.before args s = true := hts w (List.mem_append_right _ (sm_t5 w (List.mem_of_getElem? h)))
theorem zs_w6 {args : Array Value} {s : State} {w : Cond} (hts : ∀ w ∈ lw_tbl, w.before args s = true) (i : Nat) (h : tables_1_6[i]? = some w) : w.before args s = true := hts w (List.mem_append_right _ (sm_t6 w (List.mem_of_getElem? h)))
theorem zs_w7 {args : Array Value} {s : State} {w : Cond} (hts : ∀ w ∈ lw_tbl, w.before args s = true) (i : Nat) (h : tables_1_7[i]? = some w) : w.before args s = true := hts w (List.mem_append_right _ (sm_t7 w (List.mem_of_getElem? h)))
theorem zs_w8 {args : Array Value} {s : State} {w : Cond} (hts : ∀ w ∈ lw_tbl, w.before args s = true) (i : Nat) (h : tables_1_8[i]? = some w) : w.before args s = true := hts w (List.mem_append_right _ (sm_t8 w (List.mem_of_getElem? h)))
theorem zs_w9 {args : Array Value} {s : State} {w : Cond} (hts : ∀ w ∈ lw_tbl, w.before args s = true) (i : Nat) (h : tables_1_9[i]? = some w) : w.before args s = true := hts w (List.mem_append_right _ (sm_t9 w (List.mem_of_getElem? h)))
def zs_F : List Cond := flatC (Jvm.Cond.and given_1 narrow_1)
theorem zs_f {args : Array Value} {s : State} {w : Cond} (hg : (Jvm.Cond.and given_1 narrow_1).before args s = true) (i : Nat) (h : zs_F[i]? = some w) : w.before args s = true := flat_of_before _ hg w (List.mem_of_getElem? h)
def zs_t : List (String × Nat) := [("BaizeDoor", 106), ("BaizeDoor$Reader", 60), ("BaizeDoor$Reader", 66), ("BaizeDoor$Reader", 71), ("BaizeDoor$Reader", 73), ("BaizeDoor$Reader", 78), ("BaizeDoor$Reader", 83), ("BaizeDoor$Reader", 192), ("BaizeDoor$Reader", 193), ("BaizeDoor$Reader", 194), ("BaizeDoor$Reader", 195), ("BaizeDoor$Reader", 197), ("BaizeDoor$Reader", 198), ("BaizeDoor$Reader", 183), ("BaizeDoor$Reader", 185), ("BaizeDoor$Reader", 187), ("BaizeDoor", 162), ("BaizeDoor", 389), ("BaizeDoor", 185), ("BaizeDoor", 187), ("BaizeDoor", 387), ("BaizeDoor", 218), ("BaizeDoor", 391), ("BaizeDoor", 393), ("BaizeDoor", 300), ("BaizeDoor", 335)]
def zs_p : List Nat := [39, 73, 82, 91, 100, 111, 121, 131, 140, 148, 156, 163, 171, 179, 186, 192, 199, 216, 233, 260, 275, 292, 319, 335, 378, 397]
def zs_tm (i : Nat) : Term := .string (zs_t.getD i ("", 0)).1 (zs_t.getD i ("", 0)).2
def zs_v (i : Nat) : Term := .field (zs_tm i) "java/lang/String" "value" "[B"
def zs_c (i : Nat) : List Cond := [.exactly (zs_tm i) "java/lang/String", .eq (.field (zs_tm i) "java/lang/String" "coder" "B") (.int 0), .arrayOf (zs_v i) .byte, .eq (.length (zs_v i)) (.int (Int32.ofNat (sm_len.getD i 0)))] ++ (List.range (sm_len.getD i 0)).map fun j => .eq (.elem (zs_v i) (.int (Int32.ofNat j))) (.int ((sm_byt.getD i []).getD j 0))
set_option maxRecDepth 100000 in
theorem zs_ok : (List.range 26).all (fun i => decide (zs_c i = (zs_F.drop (zs_p.getD i 0)).take (4 + sm_len.getD i 0))) = true := by decide +kernel
theorem zs_in {i : Nat} (hi : i < 26) : ∀ w ∈ zs_c i, w ∈ zs_F := by
  have h := of_decide_eq_true (List.all_eq_true.mp zs_ok i (List.mem_range.mpr hi))
  intro w hw
  rw [h] at hw
  exact List.mem_of_mem_drop (List.mem_of_mem_take hw)
theorem zs_len : ∀ i, i < 26 → sm_len.getD i 0 < 2 ^ 31 := by decide
theorem zs_str {args : Array Value} {s : State} {A : Nat → Prop} (hg : (Jvm.Cond.and given_1 narrow_1).before args s = true) (hA : ∀ a : Nat, a < s.heap.size → ¬ A a) : ∃ ad : Nat → Nat × Nat, ∀ i, i < 26 → (zs_tm i).eval args s none [] s = some (.ref (ad i).1) ∧ va_O "java/lang/String" (ad i).1 A s s.heap ∧ va_OF "java/lang/String" "coder" "B" (.int 0) (ad i).1 A s s.heap ∧ va_OF "java/lang/String" "value" "[B" (.ref (ad i).2) (ad i).1 A s s.heap ∧ va_T .byte (ad i).2 (sm_len.getD i 0) (fun j => .int ((sm_byt.getD i []).getD j 0)) A s s.heap := by
  have h0 : ∀ i : Nat, ∃ q : Nat × Nat, i < 26 → (zs_tm i).eval args s none [] s = some (.ref q.1) ∧ va_O "java/lang/String" q.1 A s s.heap ∧ va_OF "java/lang/String" "coder" "B" (.int 0) q.1 A s s.heap ∧ va_OF "java/lang/String" "value" "[B" (.ref q.2) q.1 A s s.heap ∧ va_T .byte q.2 (sm_len.getD i 0) (fun j => .int ((sm_byt.getD i []).getD j 0)) A s s.heap := by
    intro i
    by_cases hi : i < 26
    · have hw : ∀ w ∈ zs_c i, w.before args s = true := fun w hw => flat_of_before _ hg w (zs_in hi w hw)
      have hex := hw (.exactly (zs_tm i) "java/lang/String") (by unfold zs_c; simp)
      have hco := hw (.eq (.field (zs_tm i) "java/lang/String" "coder" "B") (.int 0)) (by unfold zs_c; simp)
      have har := hw (.arrayOf (zs_v i) .byte) (by unfold zs_c; simp)
      have hle := hw (.eq (.length (zs_v i)) (.int (Int32.ofNat (sm_len.getD i 0)))) (by unfold zs_c; simp)
      have hel : ∀ j, j < sm_len.getD i 0 → (Cond.eq (.elem (zs_v i) (.int (Int32.ofNat j))) (.int ((sm_byt.getD i []).getD j 0))).before args s = true := fun j hj => hw _ (List.mem_append_right _ (List.mem_map.mpr ⟨j, List.mem_range.mpr hj, rfl⟩))
      obtain ⟨a, c, cA, kA, q1, q2, q3, q4, q5, q6, -⟩ := Cond.exactly_spec (args := args) (first := s) (o := none) (s := s) (idx := []) (t := zs_tm i) (cls := "java/lang/String") hex
      obtain ⟨t, ht, hT⟩ := va_Tof (f := fun j => .int ((sm_byt.getD i []).getD j 0)) (A := A) (zs_len i hi) har (va_eqt hle) (fun j hj => va_eqt (hel j hj)) hA
      exact ⟨(a, t), fun _ => ⟨q1, va_Oof hex q1 hA, vk_OFof q1 (va_eqt hco) hA, vk_OFof q1 ht hA, hT⟩⟩
    · exact ⟨(0, 0), fun h => absurd h hi⟩
  exact Classical.axiomOfChoice h0
def zs_ad (b base : Nat) (ad : Nat → Nat × Nat) : Nat → Nat := fun k => if k < 1000 then base + k else if k < 2000 then (ad (k - 1000)).1 else if k < 5000 then (ad (k - 2000)).2 else if k = 5000 then b else base + 120
theorem zs_a0 {b base : Nat} {ad : Nat → Nat × Nat} {k : Nat} (h : k < 1000) : zs_ad b base ad k = base + k := if_pos h
theorem zs_a1 {b base : Nat} {ad : Nat → Nat × Nat} {i : Nat} (h : i < 26) : zs_ad b base ad (1000 + i) = (ad i).1 := by
  unfold zs_ad
  rw [if_neg (by omega), if_pos (by omega), show 1000 + i - 1000 = i by omega]
theorem zs_a2 {b base : Nat} {ad : Nat → Nat × Nat} {i : Nat} (h : i < 26) : zs_ad b base ad (2000 + i) = (ad i).2 := by
  unfold zs_ad
  rw [if_neg (by omega), if_neg (by omega), if_pos (by omega), show 2000 + i - 2000 = i by omega]
theorem zs_ar {args : Array Value} {s : State} {ty : FieldType} (hty : ∀ C, ty ≠ .object C) (h : (Cond.arrayClass ty).before args s = true) : ∃ cA : ClassId, ArrOfT s cA ty ∧ va_RA s cA ty := by
  obtain ⟨c, k, comp, h1, h2, h3⟩ := Cond.arrayClass_spec h
  refine ⟨c, fun n z => ⟨fun k h => (by cases h), k, h2, comp, h3⟩, ?_⟩
  cases ty with
  | object C => exact absurd rfl (hty C)
  | _ => exact h1
theorem zs_ao {args : Array Value} {s : State} {C : String} (h : (Cond.arrayOver (.object C)).before args s = true) : ∃ cA : ClassId, ArrOfT s cA (.object C) ∧ va_RA s cA (.object C) := by
  obtain ⟨comp, c, k, h1, -, h2, h3, h4⟩ := Cond.arrayOver_spec h
  exact ⟨c, fun n z => ⟨fun k h => (by cases h), k, h2, comp, h3⟩, k, comp, h2, h3, h1, h4⟩
theorem zs_slt : ∀ q ∈ sm_sl, q.2.2.2 < 26 := by decide +kernel
theorem zs_vk {args : Array Value} {s : State} {ad : Nat → Nat × Nat} (hts : ∀ w ∈ lw_tbl, w.before args s = true) (hg : (Jvm.Cond.and given_1 narrow_1).before args s = true) (he : ∀ i, i < 26 → (zs_tm i).eval args s none [] s = some (.ref (ad i).1)) : ∀ q ∈ sm_sl, vk_R q.1 q.2.1 q.2.2.1 (ad q.2.2.2).1 s := by
  intro q hq
  obtain ⟨k, hk⟩ := List.mem_iff_getElem?.mp hq
  have hkl : k < 41 := (List.getElem?_eq_some_iff.mp hk).1
  match k, hkl, hk with
  | 0, _, hk =>
    cases hk
    exact vk_R.of (zs_w3 hts 147 (by decide +kernel)) (he 0 (by decide))
  | 1, _, hk =>
    cases hk
    exact vk_R.of (zs_w3 hts 199 (by decide +kernel)) (he 1 (by decide))
  | 2, _, hk =>
    cases hk
    exact vk_R.of (zs_w4 hts 12 (by decide +kernel)) (he 2 (by decide))
  | 3, _, hk =>
    cases hk
    exact vk_R.of (zs_w4 hts 29 (by decide +kernel)) (he 3 (by decide))
  | 4, _, hk =>
    cases hk
    exact vk_R.of (zs_w4 hts 30 (by decide +kernel)) (he 4 (by decide))
  | 5, _, hk =>
    cases hk
    exact vk_R.of (zs_w4 hts 35 (by decide +kernel)) (he 5 (by decide))
  | 6, _, hk =>
    cases hk
    exact vk_R.of (zs_w4 hts 40 (by decide +kernel)) (he 6 (by decide))
  | 7, _, hk =>
    cases hk
    exact vk_R.of (zs_w4 hts 65 (by decide +kernel)) (he 7 (by decide))
  | 8, _, hk =>
    cases hk
    exact vk_R.of (zs_w4 hts 66 (by decide +kernel)) (he 8 (by decide))
  | 9, _, hk =>
    cases hk
    exact vk_R.of (zs_w4 hts 67 (by decide +kernel)) (he 9 (by decide))
  | 10, _, hk =>
    cases hk
    exact vk_R.of (zs_w4 hts 68 (by decide +kernel)) (he 10 (by decide))
  | 11, _, hk =>
    cases hk
    exact vk_R.of (zs_w4 hts 69 (by decide +kernel)) (he 11 (by decide))
  | 12, _, hk =>
    cases hk
    exact vk_R.of (zs_w4 hts 70 (by decide +kernel)) (he 12 (by decide))
  | 13, _, hk =>
    cases hk
    exact vk_R.of (zs_w4 hts 79 (by decide +kernel)) (he 13 (by decide))
  | 14, _, hk =>
    cases hk
    exact vk_R.of (zs_w4 hts 84 (by decide +kernel)) (he 14 (by decide))
  | 15, _, hk =>
    cases hk
    exact vk_R.of (zs_w4 hts 85 (by decide +kernel)) (he 15 (by decide))
  | 16, _, hk =>
    cases hk
    exact vk_R.of (zs_w4 hts 120 (by decide +kernel)) (he 16 (by decide))
  | 17, _, hk =>
    cases hk
    exact vk_R.of (zs_w4 hts 138 (by decide +kernel)) (he 17 (by decide))
  | 18, _, hk =>
    cases hk
    exact vk_R.of (zs_w4 hts 143 (by decide +kernel)) (he 18 (by decide))
  | 19, _, hk =>
    cases hk
    exact vk_R.of (zs_w4 hts 151 (by decide +kernel)) (he 19 (by decide))
  | 20, _, hk =>
    cases hk
    exact vk_R.of (zs_w4 hts 163 (by decide +kernel)) (he 20 (by decide))
  | 21, _, hk =>
    cases hk
    exact vk_R.of (zs_w4 hts 169 (by decide +kernel)) (he 21 (by decide))
  | 22, _, hk =>
    cases hk
    exact vk_R.of (zs_w4 hts 216 (by decide +kernel)) (he 22 (by decide))
  | 23, _, hk =>
    cases hk
    exact vk_R.of (zs_w4 hts 220 (by decide +kernel)) (he 23 (by decide))
  | 24, _, hk =>
    cases hk
    exact vk_R.of (zs_w5 hts 117 (by decide +kernel)) (he 24 (by decide))
  | 25, _, hk =>
    cases hk
    exact vk_R.of (zs_w6 hts 33 (by decide +kernel)) (he 25 (by decide))
  | 26, _, hk =>
    cases hk
    exact vk_R.of (zs_w6 hts 97 (by decide +kernel)) (va_eqR (zs_f hg 422 (by decide +kernel)) (he 1 (by decide)))
  | 27, _, hk =>
    cases hk
    exact vk_R.of (zs_w6 hts 98 (by decide +kernel)) (va_eqR (zs_f hg 432 (by decide +kernel)) (he 2 (by decide)))
  | 28, _, hk =>
    cases hk
    exact vk_R.of (zs_w6 hts 99 (by decide +kernel)) (va_eqR (zs_f hg 442 (by decide +kernel)) (he 3 (by decide)))
  | 29, _, hk =>
    cases hk
    exact vk_R.of (zs_w6 hts 100 (by decide +kernel)) (va_eqR (zs_f hg 454 (by decide +kernel)) (he 4 (by decide)))
  | 30, _, hk =>
    cases hk
    exact vk_R.of (zs_w6 hts 101 (by decide +kernel)) (va_eqR (zs_f hg 464 (by decide +kernel)) (he 7 (by decide)))
  | 31, _, hk =>
    cases hk
    exact vk_R.of (zs_w6 hts 102 (by decide +kernel)) (va_eqR (zs_f hg 473 (by decide +kernel)) (he 8 (by decide)))
  | 32, _, hk =>
    cases hk
    exact vk_R.of (zs_w6 hts 103 (by decide +kernel)) (va_eqR (zs_f hg 482 (by decide +kernel)) (he 9 (by decide)))
  | 33, _, hk =>
    cases hk
    exact vk_R.of (zs_w6 hts 104 (by decide +kernel)) (va_eqR (zs_f hg 490 (by decide +kernel)) (he 10 (by decide)))
  | 34, _, hk =>
    cases hk
    exact vk_R.of (zs_w6 hts 105 (by decide +kernel)) (va_eqR (zs_f hg 499 (by decide +kernel)) (he 11 (by decide)))
  | 35, _, hk =>
    cases hk
    exact vk_R.of (zs_w6 hts 106 (by decide +kernel)) (va_eqR (zs_f hg 508 (by decide +kernel)) (he 12 (by decide)))
  | 36, _, hk =>
    cases hk
    exact vk_R.of (zs_w7 hts 94 (by decide +kernel)) (va_eqR (zs_f hg 519 (by decide +kernel)) (he 5 (by decide)))
  | 37, _, hk =>
    cases hk
    exact vk_R.of (zs_w7 hts 95 (by decide +kernel)) (va_eqR (zs_f hg 530 (by decide +kernel)) (he 6 (by decide)))
  | 38, _, hk =>
    cases hk
    exact vk_R.of (zs_w7 hts 124 (by decide +kernel)) (va_eqR (zs_f hg 538 (by decide +kernel)) (he 13 (by decide)))
  | 39, _, hk =>
    cases hk
    exact vk_R.of (zs_w7 hts 145 (by decide +kernel)) (va_eqR (zs_f hg 546 (by decide +kernel)) (he 15 (by decide)))
  | 40, _, hk =>
    cases hk
    exact vk_R.of (zs_w7 hts 146 (by decide +kernel)) (va_eqR (zs_f hg 553 (by decide +kernel)) (he 14 (by decide)))
set_option maxHeartbeats 4000000 in
theorem zs_G {p : Program} {s : State} {m : MethodId} {meth : Method} {c : Code} {b L : Nat} {xs : Nat → Int32} (C0 : lw_At p s m meth c b L xs) (hL : L ≤ 3072) : ∃ G : sm_G, G.2.1 5000 = b ∧ lz_C G xs L p s m meth c ∧ sm_NB G s ∧ G.2.1 0 = s.heap.size := by
  obtain ⟨hx, hb, hr, hml, hown, hts, hX, hbl, hlocks, hgv⟩ := id C0
  have hgt := lz_gt hts
  obtain ⟨c0, i0, K0⟩ := u_known (C := RX0) (T := TX0) (N := 3) hgt uw_X0 (hgt _ it_X0)
  obtain ⟨c1, i1, K1⟩ := u_known (C := RX1) (T := TX1) (N := 2) hgt uw_X1 (hgt _ it_X1)
  obtain ⟨c2, i2, K2⟩ := u_known (C := RX2) (T := TX2) (N := 3) hgt uw_X2 (hgt _ it_X2)
  obtain ⟨c3, i3, K3⟩ := u_known (C := RX3) (T := TX3) (N := 5) hgt uw_X3 (hgt _ it_X3)
  obtain ⟨c4, i4, K4⟩ := u_known (C := RX4) (T := TX4) (N := 6) hgt uw_X4 (hgt _ it_X4)
  obtain ⟨c5, i5, K5⟩ := u_known (C := RX5) (T := TX5) (N := 11) hgt uw_X5 (hgt _ it_X5)
  obtain ⟨c6, i6, K6⟩ := u_known (C := RX6) (T := TX6) (N := 4) hgt uw_X6 (hgt _ it_X6)
  obtain ⟨c7, i7, K7⟩ := u_known (C := RX7) (T := TX7) (N := 9) hgt uw_X7 (hgt _ it_X7)
  obtain ⟨c8, i8, K8⟩ := u_known (C := RX8) (T := TX8) (N := 5) hgt uw_X8 (hgt _ it_X8)
  obtain ⟨c9, i9, K9⟩ := u_known (C := RX9) (T := TX9) (N := 4) hgt uw_X9 (hgt _ it_X9)
  obtain ⟨c10, i10, K10⟩ := u_known (C := RX10) (T := TX10) (N := 4) hgt uw_X10 (hgt _ it_X10)
  obtain ⟨c11, i11, K11⟩ := u_known (C := RX11) (T := TX11) (N := 16) hgt uw_X11 (hgt _ it_X11)
  obtain ⟨c12, i12, K12⟩ := u_known (C := RX12) (T := TX12) (N := 59) hgt uw_X12 (hgt _ it_X12)
  obtain ⟨a0, A0⟩ := zs_ar (ty := .int) (fun _ h => by cases h) (hgt _ ar_int)
  obtain ⟨a1, A1⟩ := zs_ar (ty := .byte) (fun _ h => by cases h) (hgt _ ar_byte)
  obtain ⟨a2, A2⟩ := zs_ar (ty := .boolean) (fun _ h => by cases h) (hgt _ ar_boolean)
  obtain ⟨a3, A3⟩ := zs_ao (C := "BaizeDoor$Player") (zs_w1 hts 77 (by decide +kernel))
  obtain ⟨a4, A4⟩ := zs_ao (C := "java/lang/String") (zs_w6 hts 96 (by decide +kernel))
  obtain ⟨a5, A5⟩ := zs_ar (ty := .long) (fun _ h => by cases h) (zs_w9 hts 28 (by decide +kernel))
  have hA : ∀ a : Nat, a < s.heap.size → ¬ (fun q : Nat => s.heap.size ≤ q) a := fun a h1 h2 => absurd h1 (Nat.not_lt.mpr h2)
  obtain ⟨ad, hs⟩ := zs_str (A := fun q : Nat => s.heap.size ≤ q) hgv hA
  let G : sm_G := ((fun k => match k with | 0 => c0 | 1 => c1 | 2 => c2 | 3 => c3 | 4 => c4 | 5 => c5 | 6 => c6 | 7 => c7 | 8 => c8 | 9 => c9 | 10 => c10 | 11 => c11 | _ => c12, fun k => match k with | 0 => i0 | 1 => i1 | 2 => i2 | 3 => i3 | 4 => i4 | 5 => i5 | 6 => i6 | 7 => i7 | 8 => i8 | 9 => i9 | 10 => i10 | 11 => i11 | _ => i12), zs_ad b s.heap.size ad, (fun k => match k with | 0 => a0 | 1 => a1 | 2 => a2 | 3 => a3 | 4 => a4 | _ => a5), fun _ => 0)
  have g0 : G.2.1 0 = s.heap.size := zs_a0 (b := b) (base := s.heap.size) (ad := ad) (k := 0) (by decide)
  have gk : ∀ k, k < sm_NC → G.2.1 k = s.heap.size + k := fun k hk => zs_a0 (b := b) (base := s.heap.size) (ad := ad) (Nat.lt_of_lt_of_le hk (by decide))
  have gA : ∀ q, sm_A G s.heap.size q → s.heap.size ≤ q := by
    rintro q (⟨k, hk, rfl⟩ | h)
    · rw [gk k hk]
      omega
    · exact h
  have hK : va_K G.1 sm_cs (sm_ty G) s := by
    refine ⟨fun k q hq => ?_, fun k q hq => ?_⟩
    · have hk : k < 13 := (List.getElem?_eq_some_iff.mp hq).1
      match k, hk, hq with
      | 0, _, hq => cases hq; exact K0
      | 1, _, hq => cases hq; exact K1
      | 2, _, hq => cases hq; exact K2
      | 3, _, hq => cases hq; exact K3
      | 4, _, hq => cases hq; exact K4
      | 5, _, hq => cases hq; exact K5
      | 6, _, hq => cases hq; exact K6
      | 7, _, hq => cases hq; exact K7
      | 8, _, hq => cases hq; exact K8
      | 9, _, hq => cases hq; exact K9
      | 10, _, hq => cases hq; exact K10
      | 11, _, hq => cases hq; exact K11
      | 12, _, hq => cases hq; exact K12
    · have hk : k < 5 := (List.getElem?_eq_some_iff.mp hq).1
      match k, hk, hq with
      | 0, _, hq => cases hq; exact A0
      | 1, _, hq => cases hq; exact A1
      | 2, _, hq => cases hq; exact A2
      | 3, _, hq => cases hq; exact A3
      | 4, _, hq => cases hq; exact A4
  have hK5 : va_K G.1 sm_cs [(G.2.2.1 5, .long)] s := by
    refine ⟨hK.1, fun k q hq => ?_⟩
    have hk : k < 1 := (List.getElem?_eq_some_iff.mp hq).1
    match k, hk, hq with
    | 0, _, hq => cases hq; exact A5
  have hS : sm_S G (fun q => s.heap.size ≤ q) s s.heap := fun i hi => by
    have e1 : G.2.1 (1000 + i) = (ad i).1 := zs_a1 (b := b) (base := s.heap.size) hi
    have e2 : G.2.1 (2000 + i) = (ad i).2 := zs_a2 (b := b) (base := s.heap.size) hi
    rw [e1, e2]
    exact (hs i hi).2
  have hv : ∀ q ∈ sm_sl, vk_R q.1 q.2.1 q.2.2.1 (G.2.1 (1000 + q.2.2.2)) s := fun q hq => by
    have e1 : G.2.1 (1000 + q.2.2.2) = (ad q.2.2.2).1 := zs_a1 (b := b) (base := s.heap.size) (zs_slt q hq)
    rw [e1]
    exact zs_vk hts hgv (fun i hi => (hs i hi).1) q hq
  have hAA : ∀ a : Nat, a < s.heap.size → ¬ sm_A G s.heap.size a := fun a h1 h2 => absurd h1 (Nat.not_lt.mpr (gA a h2))
  have B : sm_B G s.heap.size s := by
    refine ⟨fun i j hi hj e => by rw [gk i hi, gk j hj] at e; omega, hK, hS.narrow gA, ?_, ?_, ?_, ?_, hv, ?_, ?_⟩
    · exact vx_Zqof (zs_w3 hts 134 (by decide +kernel)) (zs_w1 hts 14 (by decide +kernel)) (zs_f hgv 4 (by decide +kernel)) hAA
    · exact vx_Zqof (zs_w3 hts 136 (by decide +kernel)) (zs_w1 hts 14 (by decide +kernel)) (zs_f hgv 5 (by decide +kernel)) hAA
    · exact va_Zof (zs_w3 hts 213 (by decide +kernel)) (zs_w1 hts 19 (by decide +kernel)) (va_eqi (zs_f hgv 6 (by decide +kernel))) hAA
    · exact va_Zqof (zs_w3 hts 229 (by decide +kernel)) (zs_w1 hts 21 (by decide +kernel)) (zs_f hgv 7 (by decide +kernel)) hAA
    · intro q hq
      rcases List.mem_cons.mp hq with rfl | hq
      · exact va_Nw.of rfl (zs_w4 hts 113 (by decide +kernel))
      · rcases List.mem_cons.mp hq with rfl | hq
        · exact va_Nw.of rfl (zs_w3 hts 109 (by decide +kernel))
        · cases hq
    · intro q hq
      rcases List.mem_cons.mp hq with rfl | hq
      · exact va_Nw.of rfl (zs_w3 hts 111 (by decide +kernel))
      · rcases List.mem_cons.mp hq with rfl | hq
        · exact va_Nw.of rfl (zs_w3 hts 113 (by decide +kernel))
        · rcases List.mem_cons.mp hq with rfl | hq
          · exact va_Nw.of rfl (zs_w3 hts 115 (by decide +kernel))
          · cases hq
  have e5 : G.2.1 5000 = b := by
    show zs_ad b s.heap.size ad 5000 = b
    unfold zs_ad
    rw [if_neg (by omega), if_neg (by omega), if_neg (by omega), if_pos rfl]
  refine ⟨G, e5, ⟨by rw [e5]; exact C0, hL, B, hK5, va_Nc.of (zs_f hgv 38 (by decide +kernel)), gk, ?_⟩, ⟨fun k hk => by rw [gk k hk, g0], hK, by rw [g0]; exact hS, hv, va_AO.of (zs_w1 hts 77 (by decide +kernel)), va_AO.of (zs_w6 hts 96 (by decide +kernel)), ?_⟩, g0⟩
  · show zs_ad b s.heap.size ad 5001 = s.heap.size + 120
    unfold zs_ad
    rw [if_neg (by omega), if_neg (by omega), if_neg (by omega), if_neg (by omega)]
  · intro q hq
    obtain ⟨k, hk⟩ := List.mem_iff_getElem?.mp hq
    have hkl : k < 16 := (List.getElem?_eq_some_iff.mp hk).1
    match k, hkl, hk with
    | 0, _, hk => cases hk; exact va_Nw.of rfl (zs_w1 hts 37 (by decide +kernel))
    | 1, _, hk => cases hk; exact va_Nw.of rfl (zs_w1 hts 43 (by decide +kernel))
    | 2, _, hk => cases hk; exact va_Nw.of rfl (zs_w1 hts 49 (by decide +kernel))
    | 3, _, hk => cases hk; exact va_Nw.of rfl (zs_w1 hts 79 (by decide +kernel))
    | 4, _, hk => cases hk; exact va_Nw.of rfl (zs_w1 hts 233 (by decide +kernel))
    | 5, _, hk => cases hk; exact va_Nw.of rfl (zs_w1 hts 236 (by decide +kernel))
    | 6, _, hk => cases hk; exact va_Nw.of rfl (zs_w2 hts 13 (by decide +kernel))
    | 7, _, hk => cases hk; exact va_Nw.of rfl (zs_w2 hts 33 (by decide +kernel))
    | 8, _, hk => cases hk; exact va_Nw.of rfl (zs_w2 hts 38 (by decide +kernel))
    | 9, _, hk => cases hk; exact va_Nw.of rfl (zs_w2 hts 40 (by decide +kernel))
    | 10, _, hk => cases hk; exact va_Nw.of rfl (zs_w2 hts 62 (by decide +kernel))
    | 11, _, hk => cases hk; exact va_Nw.of rfl (zs_w2 hts 67 (by decide +kernel))
    | 12, _, hk => cases hk; exact va_Nw.of rfl (zs_w2 hts 72 (by decide +kernel))
    | 13, _, hk => cases hk; exact va_Nw.of rfl (zs_w2 hts 93 (by decide +kernel))
    | 14, _, hk => cases hk; exact va_Nw.of rfl (zs_w2 hts 106 (by decide +kernel))
    | 15, _, hk => cases hk; exact va_Nw.of rfl (zs_w2 hts 111 (by decide +kernel))
