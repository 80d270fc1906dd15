/-! ===== the law's own frame: 5000 is the script, 5001 the long[1]; n counts the rounds ===== -/
def R_law : String := "BaizeDoorLaw"
def lw_Q (_ : Array Value) (s : State) (o : Outcome) (t : State) : Prop := o = .returned (some (.int 1)) ∧ Framed s o t [] 601024 7293034
def lw_Z (below : List Frame) (a : Array Value) (s : State) : State → Prop := fun t => ∃ o, t.status = .running ∧ Ended t below o ∧ lw_Q a s o t
/-- the law's own end, with 1 on the stack, nothing written that was there before, its room as the claim has it -/
theorem lw_ret {p : Program} {l : Launch} {e : Env} {s : State} {m : MethodId} {below : List Frame} {meth : Method} {c : Code} {b : Nat} (hx : p.tables.exec = Jvm.exec) (hb : c.code = code) (hr : meth.sig.returnType = ret) (hlocks : meth.locks = false) {pc : Nat} {H : Heap} {ls : Array Slot} (hdg : decode code pc = .ok (.ireturn, 1)) : W p l e room_1 s m #[Value.ref b] below meth c H [] 601024 7293034 (lw_Z below #[Value.ref b] s) (F0 m pc ls [.int 1]) := by
  intro T hT X
  obtain ⟨fs, hret, hrun, hended, hW, hframe⟩ := X.leave (v := some (.int 1)) (hlocks := hlocks) (fun h => by rw [hr] at h; cases h)
  have hmeth' : T.vm.method? m = some meth := X.method'
  refine ⟨T.setFrames fs, ?_, .returned (some (.int 1)), hrun, hended, rfl, ⟨_, rfl⟩, hW, hframe⟩
  jvm_step X.here [X.here.top, hx, hb, hdg, hmeth', hr, ret, narrow_b1]
  (try refine ⟨rfl, ?_⟩); (try refine ⟨rfl, ?_⟩)
  first | (intro acts; rw [hret _ acts rfl rfl rfl]) | rw [hret _ _ rfl rfl rfl]
  exact Steps.refl _
/-- what holds at the law's entry: the machine, the code, the tables' words (any of lw_tbl by 'hts w (by decide +kernel)'), the script of L ints xs at the cell b, what the Statement gives of the start (any of its parts by flat_of_before) -/
def lw_At (p : Program) (s : State) (m : MethodId) (meth : Method) (c : Code) (b L : Nat) (xs : Nat → Int32) : Prop :=
  p.tables.exec = Jvm.exec ∧ c.code = code ∧ meth.sig.returnType = ret ∧ c.maxLocals = 7 ∧ s.vm.findClass R_law = some m.cls ∧ (∀ w ∈ lw_tbl, w.before #[Value.ref b] s = true) ∧ va_X b L xs s s.heap ∧ b < s.heap.size ∧ meth.locks = false ∧ (Jvm.Cond.and given_1 narrow_1).before #[Value.ref b] s = true
def lz_C (G : sm_G) (xs : Nat → Int32) (Lx : Nat) (p : Program) (s : State) (m : MethodId) (meth : Method) (c : Code) : Prop :=
  lw_At p s m meth c (G.2.1 5000) Lx xs ∧ Lx ≤ 3072 ∧ sm_B G s.heap.size s ∧ va_K G.1 sm_cs [(G.2.2.1 5, .long)] s ∧ va_Nc "java/lang/IllegalArgumentException" "java/util/NoSuchElementException" s ∧ (∀ k, k < sm_NC → G.2.1 k = s.heap.size + k) ∧ G.2.1 5001 = s.heap.size + sm_NC
def lz_W (l : Launch) (xs : Nat → Int32) (Lx n pc : Nat) (L : List (Nat × sm_V)) (S : List sm_V) (σ : sm_M) (v : Int64) : Prop :=
  n ≤ 600 → ∀ (G : sm_G) (p : Program) (e : Env) (s : State) (m : MethodId) (below : List Frame) (meth : Method) (c : Code) (H : Heap) (locs : List Loc) (ls : Array Slot),
    lz_C G xs Lx p s m meth c → va_S (sm_A G s.heap.size) s.heap H locs → va_P G.1 sm_cs (sm_cl G σ) H → wz_o G v H → lv_has ls 7 (sm_lv G.2.1 L) →
    W p l e room_1 s m #[Value.ref (G.2.1 5000)] below meth c H locs (121 + n) (14000 + 6 * n) (lw_Z below #[Value.ref (G.2.1 5000)] s) (F0 m pc ls (S.map (sm_vv G.2.1)))
theorem lz_gt {args : Array Value} {s : State} (h : ∀ w ∈ lw_tbl, w.before args s = true) : ∀ w ∈ sm_gt, w.before args s = true := fun w hw => h w (List.mem_filter.mp hw).1
section LZ
variable {l : Launch} {xs : Nat → Int32} {Lx n pc q : Nat} {L L' : List (Nat × sm_V)} {S : List sm_V} {σ σ1 : sm_M} {v : Int64}
theorem lz_aload {j : Fin 4} {i x : Nat} (hd : decode code pc = .ok (.aload_n j, 1)) (hq : pc + 1 = q) (hi : (j : Nat) = i) (a : Nat) (hj : L[a]? = some (i, .inr (.inl x))) (k : lz_W l xs Lx n q L (.inr (.inl x) :: S) σ v) : lz_W l xs Lx n pc L S σ v := by
  subst hq
  intro h6 G p e s m below meth c H locs ls C hS hP ho hl
  exact lv_aload_n C.1.1 C.1.2.1 hd hi (lv_at hl a (sm_lv_at hj)) (k h6 G p e s m below meth c H locs ls C hS hP ho hl)
theorem lz_iload {i : Nat} {x : Int32} (hd : decode code pc = .ok (.iload i, 2)) (hq : pc + 2 = q) (a : Nat) (hj : L[a]? = some (i, .inl x)) (k : lz_W l xs Lx n q L (.inl x :: S) σ v) : lz_W l xs Lx n pc L S σ v := by
  subst hq
  intro h6 G p e s m below meth c H locs ls C hS hP ho hl
  exact lv_iload C.1.1 C.1.2.1 hd (lv_at hl a (sm_lv_at hj)) (k h6 G p e s m below meth c H locs ls C hS hP ho hl)
theorem lz_iconst {z : Int} {x : Int32} (hd : decode code pc = .ok (.iconst z, 1)) (hq : pc + 1 = q) (hv : Int32.ofInt z = x) (k : lz_W l xs Lx n q L (.inl x :: S) σ v) : lz_W l xs Lx n pc L S σ v := by
  subst hq
  intro h6 G p e s m below meth c H locs ls C hS hP ho hl
  exact lv_iconst C.1.1 C.1.2.1 hd hv (k h6 G p e s m below meth c H locs ls C hS hP ho hl)
theorem lz_istore {i : Nat} {x : Int32} (hd : decode code pc = .ok (.istore i, 2)) (hq : pc + 2 = q) (hn : i < 7) (hL : sm_st i (.inl x) L = L') (k : lz_W l xs Lx n q L' S σ v) : lz_W l xs Lx n pc L (.inl x :: S) σ v := by
  subst hq hL
  intro h6 G p e s m below meth c H locs ls C hS hP ho hl
  exact lv_istore (x := x) C.1.1 C.1.2.1 hd hl hn (sm_lv_st G.2.1 i (.inl x) L) (fun ls hl => k h6 G p e s m below meth c H locs ls C hS hP ho hl)
theorem lz_goto {off : Int} (hd : decode code pc = .ok (.goto off, 3)) (ht : (pc : Int) + off = (q : Int)) (k : lz_W l xs Lx n q L S σ v) : lz_W l xs Lx n pc L S σ v := by
  intro h6 G p e s m below meth c H locs ls C hS hP ho hl
  exact lv_goto C.1.1 C.1.2.1 hd ht (k h6 G p e s m below meth c H locs ls C hS hP ho hl)
theorem lz_icmpeq {x y : Int32} {off : Int} {tgt : Nat} (hd : decode code pc = .ok (.if_icmp .eq off, 3)) (ht : (pc : Int) + off = (tgt : Int)) (he : x = y) (kt : lz_W l xs Lx n tgt L S σ v) : lz_W l xs Lx n pc L (.inl y :: .inl x :: S) σ v := by
  intro h6 G p e s m below meth c H locs ls C hS hP ho hl
  exact lv_icmp_eq C.1.1 C.1.2.1 hd ht (fun _ => kt h6 G p e s m below meth c H locs ls C hS hP ho hl) (fun h => absurd he h)
theorem lz_ifne {x : Int32} {off : Int} {tgt : Nat} (hd : decode code pc = .ok (.ifCond .ne off, 3)) (ht : (pc : Int) + off = (tgt : Int)) (hq : pc + 3 = q) (kt : ¬ x = 0 → lz_W l xs Lx n tgt L S σ v) (kf : x = 0 → lz_W l xs Lx n q L S σ v) : lz_W l xs Lx n pc L (.inl x :: S) σ v := by
  subst hq
  intro h6 G p e s m below meth c H locs ls C hS hP ho hl
  exact lv_if_ne C.1.1 C.1.2.1 hd ht (fun h => kt h h6 G p e s m below meth c H locs ls C hS hP ho hl) (fun h => kf h h6 G p e s m below meth c H locs ls C hS hP ho hl)
theorem lz_ifeq {x : Int32} {off : Int} {tgt : Nat} (hd : decode code pc = .ok (.ifCond .eq off, 3)) (ht : (pc : Int) + off = (tgt : Int)) (he : x = 0) (kt : lz_W l xs Lx n tgt L S σ v) : lz_W l xs Lx n pc L (.inl x :: S) σ v := by
  intro h6 G p e s m below meth c H locs ls C hS hP ho hl
  exact lv_if_eq C.1.1 C.1.2.1 hd ht (fun h => kt h6 G p e s m below meth c H locs ls C hS hP ho hl) (fun h => absurd he h)
theorem lz_A {G : sm_G} {s : State} (h : ∀ k, k < sm_NC → G.2.1 k = s.heap.size + k) {q : Nat} (hq : q < s.heap.size) : ¬ sm_A G s.heap.size q := by
  rintro (⟨k, hk, e⟩ | h2)
  · have := h k hk
    omega
  · omega
/-- an int of the script -/
theorem lz_arg {i j : Nat} {z : Int} (d0 : decode code pc = .ok (.aload_n 0, 1)) (d1 : decode code (pc + 1) = .ok (.iload 4, 2)) (d2 : decode code (pc + 3) = .ok (.iconst z, 1)) (hz : Int32.ofInt z = nI j) (d3 : decode code (pc + 4) = .ok (.iadd, 1)) (d4 : decode code (pc + 5) = .ok (.iaload, 1)) (hq : pc + 6 = q) (a b : Nat) (h0 : L[a]? = some (0, .inr (.inl 5000))) (h4 : L[b]? = some (4, .inl (nI i))) (hi : i + j < Lx) (k : lz_W l xs Lx n q L (.inl (xs (i + j)) :: S) σ v) : lz_W l xs Lx n pc L S σ v := by
  subst hq
  intro h6 G p e s m below meth c H locs ls C hS hP ho hl
  have hL := C.2.1
  refine lv_aload_n C.1.1 C.1.2.1 d0 rfl (lv_at hl a (sm_lv_at h0)) ?_
  refine lv_iload C.1.1 C.1.2.1 d1 (lv_at hl b (sm_lv_at h4)) ?_
  refine lv_iconst C.1.1 C.1.2.1 d2 hz ?_
  refine lv_iadd C.1.1 C.1.2.1 d3 ?_
  rw [nI_add]
  have h9 := k h6 G p e s m below meth c H locs ls C hS hP ho hl
  refine va_sld (xs := xs) (L := Lx) C.1.1 C.1.2.1 C.1.2.2.2.2.2.2.1 C.1.2.2.2.2.2.2.2.1 (lz_A C.2.2.2.2.2.1 C.1.2.2.2.2.2.2.2.1) hS (vp_in_nI hi (by omega)) d4 ?_
  rw [nI_clamp (by omega)]
  exact h9
theorem lz_callV {As : List sm_V} {k idx na t N d1 : Nat} {M1 : sm_I} {w : Option sm_V} (hE : sm_E l d1 M1 (.inr (.inl k) :: As) σ (.inl w) σ1) (hm : sm_mv R_law idx na t M1) (hk : sm_kd k = (t, N)) (hn : As.length = na) (hd : d1 ≤ 80) (hs : sm_sz S ≤ 8) (hdg : decode code pc = .ok (.invokevirtual idx, 3)) (hq : pc + 3 = q)
    (kk : lz_W l xs Lx n q L (w.toList ++ S) σ1 v) : lz_W l xs Lx n pc L (As.reverse ++ .inr (.inl k) :: S) σ v := by
  subst hq
  intro h6 G p e s m below meth c H locs ls C hS hP ho hl
  have hlt : G.2.1 5001 < H.size := (Array.getElem?_eq_some_iff.mp ho).1
  refine zh_ok hS (zh_run (cc := code) (nL := 7) C.1.1 C.1.2.1 C.1.2.2.2.1 C.1.2.2.2.2.1 (lz_gt C.1.2.2.2.2.2.1) C.2.2.1 hS hP hl.1 hE hm hk hn (show d1 + 11 ≤ 2048 by omega) (show 60 * d1 + 300 ≤ 84000 by omega) ⟨show 121 + n + 0 ≤ 601024 by omega, show 14000 + 6 * n + 0 ≤ 7293034 by omega⟩ hs hdg) (fun H1 locs1 hP1 hS1 hz hk1 => ?_)
  · refine kk h6 G p e s m below meth c H1 locs1 ls C hS1 hP1 ?_ hl
    unfold wz_o
    rw [hk1 _ hlt (fun j hj => by have := C.2.2.2.2.2.1 j hj; have := C.2.2.2.2.2.2; omega)]
    exact ho
/-- a wrapper by its words -/
def lz_ms (idx na : Nat) (M : sm_I) (hh : List (Nat × Nat × Nat × Nat)) : Prop := Cond.methodLink R_law idx M.1 ∈ sm_gt ∧ Cond.static M.1 ∈ sm_gt ∧ Cond.initialized M.1.cls ∈ sm_gt ∧ Cond.codeWith M.1 M.2.1 M.2.2.1 M.2.2.2 hh ∈ sm_gt ∧ M.1.cls ≠ "java/lang/invoke/MethodHandle" ∧ M.1.cls ≠ "java/lang/invoke/VarHandle" ∧ (parseMethodDescriptor M.1.desc).map (fun d => d.parameters.length) = some na ∧ M.2.2.1 ≤ 41
theorem wz_blind (G : sm_G) (As : List sm_V) (σ : sm_M) (v : Int64) (sz : Nat) : FrameBlind (wz_Pc G As σ v sz) := by
  intro a U g mk h
  obtain ⟨h1, h2, h3, h4, ⟨b1, b2, b3, b4, b5, b6, b7, b8, b9, b10⟩, c1, c2, c3, c4⟩ := h
  exact ⟨h1, h2, h3, h4, ⟨b1, va_K.moved (u := U) (U := U.calling g mk a) (Vm.Alike.refl U.vm) b2, sm_S.moved (u := U) (Vm.Alike.refl U.vm) b3, vx_Zq.moved (u := U) (Vm.Alike.refl U.vm) b4, vx_Zq.moved (u := U) (Vm.Alike.refl U.vm) b5, va_Z.moved (u := U) (Vm.Alike.refl U.vm) b6, va_Zq.moved (u := U) (Vm.Alike.refl U.vm) b7, fun q hq => vk_R.same (u := U) rfl (b8 q hq), fun q hq => va_Nw.same (u := U) rfl rfl (b9 q hq), fun q hq => va_Nw.same (u := U) rfl rfl (b10 q hq)⟩, va_K.moved (u := U) (U := U.calling g mk a) (Vm.Alike.refl U.vm) c1, va_Nc.moved (u := U) (Vm.Alike.refl U.vm) c2, c3, c4⟩
theorem lz_callW {As : List sm_V} {idx na mc ms : Nat} {M1 : sm_I} {hh : List (Nat × Nat × Nat × Nat)} {r : Int32} {v' : Int64} (hE : wz_E l M1 hh As σ v r σ1 v' mc ms) (hm : lz_ms idx na M1 hh) (hn : As.length = na) (hmc : mc ≤ 1) (hms : ms ≤ 6) (hs : sm_sz S ≤ 8) (hdg : decode code pc = .ok (.invokestatic idx, 3)) (hq : pc + 3 = q)
    (kk : lz_W l xs Lx (n + 1) q L (.inl r :: S) σ1 v') (h7 : n < 600) : lz_W l xs Lx n pc L (As.reverse ++ S) σ v := by
  subst hq
  intro h6 G p e s m below meth c H locs ls C hS hP ho hl
  have hlt : G.2.1 5001 < H.size := (Array.getElem?_eq_some_iff.mp ho).1
  have hts := lz_gt C.1.2.2.2.2.2.1
  obtain ⟨m1, m2, m3, m4, m5, m6, m7, m8⟩ := hm
  have est : (As.reverse ++ S).map (sm_vv G.2.1) = (As.map (sm_vv G.2.1)).reverse ++ S.map (sm_vv G.2.1) := by
    rw [List.map_append, List.map_reverse]
  rw [est]
  have hsub : ∀ q, wz_A G H.size q → sm_A G s.heap.size q := by
    rintro q (h | h)
    · exact zh_sub hS.1 h
    · exact Or.inr (by have := C.2.2.2.2.2.2; omega)
  have hne : ∀ k, k < sm_NC → G.2.1 k ≠ G.2.1 5001 := fun j hj => by
    have := C.2.2.2.2.2.1 j hj
    have := C.2.2.2.2.2.2
    omega
  have cw : vx_CSW room_1 s #[Value.ref (G.2.1 5000)] R_law idx M1.1 M1.2.1 M1.2.2.1 M1.2.2.2 hh (wz_ws M1 hh) (wz_rm mc ms) mc ms na := by
    refine vx_cwSW (Ts := sm_gt) na hts ?_ rfl rfl rfl ⟨m5, m6, m7⟩ ⟨show 100 + 1 ≤ 2048 by omega, show 8 + (M1.2.2.1 + 11) + 6000 ≤ 84000 by omega⟩
    intro w hw
    have h9 : w ∈ sm_gt := by
      unfold va_wsS wz_ws at hw
      rcases List.mem_append.mp hw with h | h
      · rcases List.mem_cons.mp h with rfl | h
        · exact m1
        · rcases List.mem_cons.mp h with rfl | h
          · exact m2
          · rcases List.mem_cons.mp h with rfl | h
            · exact m3
            · cases h
      · rcases List.mem_cons.mp h with rfl | h
        · exact m4
        · exact h
    exact ⟨h9, sm_gt_good h9⟩
  have hr := vx_runSX (p := p) (l := l) (e := e) (below := below) (meth := meth) (locs := locs) (cells := 121 + n) (slots := 14000 + 6 * n) (g := F0 m pc ls ((As.map (sm_vv G.2.1)).reverse ++ S.map (sm_vv G.2.1))) (rest := S.map (sm_vv G.2.1)) (cc := code) (nL := 7) (Ts := sm_gt) ⟨C.1.1, C.1.2.1, C.1.2.2.2.1, C.1.2.2.2.2.1, hts⟩ (hE G H.size) cw ⟨wz_blind _ _ _ _ _, fun U hU hW => ⟨rfl, by rw [hU], by rw [hU]; exact hP, by rw [hU]; exact ho, sm_B.move C.2.2.1 hS hU hW, va_K.moved hW.alike C.2.2.2.1, va_Nc.moved hW.alike C.2.2.2.2.1, hne, hlt⟩⟩ rfl (by rw [List.length_map]; exact hn) hl.1 rfl (sm_hW hs) hdg ⟨show 121 + n + mc ≤ 601024 by omega, show 14000 + 6 * n + ms ≤ 7293034 by omega⟩
  intro T hT X
  rcases hr T hT X with ⟨v9, st₀, t, T', L9, h0, X', hL, e1, e2, ⟨hw1, hP1, ho1, hF⟩, st⟩ | ⟨q, st₀, t, T', L9, E, ce, h0, X', hL, e1, e2, hf, -⟩
  · cases hw1
    obtain ⟨k1, k2, k3⟩ := vx_keep h0 e1 hS (fun q _ h => hsub q h) hsub hL hF
    rw [← e1] at hP1 ho1
    obtain ⟨t2, a1, b1⟩ := kk (by omega) G p e s m below meth c T'.heap (locs ++ L9) ls C k3 hP1 ho1 hl T' rfl (stand_widen X' (by omega) (by omega))
    exact ⟨t2, st t2 a1, b1⟩
  · exact hf.elim
theorem lz_pick (ks : List Nat) (h : ks.filterMap (fun i => L[i]?) = L') (k : lz_W l xs Lx n pc L' S σ v) : lz_W l xs Lx n pc L S σ v := by
  intro h6 G p e s m below meth c H locs ls C hS hP ho hl
  subst h
  refine k h6 G p e s m below meth c H locs ls C hS hP ho ⟨hl.1, hl.2.1, fun q hq => ?_⟩
  obtain ⟨z, hz, rfl⟩ := List.mem_map.mp hq
  obtain ⟨i, -, hi⟩ := List.mem_filterMap.mp hz
  exact hl.2.2 _ (List.mem_map.mpr ⟨z, List.mem_of_getElem? hi, rfl⟩)
theorem lz_widen {n' : Nat} (hn : n ≤ n') (h : n' ≤ 600) (k : lz_W l xs Lx n' pc L S σ v) : lz_W l xs Lx n pc L S σ v := by
  intro h6 G p e s m below meth c H locs ls C hS hP ho hl
  exact W.widen (by omega) (by omega) (k h G p e s m below meth c H locs ls C hS hP ho hl)
theorem lg_cmp_self (x : Int64) : lg_cmp x x = 0 := by
  unfold lg_cmp
  rw [if_neg (Int64.lt_irrefl), if_pos rfl]
/-- out[0] is as b -/
theorem lz_long {x : Int32} (a3 a6 : Nat) (d0 : decode code pc = .ok (.aload_n 3, 1)) (d1 : decode code (pc + 1) = .ok (.iconst 0, 1)) (d2 : decode code (pc + 2) = .ok (.laload, 1)) (d3 : decode code (pc + 3) = .ok (.iload 6, 2)) (d4 : decode code (pc + 5) = .ok (.i2l, 1)) (d5 : decode code (pc + 6) = .ok (.lcmp, 1)) (d6 : decode code (pc + 7) = .ok (.ifCond .eq 5, 3)) (h3 : L[a3]? = some (3, .inr (.inl 5001))) (h6 : L[a6]? = some (6, .inl x)) (hv : x.toInt64 = v) (k : lz_W l xs Lx n (pc + 12) L [] σ v) : lz_W l xs Lx n pc L [] σ v := by
  subst hv
  intro h9 G p e s m below meth c H locs ls C hS hP ho hl
  have hPo : va_P G.1 sm_cs [(G.2.1 5001, .inl (G.2.2.1 5, 1, .inr (.inl fun _ => x.toInt64)))] H := fun k q hq => by
    have hk0 : k < 1 := (List.getElem?_eq_some_iff.mp hq).1
    rw [show k = 0 by omega] at hq
    cases hq
    exact ho
  refine lv_aload_n C.1.1 C.1.2.1 d0 rfl (lv_at hl a3 (sm_lv_at h3)) ?_
  refine lv_iconst (v := 0) C.1.1 C.1.2.1 d1 (by decide) ?_
  refine va_lald (f := fun _ => x.toInt64) C.1.1 C.1.2.1 C.2.2.2.1 hPo 0 0 rfl rfl (by unfold vp_in; decide) d2 ?_
  refine lv_iload C.1.1 C.1.2.1 d3 (lv_at hl a6 (sm_lv_at h6)) ?_
  refine lv_i2l C.1.1 C.1.2.1 d4 rfl ?_
  refine W.lcmp C.1.1 C.1.2.1 d5 ?_
  rw [lg_cmp_self]
  refine lv_if_eq (tgt := pc + 12) C.1.1 C.1.2.1 d6 (by omega) (fun _ => ?_) (fun h => absurd rfl h)
  exact k h9 G p e s m below meth c H locs ls C hS hP ho hl
/-- iinc, and back to the head -/
theorem lz_inc {i : Nat} {x : Int32} (hd : decode code 2591 = .ok (.iinc 4 6, 3)) (hg : decode code 2594 = .ok (.goto (-2571), 3)) (j : Nat) (hj : L[j]? = some (4, .inl (nI i))) (hL : sm_st 4 (.inl (nI (i + 6))) L = L') (k : lz_W l xs Lx n 23 L' [] σ v) : lz_W l xs Lx n 2591 L [] σ v := by
  subst hL
  intro h6 G p e s m below meth c H locs ls C hS hP ho hl
  refine lv_iinc (v := nI (i + 6)) C.1.1 C.1.2.1 hd hl (k := j) (sm_lv_at hj) (nI_add i 6) (by decide) (sm_lv_st G.2.1 4 (.inl (nI (i + 6))) L) (fun ls hl => ?_)
  refine lv_goto (tgt := 23) C.1.1 C.1.2.1 hg (by decide) ?_
  exact k h6 G p e s m below meth c H locs ls C hS hP ho hl
end LZ
