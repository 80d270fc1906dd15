/-! ===== calls of the class's and the reference's methods out of any frame; the law's wrappers ===== -/
section ZH
variable {p : Program} {l : Launch} {e : Env} {R : Room} {s : State} {m : MethodId} {args : Array Value} {below : List Frame} {meth : Method} {c : Code} {H : Heap} {locs : List Loc} {cells slots : Nat} {Q : State → Prop} {G : sm_G} {cc : ByteArray} {nL pc : Nat} {ls : Array Slot} {own : String} {S : List sm_V} {σ σ1 : sm_M}
theorem zh_cb {idx n d1 : Nat} {M1 : sm_I} {o1 : sm_O} (hts : ∀ w ∈ sm_gt, w.before args s = true) (hm : sm_mk own idx n M1) (hf : d1 + 11 ≤ R.frames) (hlo : 60 * d1 + 300 ≤ R.locals) : CallB R s args own idx M1.1 M1.2.1 M1.2.2.1 M1.2.2.2 (sm_ws M1) (sm_rm d1 o1) (sm_mc o1) (sm_ms o1) n := by
  obtain ⟨h1, h2, h3, h4, h5, h6, h7⟩ := hm
  refine callB_of (Ts := sm_gt) n hts ?_ rfl rfl rfl (hts _ h2) (hts _ h1) ⟨h4, h5, h6⟩ ⟨?_, ?_⟩
  · intro w hw
    rcases List.mem_cons.mp hw with rfl | hw
    · exact ⟨h3, sm_gt_good h3⟩
    · exact ⟨hw, sm_gt_good hw⟩
  · exact hf
  · show 8 + (M1.2.2.1 + 11) + (60 * d1 + 200) ≤ R.locals
    omega
theorem zh_sub {q : Nat} (hz : s.heap.size ≤ H.size) (h : sm_A G H.size q) : sm_A G s.heap.size q := by
  rcases h with h | h
  · exact Or.inl h
  · exact Or.inr (Nat.le_trans hz h)
theorem zh_run {As : List sm_V} {k idx n t N d1 : Nat} {M1 : sm_I} {o : sm_O} (hx : p.tables.exec = Jvm.exec) (hb : c.code = cc) (hml : c.maxLocals = nL) (hown : s.vm.findClass own = some m.cls) (hts : ∀ w ∈ sm_gt, w.before args s = true) (B : sm_B G s.heap.size s) (hS : va_S (sm_A G s.heap.size) s.heap H locs) (hP : va_P G.1 sm_cs (sm_cl G σ) H) (hl1 : ls.size = nL)
    (hE : sm_E l d1 M1 (.inr (.inl k) :: As) σ o σ1) (hm : sm_mv own idx n t M1) (hk : sm_kd k = (t, N)) (hn : As.length = n) (hf : d1 + 11 ≤ R.frames) (hlo : 60 * d1 + 300 ≤ R.locals) (hcs : cells + sm_mc o ≤ R.cells ∧ slots + sm_ms o ≤ R.slots) (hs : sm_sz S ≤ 8) (hdg : decode cc pc = .ok (.invokevirtual idx, 3)) :
    vx_Run p l e R s m args below meth c H locs cells slots (sm_mc o) (sm_ms o) (F0 m pc ls ((As.reverse ++ .inr (.inl k) :: S).map (sm_vv G.2.1))) (S.map (sm_vv G.2.1)) (sm_Q G o σ1 H.size (Value.ref (G.2.1 k) :: As.map (sm_vv G.2.1)).toArray) (sm_X G o σ1 H.size) (sm_A G H.size) := by
  obtain ⟨hmk, hi, hse, ht, ⟨R9, T9, N9⟩, hcl, hR9⟩ := hm
  have he := sm_cl_at (G := G) (σ := σ) (sm_kd_lt hk (by omega))
  rw [sm_ent_ob hk ht] at he
  have hrc := va_recv B.2.1 hP hcl he
  have est : (As.reverse ++ .inr (.inl k) :: S).map (sm_vv G.2.1) = (As.map (sm_vv G.2.1)).reverse ++ Value.ref (G.2.1 k) :: S.map (sm_vv G.2.1) := by
    rw [List.map_append, List.map_reverse]
    rfl
  rw [est]
  refine vx_runV (Ts := sm_gt) (n := n) (nL := nL) ⟨hx, hb, hml, hown, hts⟩ (hE G H.size) ⟨zh_cb hts hmk hf hlo, hts _ hi, hts _ hse⟩ ⟨sm_blind _ _ _ _, ?_, fun U hU hW => ⟨rfl, by rw [hU], by rw [hU]; exact hP, sm_B.move B hS hU hW⟩⟩ rfl (by rw [List.length_map]; exact hn) hl1 rfl (sm_hW hs) hdg hcs
  rw [← hR9]
  exact hrc
/-- behind a call that returns -/
theorem zh_ok {st0 : List Value} {v : Option sm_V} {a : Array Value} (hS : va_S (sm_A G s.heap.size) s.heap H locs)
    (hr : vx_Run p l e R s m args below meth c H locs cells slots 0 0 (F0 m pc ls st0) (S.map (sm_vv G.2.1)) (sm_Q G (.inl v) σ1 H.size a) (sm_X G (.inl v) σ1 H.size) (sm_A G H.size))
    (kk : ∀ (H1 : Heap) (locs1 : List Loc), va_P G.1 sm_cs (sm_cl G σ1) H1 → va_S (sm_A G s.heap.size) s.heap H1 locs1 → H.size ≤ H1.size → (∀ q, q < H.size → (∀ k, k < sm_NC → G.2.1 k ≠ q) → H1[q]? = H[q]?) → W p l e R s m args below meth c H1 locs1 cells slots Q (F0 m (pc + 3) ls ((v.toList ++ S).map (sm_vv G.2.1)))) :
    W p l e R s m args below meth c H locs cells slots Q (F0 m pc ls st0) := by
  intro T hT X
  rcases hr T hT X with ⟨v9, st₀, t, T', L9, h0, X', hL, e1, e2, ⟨w, hw1, hw2, hP1, hF⟩, st⟩ | ⟨q, st₀, t, T', L9, E, ce, h0, X', hL, e1, e2, ⟨hw1, -, -⟩, -⟩
  · cases hw1
    cases hw2
    obtain ⟨k1, k2, k3⟩ := vx_keep h0 e1 hS (fun q _ h => zh_sub hS.1 h) (fun q h => zh_sub hS.1 h) hL hF
    have e9 : (Option.map (sm_vv G.2.1) v).toList ++ S.map (sm_vv G.2.1) = (v.toList ++ S).map (sm_vv G.2.1) := by
      cases v <;> rfl
    rw [← e1] at hP1
    obtain ⟨z1, z2⟩ := hF
    rw [h0, ← e1] at z1
    rw [h0, ← e1] at z2
    obtain ⟨t2, a1, b1⟩ := kk T'.heap (locs ++ L9) hP1 k3 z1 (fun q hq hk => z2 q hq (by
      rintro (⟨k, hk1, hk2⟩ | h)
      · exact hk k hk1 hk2
      · exact absurd hq (Nat.not_lt.mpr h))) T' rfl X'
    refine ⟨t2, st t2 ?_, b1⟩
    rw [e9]
    exact a1
  · cases hw1
/-- behind a call that throws -/
theorem zh_thr {st0 : List Value} {E : String} {a : Array Value} (hS : va_S (sm_A G s.heap.size) s.heap H locs)
    (hr : vx_Run p l e R s m args below meth c H locs cells slots 1 6 (F0 m pc ls st0) (S.map (sm_vv G.2.1)) (sm_Q G (.inr E) σ1 H.size a) (sm_X G (.inr E) σ1 H.size) (sm_A G H.size))
    (kk : ∀ (H1 : Heap) (locs1 : List Loc) (q : Addr) (ce : Cell), va_P G.1 sm_cs (sm_cl G σ1) H1 → va_S (sm_A G s.heap.size) s.heap H1 locs1 → H.size ≤ H1.size → (∀ q, q < H.size → (∀ k, k < sm_NC → G.2.1 k ≠ q) → H1[q]? = H[q]?) → H1[q]? = some ce → ce.vm = .none → s.vm.findClass E = some ce.cls → vx_W p l e R s m args below meth c H1 locs1 (cells + 1) (slots + 6) Q (F0 m pc ls (S.map (sm_vv G.2.1))) q) :
    W p l e R s m args below meth c H locs cells slots Q (F0 m pc ls st0) := by
  intro T hT X
  rcases hr T hT X with ⟨v9, st₀, t, T', L9, h0, X', hL, e1, e2, ⟨w, hw1, -⟩, st⟩ | ⟨q, st₀, t, T', L9, E9, ce, h0, X', hL, e1, e2, ⟨hw1, hP1, hF⟩, hce, hcv, hcl, st⟩
  · cases hw1
  · cases hw1
    obtain ⟨k1, k2, k3⟩ := vx_keep h0 e1 hS (fun q _ h => zh_sub hS.1 h) (fun q h => zh_sub hS.1 h) hL hF
    rw [← e1] at hP1 hce
    obtain ⟨z1, z2⟩ := hF
    rw [h0, ← e1] at z1
    rw [h0, ← e1] at z2
    obtain ⟨t2, a1, b1⟩ := kk T'.heap (locs ++ L9) q ce hP1 k3 z1 (fun q hq hk => z2 q hq (by
      rintro (⟨k, hk1, hk2⟩ | h)
      · exact hk k hk1 hk2
      · exact absurd hq (Nat.not_lt.mpr h))) hce hcv hcl T' rfl X'
    exact ⟨t2, st.trans a1, b1⟩
end ZH
/-! the law's wrappers: 5001 is the cell of its long[1] -/
def wz_o (G : sm_G) (v : Int64) (H : Heap) : Prop := H[G.2.1 5001]? = some (vp_cell (G.2.2.1 5) (1, .inr (.inl fun _ => v)))
def wz_A (G : sm_G) (sz : Nat) : Nat → Prop := fun q => sm_A G sz q ∨ q = G.2.1 5001
def wz_B (G : sm_G) (sz : Nat) (U : State) : Prop := sm_B G sz U ∧ va_K G.1 sm_cs [(G.2.2.1 5, .long)] U ∧ va_Nc "java/lang/IllegalArgumentException" "java/util/NoSuchElementException" U ∧ (∀ k, k < sm_NC → G.2.1 k ≠ G.2.1 5001) ∧ G.2.1 5001 < sz
def wz_ws (M : sm_I) (hh : List (Nat × Nat × Nat × Nat)) : List Cond := .codeWith M.1 M.2.1 M.2.2.1 M.2.2.2 hh :: sm_gt
def wz_Pc (G : sm_G) (As : List sm_V) (σ : sm_M) (v : Int64) (sz : Nat) : Array Value → State → Prop := va_Pc (As.map (sm_vv G.2.1)) (fun U => U.heap.size = sz ∧ va_P G.1 sm_cs (sm_cl G σ) U.heap ∧ wz_o G v U.heap ∧ wz_B G sz U)
def wz_Q (G : sm_G) (r : Int32) (σ' : sm_M) (v' : Int64) (sz : Nat) : Array Value → State → Outcome → State → Prop := fun _ st oc t => oc = .returned (some (.int r)) ∧ va_P G.1 sm_cs (sm_cl G σ') t.heap ∧ wz_o G v' t.heap ∧ va_F (wz_A G sz) st t
def wz_rm (mc ms : Nat) : Room := { frames := 100, cells := mc, slots := ms, locals := 6000 }
/-- wrapper M with the table hh, called with As in the memory σ, answers r, the memory is σ' then, and the long v' -/
def wz_E (l : Launch) (M : sm_I) (hh : List (Nat × Nat × Nat × Nat)) (As : List sm_V) (σ : sm_M) (v : Int64) (r : Int32) (σ' : sm_M) (v' : Int64) (mc ms : Nat) : Prop :=
  ∀ (G : sm_G) (sz : Nat), vx_Met l M.1 (wz_ws M hh) (wz_rm mc ms) (wz_Pc G As σ v sz) (wz_Q G r σ' v' sz) (fun _ _ _ => False) mc ms (wz_A G sz)
def wz_C (M : sm_I) (hh : List (Nat × Nat × Nat × Nat)) (p : Program) (s : State) (m : MethodId) (args : Array Value) (meth : Method) (c : Code) : Prop :=
  p.tables.exec = Jvm.exec ∧ c.code = M.2.1 ∧ c.maxLocals = M.2.2.1 ∧ s.vm.findClass M.1.cls = some m.cls ∧ (∀ w ∈ sm_gt, w.before args s = true) ∧ meth.sig.returnType = M.2.2.2 ∧ meth.locks = false ∧ c.exceptionTable.toList = tableOf hh
/-- the wrapper's goal at its frame -/
def wz_W (l : Launch) (M : sm_I) (hh : List (Nat × Nat × Nat × Nat)) (pc : Nat) (L : List (Nat × sm_V)) (S : List sm_V) (σ : sm_M) (v : Int64) (r : Int32) (σ' : sm_M) (v' : Int64) (mc ms : Nat) : Prop :=
  ∀ (G : sm_G) (p : Program) (e : Env) (s : State) (m : MethodId) (args : Array Value) (below : List Frame) (meth : Method) (c : Code) (ls : Array Slot),
    wz_C M hh p s m args meth c → wz_B G s.heap.size s → va_P G.1 sm_cs (sm_cl G σ) s.heap → wz_o G v s.heap → lv_has ls M.2.2.1 (sm_lv G.2.1 L) →
    W p l e (wz_rm mc ms) s m args below meth c s.heap [] 0 0 (vx_MQ below (wz_Q G r σ' v' s.heap.size) (fun _ _ _ => False) args s mc ms (wz_A G s.heap.size)) (F0 m pc ls (S.map (sm_vv G.2.1)))
section WZ
variable {l : Launch} {M : sm_I} {hh : List (Nat × Nat × Nat × Nat)} {pc q : Nat} {L : List (Nat × sm_V)} {S : List sm_V} {σ σ' : sm_M} {v v' : Int64} {r : Int32} {mc ms : Nat}
theorem wz_meth {As : List sm_V} (hy : plainName M.1.cls = true) (hn : sm_sz As ≤ M.2.2.1) (k : wz_W l M hh 0 (sm_args 0 As) [] σ v r σ' v' mc ms) : wz_E l M hh As σ v r σ' v' mc ms := by
  intro G sz
  refine vx_ofWH (cc := M.2.1) (maxL := M.2.2.1) (ret := M.2.2.2) (hh := hh) hy rfl ?_
  intro p e s m args below meth c s₁ B hml hv
  obtain ⟨rfl, hsz, hP, ho, hB⟩ := hv
  subst hsz
  have hts := atoms_spec (ws := wz_ws M hh) B.pre
  have hl := lv_entry (As.map (sm_vv G.2.1)) (n := M.2.2.1) (by rw [sm_sl_len]; exact hn)
  rw [lg_entry_eq]
  rw [sm_lv_args] at hl
  exact k G p e s m _ below meth c _ ⟨B.exec, B.bytes, hml, findClass_of_methodNamed B.named, fun w hw => hts w (List.mem_cons_of_mem _ hw), B.returns, B.notSynchronized, vx_table (x := M.1) B (hts _ List.mem_cons_self)⟩ hB hP ho hl
theorem wz_aload_n {n : Fin 4} {i x : Nat} (hd : decode M.2.1 pc = .ok (.aload_n n, 1)) (hq : pc + 1 = q) (hi : (n : Nat) = i) (j : Nat) (hj : L[j]? = some (i, .inr (.inl x))) (k : wz_W l M hh q L (.inr (.inl x) :: S) σ v r σ' v' mc ms) : wz_W l M hh pc L S σ v r σ' v' mc ms := by
  subst hq
  intro G p e s m args below meth c ls C B hP ho hl
  exact lv_aload_n C.1 C.2.1 hd hi (lv_at hl j (sm_lv_at hj)) (k G p e s m args below meth c ls C B hP ho hl)
theorem wz_aload {i x : Nat} (hd : decode M.2.1 pc = .ok (.aload i, 2)) (hq : pc + 2 = q) (j : Nat) (hj : L[j]? = some (i, .inr (.inl x))) (k : wz_W l M hh q L (.inr (.inl x) :: S) σ v r σ' v' mc ms) : wz_W l M hh pc L S σ v r σ' v' mc ms := by
  subst hq
  intro G p e s m args below meth c ls C B hP ho hl
  exact lv_aload C.1 C.2.1 hd (lv_at hl j (sm_lv_at hj)) (k G p e s m args below meth c ls C B hP ho hl)
theorem wz_iload_n {n : Fin 4} {i : Nat} {x : Int32} (hd : decode M.2.1 pc = .ok (.iload_n n, 1)) (hq : pc + 1 = q) (hi : (n : Nat) = i) (j : Nat) (hj : L[j]? = some (i, .inl x)) (k : wz_W l M hh q L (.inl x :: S) σ v r σ' v' mc ms) : wz_W l M hh pc L S σ v r σ' v' mc ms := by
  subst hq
  intro G p e s m args below meth c ls C B hP ho hl
  exact lv_iload_n C.1 C.2.1 hd hi (lv_at hl j (sm_lv_at hj)) (k G p e s m args below meth c ls C B hP ho hl)
theorem wz_iconst {n : Int} {x : Int32} (hd : decode M.2.1 pc = .ok (.iconst n, 1)) (hq : pc + 1 = q) (hv : Int32.ofInt n = x) (k : wz_W l M hh q L (.inl x :: S) σ v r σ' v' mc ms) : wz_W l M hh pc L S σ v r σ' v' mc ms := by
  subst hq
  intro G p e s m args below meth c ls C B hP ho hl
  exact lv_iconst C.1 C.2.1 hd hv (k G p e s m args below meth c ls C B hP ho hl)
theorem wz_sub {G : sm_G} {sz : Nat} {q : Nat} (h : sm_A G sz q) : wz_A G sz q := Or.inl h
theorem wz_keep {G : sm_G} {s : State} {H1 : Heap} {locs : List Loc} (hS : va_S (sm_A G s.heap.size) s.heap H1 locs) : va_S (wz_A G s.heap.size) s.heap H1 locs := ⟨hS.1, fun q h1 h2 => hS.2.1 q h1 (fun h => h2 (Or.inl h)), fun q hq => Or.inl (hS.2.2 q hq)⟩
/-- the call returns x: it is laid into the long, 0 is the answer -/
theorem wz_ok {As : List sm_V} {idx n d1 p1 p2 p3 p4 : Nat} {off : Int} {M1 : sm_I} {x : Int32} (hE : sm_E l d1 M1 (.inr (.inl 0) :: As) σ (.inl (some (.inl x))) σ') (hm : sm_mv M.1.cls idx n 11 M1) (hn : As.length = n) (hd : d1 ≤ 80) (hi : M.2.2.2 = some .int)
    (h0 : decode M.2.1 pc = .ok (.invokevirtual idx, 3)) (e1 : pc + 3 = p1) (h1 : decode M.2.1 p1 = .ok (.i2l, 1)) (e2 : p1 + 1 = p2) (h2 : decode M.2.1 p2 = .ok (.lastore, 1)) (e3 : p2 + 1 = p3) (h3 : decode M.2.1 p3 = .ok (.goto off, 3)) (e4 : (p3 : Int) + off = (p4 : Int)) (h4 : decode M.2.1 p4 = .ok (.iconst 0, 1)) (h5 : decode M.2.1 (p4 + 1) = .ok (.ireturn, 1)) :
    wz_W l M hh pc L (As.reverse ++ .inr (.inl 0) :: [.inl 0, .inr (.inl 5001)]) σ v 0 σ' x.toInt64 0 0 := by
  subst e1 e2 e3
  intro G p e s m args below meth c ls C B hP ho hl
  refine zh_ok (S := [.inl 0, .inr (.inl 5001)]) va_S.rf (zh_run C.1 C.2.1 C.2.2.1 C.2.2.2.1 C.2.2.2.2.1 B.1 va_S.rf hP hl.1 hE hm kd_0 hn (show d1 + 11 ≤ 100 by omega) (show 60 * d1 + 300 ≤ 6000 by omega) ⟨Nat.zero_le _, Nat.zero_le _⟩ (by decide) h0) (fun H1 locs1 hP1 hS1 hz hk => ?_)
  have ho1 : wz_o G v H1 := by
    unfold wz_o
    rw [hk _ B.2.2.2.2 (fun k hk2 => B.2.2.2.1 k hk2)]
    exact ho
  refine lv_i2l C.1 C.2.1 h1 rfl ?_
  have hPo : va_P G.1 sm_cs [(G.2.1 5001, .inl (G.2.2.1 5, 1, .inr (.inl fun _ => v)))] H1 := fun k q hq => by
    have hk0 : k < 1 := (List.getElem?_eq_some_iff.mp hq).1
    rw [show k = 0 by omega] at hq
    cases hq
    exact ho1
  have hDo : va_D (wz_A G s.heap.size) [(G.2.1 5001, .inl (G.2.2.1 5, 1, .inr (.inl fun _ => v)))] := by
    refine ⟨fun i j a b hi hj _ => ?_, fun k q hq => ?_⟩
    · have h1 : i < 1 := (List.getElem?_eq_some_iff.mp hi).1
      have h2 : j < 1 := (List.getElem?_eq_some_iff.mp hj).1
      omega
    · have hk0 : k < 1 := (List.getElem?_eq_some_iff.mp hq).1
      rw [show k = 0 by omega] at hq
      cases hq
      exact Or.inr rfl
  obtain ⟨cell0, hl0⟩ : ∃ z, H1[G.2.1 5001]? = some z := ⟨_, ho1⟩
  have hlt := (Array.getElem?_eq_some_iff.mp hl0).1
  refine W.last C.1 C.2.1 (hPo 0 _ rfl) ((B.2.1.2 0 _ rfl).1 1 (fun j => .long v)) (fun q => by cases q) (by show ¬ ((0 : Int32) < 0 ∨ (arrV _ _ _).slots.size ≤ _); rw [arrV_size]; exact (by decide : ¬ ((0 : Int32) < 0 ∨ 1 ≤ (0 : Int32).toNatClampNeg))) rfl rfl h2 fun H2 e9 z9 oq => ?_
  have hS2 := fun k : Nat => (wz_keep hS1).put (k := k) z9 oq (Or.inr rfl)
  have hP2 : va_P G.1 sm_cs (sm_cl G σ') H2 := hP1.kept (fun k q hq => by
    obtain ⟨hk1, rfl⟩ := sm_cl_get hq
    exact oq _ (B.2.2.2.1 k hk1))
  have ho2 : wz_o G x.toInt64 H2 := by
    unfold wz_o
    rw [e9, vp_cell_l, vp_cell_l, arrV_store]
    refine congrArg some (sn_arrV (fun j hj => ?_))
    obtain rfl : j = 0 := by omega
    simp [updV]
  have fin9 : ∀ locs2, va_S (wz_A G s.heap.size) s.heap H2 locs2 → W p l e (wz_rm 0 0) s m args below meth c H2 locs2 0 0 (vx_MQ below (wz_Q G 0 σ' x.toInt64 s.heap.size) (fun _ _ _ => False) args s 0 0 (wz_A G s.heap.size)) (F0 m (pc + 3 + 1 + 1) ls []) := fun locs2 hS2 => by
    refine lv_goto (tgt := p4) C.1 C.2.1 h3 e4 ?_
    refine lv_iconst (v := 0) C.1 C.2.1 h4 (by decide) ?_
    refine vx_ret ?_
    exact W.iret (v := 0) C.1 C.2.1 (C.2.2.2.2.2.1.trans hi) (fun t ht hW => ⟨rfl, by rw [ht]; exact hP2, by rw [ht]; exact ho2, hS2.F ht⟩) hS2.2.2 h5 C.2.2.2.2.2.2.1
  exact fin9 _ (hS2 _)
/-- the handler's end -/
theorem wz_hand {G : sm_G} {p : Program} {e : Env} {s : State} {m : MethodId} {args : Array Value} {below : List Frame} {meth : Method} {c : Code} {ls : Array Slot} {H1 : Heap} {locs1 : List Loc} {qa : Addr} {hp p2 : Nat} {kn : Int} {lv : List (Nat × Value)} (C : wz_C M hh p s m args meth c) (hi : M.2.2.2 = some .int) (hl : lv_has ls M.2.2.1 lv) (hP1 : va_P G.1 sm_cs (sm_cl G σ') H1) (ho1 : wz_o G v' H1) (hS1 : va_S (sm_A G s.heap.size) s.heap H1 locs1)
    (hst : (∃ n : Fin 4, decode M.2.1 hp = .ok (.astore_n n, 1) ∧ p2 = hp + 1 ∧ (n : Nat) < M.2.2.1) ∨ ∃ i, decode M.2.1 hp = .ok (.astore i, 2) ∧ p2 = hp + 2 ∧ i < M.2.2.1) (hk : decode M.2.1 p2 = .ok (.iconst kn, 1)) (hv : Int32.ofInt kn = r) (h5 : decode M.2.1 (p2 + 1) = .ok (.ireturn, 1)) :
    W p l e (wz_rm 1 6) s m args below meth c H1 locs1 1 6 (vx_MQ below (wz_Q G r σ' v' s.heap.size) (fun _ _ _ => False) args s 1 6 (wz_A G s.heap.size)) (F0 m hp ls [.ref qa]) := by
  have fin9 : ∀ ls : Array Slot, W p l e (wz_rm 1 6) s m args below meth c H1 locs1 1 6 (vx_MQ below (wz_Q G r σ' v' s.heap.size) (fun _ _ _ => False) args s 1 6 (wz_A G s.heap.size)) (F0 m p2 ls []) := fun ls => by
    refine lv_iconst (v := r) C.1 C.2.1 hk hv ?_
    refine vx_ret ?_
    exact W.iret (v := r) C.1 C.2.1 (C.2.2.2.2.2.1.trans hi) (fun t ht hW => ⟨rfl, by rw [ht]; exact hP1, by rw [ht]; exact ho1, (wz_keep hS1).F ht⟩) (wz_keep hS1).2.2 h5 C.2.2.2.2.2.2.1
  rcases hst with ⟨n, h1, rfl, h3⟩ | ⟨i, h1, rfl, h3⟩
  · exact lv_astore_n C.1 C.2.1 h1 rfl hl h3 rfl (fun ls _ => fin9 ls)
  · exact lv_astore C.1 C.2.1 h1 hl h3 rfl (fun ls _ => fin9 ls)
/-- the call throws, the first row takes it -/
theorem wz_thr1 {As : List sm_V} {idx n d1 a b hp ct p2 : Nat} {t : List (Nat × Nat × Nat × Nat)} {kn : Int} {E : String} {M1 : sm_I} (hE : sm_E l d1 M1 (.inr (.inl 0) :: As) σ (.inr E) σ') (hm : sm_mv M.1.cls idx n 11 M1) (hn : As.length = n) (hd : d1 ≤ 80) (hi : M.2.2.2 = some .int)
    (h0 : decode M.2.1 pc = .ok (.invokevirtual idx, 3)) (hcov : covers ⟨a, b, hp, ct⟩ pc = true) (hct : ct ≠ 0) (hlink : Cond.classLink M.1.cls ct E ∈ sm_gt) (hbc : (E, E) ∈ sm_bc)
    (hst : (∃ n : Fin 4, decode M.2.1 hp = .ok (.astore_n n, 1) ∧ p2 = hp + 1 ∧ (n : Nat) < M.2.2.1) ∨ ∃ i, decode M.2.1 hp = .ok (.astore i, 2) ∧ p2 = hp + 2 ∧ i < M.2.2.1) (hk : decode M.2.1 p2 = .ok (.iconst kn, 1)) (hv : Int32.ofInt kn = r) (h5 : decode M.2.1 (p2 + 1) = .ok (.ireturn, 1)) :
    wz_W l M ((a, b, hp, ct) :: t) pc L (As.reverse ++ .inr (.inl 0) :: [.inl 0, .inr (.inl 5001)]) σ v r σ' v 1 6 := by
  intro G p e s m args below meth c ls C B hP ho hl
  refine zh_thr (S := [.inl 0, .inr (.inl 5001)]) va_S.rf (zh_run C.1 C.2.1 C.2.2.1 C.2.2.2.1 C.2.2.2.2.1 B.1 va_S.rf hP hl.1 hE hm kd_0 hn (show d1 + 11 ≤ 100 by omega) (show 60 * d1 + 300 ≤ 6000 by omega) ⟨Nat.le_refl _, Nat.le_refl _⟩ (by decide) h0) (fun H1 locs1 qa ce hP1 hS1 hz hk1 hce hcv hcl => ?_)
  have ho1 : wz_o G v H1 := by
    unfold wz_o
    rw [hk1 _ B.2.2.2.2 (fun k hk2 => B.2.2.2.1 k hk2)]
    exact ho
  refine zt_catch1 (x := ⟨a, b, hp, ct⟩) (t := tableOf t) C.2.2.2.1 C.2.2.2.2.2.2.2 hcov hct (C.2.2.2.2.1 _ hlink) (va_Nw.use rfl (B.1.2.2.2.2.2.2.2.2.1 _ hbc)) hce hcv hcl ?_
  exact wz_hand C hi hl hP1 ho1 hS1 hst hk hv h5
/-- the call throws, the second row takes it -/
theorem wz_thr2 {As : List sm_V} {idx n d1 a b hp ct a' b' hp' ct' p2 : Nat} {t : List (Nat × Nat × Nat × Nat)} {kn : Int} {M1 : sm_I} (hE : sm_E l d1 M1 (.inr (.inl 0) :: As) σ (.inr "java/lang/IllegalArgumentException") σ') (hm : sm_mv M.1.cls idx n 11 M1) (hn : As.length = n) (hd : d1 ≤ 80) (hi : M.2.2.2 = some .int)
    (h0 : decode M.2.1 pc = .ok (.invokevirtual idx, 3)) (hcov' : covers ⟨a', b', hp', ct'⟩ pc = true) (hct' : ct' ≠ 0) (hlink' : Cond.classLink M.1.cls ct' "java/util/NoSuchElementException" ∈ sm_gt) (hcov : covers ⟨a, b, hp, ct⟩ pc = true) (hct : ct ≠ 0) (hlink : Cond.classLink M.1.cls ct "java/lang/IllegalArgumentException" ∈ sm_gt)
    (hst : (∃ n : Fin 4, decode M.2.1 hp = .ok (.astore_n n, 1) ∧ p2 = hp + 1 ∧ (n : Nat) < M.2.2.1) ∨ ∃ i, decode M.2.1 hp = .ok (.astore i, 2) ∧ p2 = hp + 2 ∧ i < M.2.2.1) (hk : decode M.2.1 p2 = .ok (.iconst kn, 1)) (hv : Int32.ofInt kn = r) (h5 : decode M.2.1 (p2 + 1) = .ok (.ireturn, 1)) :
    wz_W l M ((a', b', hp', ct') :: (a, b, hp, ct) :: t) pc L (As.reverse ++ .inr (.inl 0) :: [.inl 0, .inr (.inl 5001)]) σ v r σ' v 1 6 := by
  intro G p e s m args below meth c ls C B hP ho hl
  refine zh_thr (S := [.inl 0, .inr (.inl 5001)]) va_S.rf (zh_run C.1 C.2.1 C.2.2.1 C.2.2.2.1 C.2.2.2.2.1 B.1 va_S.rf hP hl.1 hE hm kd_0 hn (show d1 + 11 ≤ 100 by omega) (show 60 * d1 + 300 ≤ 6000 by omega) ⟨Nat.le_refl _, Nat.le_refl _⟩ (by decide) h0) (fun H1 locs1 qa ce hP1 hS1 hz hk1 hce hcv hcl => ?_)
  have ho1 : wz_o G v H1 := by
    unfold wz_o
    rw [hk1 _ B.2.2.2.2 (fun k hk2 => B.2.2.2.1 k hk2)]
    exact ho
  refine zt_catch2 (y := ⟨a', b', hp', ct'⟩) (x := ⟨a, b, hp, ct⟩) (t := tableOf t) C.2.2.2.1 C.2.2.2.2.2.2.2 hcov' hct' (C.2.2.2.2.1 _ hlink') B.2.2.1 hcov hct (C.2.2.2.2.1 _ hlink) (va_Nw.use rfl (B.1.2.2.2.2.2.2.2.2.1 ("java/lang/IllegalArgumentException", "java/lang/IllegalArgumentException") (by decide))) hce hcv hcl ?_
  exact wz_hand C hi hl hP1 ho1 hS1 hst hk hv h5
end WZ
