/-! ===== returns, methods, calls ===== -/
section SMC
variable {l : Launch} {d : Nat} {M : sm_I} {pc q : Nat} {L L' : List (Nat × sm_V)} {S : List sm_V} {σ σ' : sm_M} {o : sm_O}
theorem sm_iret {x : Int32} (hd : decode M.2.1 pc = .ok (.ireturn, 1)) (hr : M.2.2.2 = some .int) : sm_W l d M pc L [.inl x] σ (.inl (some (.inl x))) σ := by
  intro G p e s m args below meth c H locs ls C B hS hP hl
  refine vx_ret ?_
  exact W.iret (v := x) C.1 C.2.1 (C.2.2.2.2.2.1.trans hr) (fun t ht hW => ⟨_, rfl, rfl, by rw [ht]; exact hP, hS.F ht⟩) hS.2.2 hd C.2.2.2.2.2.2.1
theorem sm_zret {x : Int32} (hd : decode M.2.1 pc = .ok (.ireturn, 1)) (hr : M.2.2.2 = some .boolean) (hx : x = 0 ∨ x = 1) : sm_W l d M pc L [.inl x] σ (.inl (some (.inl x))) σ := by
  intro G p e s m args below meth c H locs ls C B hS hP hl
  refine vx_ret ?_
  exact W.zret (v := x) C.1 C.2.1 (C.2.2.2.2.2.1.trans hr) (by rcases hx with rfl | rfl <;> rfl) (fun t ht hW => ⟨_, rfl, rfl, by rw [ht]; exact hP, hS.F ht⟩) hS.2.2 hd C.2.2.2.2.2.2.1
theorem sm_vret (hd : decode M.2.1 pc = .ok (.return_, 1)) (hr : M.2.2.2 = none) : sm_W l d M pc L [] σ (.inl none) σ := by
  intro G p e s m args below meth c H locs ls C B hS hP hl
  refine vx_ret ?_
  exact W.vret C.1 C.2.1 (C.2.2.2.2.2.1.trans hr) (fun t ht hW => ⟨_, rfl, rfl, by rw [ht]; exact hP, hS.F ht⟩) hS.2.2 hd C.2.2.2.2.2.2.1
theorem sm_aret {k : Nat} {C9 : String} (hd : decode M.2.1 pc = .ok (.areturn, 1)) (hr : M.2.2.2 = some (.object C9)) : sm_W l d M pc L [.inr (.inl k)] σ (.inl (some (.inr (.inl k)))) σ := by
  intro G p e s m args below meth c H locs ls C B hS hP hl
  refine vx_ret ?_
  exact W.aret (v := .ref (G.2.1 k)) C.1 C.2.1 (C.2.2.2.2.2.1.trans hr) (Or.inl ⟨_, rfl⟩) (Or.inr ⟨_, rfl⟩) (fun t ht hW => ⟨_, rfl, rfl, by rw [ht]; exact hP, hS.F ht⟩) hS.2.2 hd C.2.2.2.2.2.2.1
/-- the locals at a method's entry -/
def sm_args : Nat → List sm_V → List (Nat × sm_V)
  | _, [] => []
  | i, v :: r => (i, v) :: sm_args (if sm_lg v then i + 2 else i + 1) r
theorem sm_lv_args (ad : Nat → Nat) : ∀ (As : List sm_V) (i : Nat), lv_args i (As.map (sm_vv ad)) = sm_lv ad (sm_args i As)
  | [], _ => rfl
  | v :: r, i => by
    have h := sm_lv_args ad r
    rcases v with x | k | x
    · exact congrArg _ (h (i + 1))
    · exact congrArg _ (h (i + 1))
    · exact congrArg _ (h (i + 2))
def sm_sz : List sm_V → Nat
  | [] => 0
  | v :: r => (if sm_lg v then 2 else 1) + sm_sz r
theorem sm_sl_len (ad : Nat → Nat) : ∀ As : List sm_V, (lg_sl (As.map (sm_vv ad))).length = sm_sz As
  | [] => rfl
  | v :: r => by
    have h := sm_sl_len ad r
    rcases v with x | k | x
    · exact (congrArg (· + 1) h).trans (Nat.add_comm _ _)
    · exact (congrArg (· + 1) h).trans (Nat.add_comm _ _)
    · exact (congrArg (· + 2) h).trans (Nat.add_comm _ _)
theorem sm_blind (G : sm_G) (As : List sm_V) (σ : sm_M) (sz : Nat) : FrameBlind (sm_Pc G As σ sz) := by
  intro a U g mk h
  obtain ⟨h1, h2, h3, b1, b2, b3, b4, b5, b6, b7, b8, b9, b10⟩ := h
  exact ⟨h1, h2, h3, b1, va_K.moved (u := U) (U := U.calling g mk a) (Vm.Alike.refl U.vm) b2, sm_S.moved (u := U) (Vm.Alike.refl U.vm) b3, vx_Zq.moved (u := U) (Vm.Alike.refl U.vm) b4, vx_Zq.moved (u := U) (Vm.Alike.refl U.vm) b5, va_Z.moved (u := U) (Vm.Alike.refl U.vm) b6, va_Zq.moved (u := U) (Vm.Alike.refl U.vm) b7, fun q hq => vk_R.same (u := U) rfl (b8 q hq), fun q hq => va_Nw.same (u := U) rfl rfl (b9 q hq), fun q hq => va_Nw.same (u := U) rfl rfl (b10 q hq)⟩
/-- a method by its body -/
theorem sm_meth {As : List sm_V} (hy : plainName M.1.cls = true) (hn : sm_sz As ≤ M.2.2.1) (k : sm_W l d M 0 (sm_args 0 As) [] σ o σ') : sm_E l d M As σ o σ' := by
  intro G sz
  refine vx_ofW (cc := M.2.1) (maxL := M.2.2.1) (ret := M.2.2.2) hy rfl ?_
  intro p e s m args below meth c s₁ B hml hx9 hv
  obtain ⟨rfl, hsz, hP, hB⟩ := hv
  subst hsz
  have hts := atoms_spec (ws := sm_ws M) B.pre
  have hl := lv_entry (As.map (sm_vv G.2.1)) (n := M.2.2.1) (by rw [sm_sl_len]; exact hn)
  rw [lg_entry_eq]
  rw [sm_lv_args] at hl
  exact k G p e s m _ below meth c s.heap [] _ ⟨B.exec, B.bytes, hml, findClass_of_methodNamed B.named, fun w hw => hts w (List.mem_cons_of_mem _ hw), B.returns, B.notSynchronized, hx9⟩ hB va_S.rf hP hl
/-- a callee M of n parameters (the receiver apart) as the entry idx of own names it -/
def sm_mk (own : String) (idx n : Nat) (M : sm_I) : Prop := Cond.methodLink own idx M.1 ∈ sm_gt ∧ Cond.initialized M.1.cls ∈ sm_gt ∧ Cond.code M.1 M.2.1 M.2.2.1 M.2.2.2 ∈ sm_gt ∧ M.1.cls ≠ "java/lang/invoke/MethodHandle" ∧ M.1.cls ≠ "java/lang/invoke/VarHandle" ∧ (parseMethodDescriptor M.1.desc).map (fun d => d.parameters.length) = some n ∧ M.2.2.1 ≤ 41
/-- .. an instance method of the class t -/
def sm_mv (own : String) (idx n t : Nat) (M : sm_I) : Prop := sm_mk own idx n M ∧ Cond.instanceMethod M.1 ∈ sm_gt ∧ Cond.selects M.1.cls M.1 M.1 ∈ sm_gt ∧ t < 13 ∧ ∃ q : vw_C, sm_cs[t]? = some q ∧ q.1 = M.1.cls
def sm_ms' (own : String) (idx n : Nat) (M : sm_I) : Prop := sm_mk own idx n M ∧ Cond.static M.1 ∈ sm_gt
theorem sm_gt_good {w : Cond} (h : w ∈ sm_gt) : (w.onTables && w.keeps) = true ∨ ∃ ty, w = .arrayClass ty := good_of_word (List.mem_filter.mp h).2
theorem sm_cb {s : State} {args : Array Value} {own : String} {idx n d1 : Nat} {M1 : sm_I} {o1 : sm_O} (hts : ∀ w ∈ sm_gt, w.before args s = true) (hm : sm_mk own idx n M1) (hd : d1 + 1 ≤ d) : CallB (sm_rm d o) s args own idx M1.1 M1.2.1 M1.2.2.1 M1.2.2.2 (sm_ws M1) (sm_rm d1 o1) (sm_mc o1) (sm_ms o1) n := by
  obtain ⟨h1, h2, h3, h4, h5, h6, h7⟩ := hm
  refine callB_of (Ts := sm_gt) n hts ?_ rfl rfl rfl (hts _ h2) (hts _ h1) ⟨h4, h5, h6⟩ ⟨?_, ?_⟩
  · intro w hw
    rcases List.mem_cons.mp hw with rfl | hw
    · exact ⟨h3, sm_gt_good h3⟩
    · exact ⟨hw, sm_gt_good hw⟩
  · show d1 + 10 + 1 ≤ d + 10
    omega
  · show 8 + (M1.2.2.1 + 11) + (60 * d1 + 200) ≤ 60 * d + 200
    omega
/-- behind a run that returns -/
theorem sm_after {p : Program} {e : Env} {s : State} {m : MethodId} {args : Array Value} {below : List Frame} {meth : Method} {c : Code} {H : Heap} {locs : List Loc} {ls : Array Slot} {G : sm_G} {st0 : List Value} {v : Option sm_V} {σ1 : sm_M} {a : Array Value}
    (hr : vx_Run p l e (sm_rm d o) s m args below meth c H locs 0 0 0 0 (F0 m pc ls st0) (S.map (sm_vv G.2.1)) (sm_Q G (.inl v) σ1 H.size a) (sm_X G (.inl v) σ1 H.size) (sm_A G H.size)) (hS : va_S (sm_A G s.heap.size) s.heap H locs)
    (C : sm_C M p s m args meth c) (B : sm_B G s.heap.size s) (hl : lv_has ls M.2.2.1 (sm_lv G.2.1 L)) (k : sm_W l d M (pc + 3) L (v.toList ++ S) σ1 o σ') :
    W p l e (sm_rm d o) s m args below meth c H locs 0 0 (vx_MQ below (sm_Q G o σ' s.heap.size) (sm_X G o σ' s.heap.size) args s (sm_mc o) (sm_ms o) (sm_A G s.heap.size)) (F0 m pc ls st0) := by
  intro T hT X
  have hn : ∀ q, sm_A G H.size q → sm_A G s.heap.size q := fun q h => by
    rcases h with h | h
    · exact Or.inl h
    · exact Or.inr (Nat.le_trans hS.1 h)
  rcases hr T hT X with ⟨v9, st₀, t, T', L9, h0, X', hL, e1, e2, ⟨w, hw1, hw2, hP1, hF⟩, st⟩ | ⟨q, st₀, t, T', L9, E, ce, h0, X', hL, e1, e2, ⟨hw1, -, -⟩, -⟩
  · cases hw1
    cases hw2
    obtain ⟨k1, k2, k3⟩ := vx_keep h0 e1 hS (fun q _ h => hn q h) hn hL hF
    have e9 : (Option.map (sm_vv G.2.1) v).toList ++ S.map (sm_vv G.2.1) = (v.toList ++ S).map (sm_vv G.2.1) := by
      cases v <;> rfl
    rw [← e1] at hP1
    obtain ⟨t2, a1, b1⟩ := k G p e s m args below meth c T'.heap (locs ++ L9) ls C B k3 hP1 hl T' rfl X'
    refine ⟨t2, st t2 ?_, b1⟩
    rw [e9]
    exact a1
  · cases hw1
/-- behind a run that throws: this method throws too -/
theorem sm_afterX {p : Program} {e : Env} {s : State} {m : MethodId} {args : Array Value} {below : List Frame} {meth : Method} {c : Code} {H : Heap} {locs : List Loc} {ls : Array Slot} {G : sm_G} {st0 : List Value} {E : String} {σ1 : sm_M} {a : Array Value}
    (hr : vx_Run p l e (sm_rm d (.inr E)) s m args below meth c H locs 0 0 1 6 (F0 m pc ls st0) (S.map (sm_vv G.2.1)) (sm_Q G (.inr E) σ1 H.size a) (sm_X G (.inr E) σ1 H.size) (sm_A G H.size)) (hS : va_S (sm_A G s.heap.size) s.heap H locs)
    (C : sm_C M p s m args meth c) :
    W p l e (sm_rm d (.inr E)) s m args below meth c H locs 0 0 (vx_MQ below (sm_Q G (.inr E) σ1 s.heap.size) (sm_X G (.inr E) σ1 s.heap.size) args s 1 6 (sm_A G s.heap.size)) (F0 m pc ls st0) := by
  intro T hT X
  have hn : ∀ q, sm_A G H.size q → sm_A G s.heap.size q := fun q h => by
    rcases h with h | h
    · exact Or.inl h
    · exact Or.inr (Nat.le_trans hS.1 h)
  rcases hr T hT X with ⟨v9, st₀, t, T', L9, h0, X', hL, e1, e2, ⟨w, hw1, -⟩, st⟩ | ⟨q, st₀, t, T', L9, E9, ce, h0, X', hL, e1, e2, ⟨hw1, hP1, hF⟩, hce, hcv, hcl, st⟩
  · cases hw1
  · cases hw1
    obtain ⟨k1, k2, k3⟩ := vx_keep h0 e1 hS (fun q _ h => hn q h) hn hL hF
    rw [← e1] at hP1 hce
    obtain ⟨t2, a1, b1⟩ := vx_out (Qc := sm_Q G (.inr E) σ1 s.heap.size) (XC := sm_X G (.inr E) σ1 s.heap.size) (free := sm_A G s.heap.size) (args := args) (below := below) (ls := ls) (rest := S.map (sm_vv G.2.1)) (pc := pc) (mc := 1) (ms := 6) (fun x hx => (C.2.2.2.2.2.2.2 x hx).elim) C.2.2.2.2.2.2.1 hce hcv hcl
      (fun t9 ht9 _ => ⟨rfl, by rw [ht9]; exact hP1, k3.F ht9⟩) k3.2.2 (Nat.le_refl _) (Nat.le_refl _) T' rfl X'
    exact ⟨t2, st.trans a1, b1⟩
theorem sm_hW {m : MethodId} {ls : Array Slot} {st0 : List Value} {ad : Nat → Nat} (h : sm_sz S ≤ 8) : 2 * (F0 m pc ls st0).monitorRoom + ((S.map (sm_vv ad)).map fun v => v.category).sum ≤ 8 := by
  have e : ∀ S : List sm_V, ((S.map (sm_vv ad)).map fun v => v.category).sum = sm_sz S := by
    intro S
    induction S with
    | nil => rfl
    | cons v r ih =>
      rcases v with x | k | x
      · exact congrArg (1 + ·) ih
      · exact congrArg (1 + ·) ih
      · exact congrArg (2 + ·) ih
  exact lv_room (by rw [e]; exact h)
theorem sm_callV {As : List sm_V} {k idx n t N d1 : Nat} {M1 : sm_I} {v : Option sm_V} {σ1 : sm_M} (hE : sm_E l d1 M1 (.inr (.inl k) :: As) σ (.inl v) σ1) (hm : sm_mv M.1.cls idx n t M1) (hk : sm_kd k = (t, N)) (hn : As.length = n) (hd : d1 + 1 ≤ d) (hs : sm_sz S ≤ 8) (hdg : decode M.2.1 pc = .ok (.invokevirtual idx, 3)) (hq : pc + 3 = q)
    (kk : sm_W l d M q L (v.toList ++ S) σ1 o σ') : sm_W l d M pc L (As.reverse ++ .inr (.inl k) :: S) σ o σ' := by
  subst hq
  intro G p e s m args below meth c H locs ls C B hS hP hl
  obtain ⟨hmk, hi, hse, ht, ⟨R9, T9, N9⟩, hcs, hR9⟩ := hm
  have he := sm_cl_at (G := G) (σ := σ) (sm_kd_lt hk (by omega))
  rw [sm_ent_ob hk ht] at he
  have hrc := va_recv B.2.1 hP hcs he
  have est : (As.reverse ++ .inr (.inl k) :: S).map (sm_vv G.2.1) = (As.map (sm_vv G.2.1)).reverse ++ Value.ref (G.2.1 k) :: S.map (sm_vv G.2.1) := by
    rw [List.map_append, List.map_reverse]
    rfl
  rw [est]
  refine sm_after (a := (Value.ref (G.2.1 k) :: As.map (sm_vv G.2.1)).toArray) (vx_runV (Ts := sm_gt) (n := n) (nL := M.2.2.1) ⟨C.1, C.2.1, C.2.2.1, C.2.2.2.1, C.2.2.2.2.1⟩ (hE G H.size) ⟨sm_cb C.2.2.2.2.1 hmk hd, C.2.2.2.2.1 _ hi, C.2.2.2.2.1 _ hse⟩ ⟨sm_blind _ _ _ _, ?_, fun U hU hW => ⟨rfl, by rw [hU], by rw [hU]; exact hP, sm_B.move B hS hU hW⟩⟩ rfl (by rw [List.length_map]; exact hn) hl.1 rfl (sm_hW hs) hdg ⟨Nat.zero_le _, Nat.zero_le _⟩) hS C B hl kk
  rw [← hR9]
  exact hrc
theorem sm_callVX {As : List sm_V} {k idx n t N d1 : Nat} {M1 : sm_I} {E : String} {σ1 : sm_M} (hE : sm_E l d1 M1 (.inr (.inl k) :: As) σ (.inr E) σ1) (hm : sm_mv M.1.cls idx n t M1) (hk : sm_kd k = (t, N)) (hn : As.length = n) (hd : d1 + 1 ≤ d) (hs : sm_sz S ≤ 8) (hdg : decode M.2.1 pc = .ok (.invokevirtual idx, 3)) :
    sm_W l d M pc L (As.reverse ++ .inr (.inl k) :: S) σ (.inr E) σ1 := by
  intro G p e s m args below meth c H locs ls C B hS hP hl
  obtain ⟨hmk, hi, hse, ht, ⟨R9, T9, N9⟩, hcs, hR9⟩ := hm
  have he := sm_cl_at (G := G) (σ := σ) (sm_kd_lt hk (by omega))
  rw [sm_ent_ob hk ht] at he
  have hrc := va_recv B.2.1 hP hcs he
  have est : (As.reverse ++ .inr (.inl k) :: S).map (sm_vv G.2.1) = (As.map (sm_vv G.2.1)).reverse ++ Value.ref (G.2.1 k) :: S.map (sm_vv G.2.1) := by
    rw [List.map_append, List.map_reverse]
    rfl
  rw [est]
  refine sm_afterX (a := (Value.ref (G.2.1 k) :: As.map (sm_vv G.2.1)).toArray) (vx_runV (Ts := sm_gt) (n := n) (nL := M.2.2.1) ⟨C.1, C.2.1, C.2.2.1, C.2.2.2.1, C.2.2.2.2.1⟩ (hE G H.size) ⟨sm_cb C.2.2.2.2.1 hmk hd, C.2.2.2.2.1 _ hi, C.2.2.2.2.1 _ hse⟩ ⟨sm_blind _ _ _ _, ?_, fun U hU hW => ⟨rfl, by rw [hU], by rw [hU]; exact hP, sm_B.move B hS hU hW⟩⟩ rfl (by rw [List.length_map]; exact hn) hl.1 rfl (sm_hW hs) hdg ⟨Nat.le_refl _, Nat.le_refl _⟩) hS C
  rw [← hR9]
  exact hrc
theorem sm_callS {As : List sm_V} {idx n d1 : Nat} {M1 : sm_I} {v : Option sm_V} {σ1 : sm_M} (hE : sm_E l d1 M1 As σ (.inl v) σ1) (hm : sm_ms' M.1.cls idx n M1) (hn : As.length = n) (hd : d1 + 1 ≤ d) (hs : sm_sz S ≤ 8) (hdg : decode M.2.1 pc = .ok (.invokestatic idx, 3)) (hq : pc + 3 = q)
    (kk : sm_W l d M q L (v.toList ++ S) σ1 o σ') : sm_W l d M pc L (As.reverse ++ S) σ o σ' := by
  subst hq
  intro G p e s m args below meth c H locs ls C B hS hP hl
  obtain ⟨hmk, hi⟩ := hm
  have est : (As.reverse ++ S).map (sm_vv G.2.1) = (As.map (sm_vv G.2.1)).reverse ++ S.map (sm_vv G.2.1) := by
    rw [List.map_append, List.map_reverse]
  rw [est]
  exact sm_after (a := (As.map (sm_vv G.2.1)).toArray) (vx_runS (Ts := sm_gt) (n := n) (nL := M.2.2.1) ⟨C.1, C.2.1, C.2.2.1, C.2.2.2.1, C.2.2.2.2.1⟩ (hE G H.size) ⟨sm_cb C.2.2.2.2.1 hmk hd, C.2.2.2.2.1 _ hi⟩ ⟨sm_blind _ _ _ _, fun U hU hW => ⟨rfl, by rw [hU], by rw [hU]; exact hP, sm_B.move B hS hU hW⟩⟩ rfl (by rw [List.length_map]; exact hn) hl.1 rfl (sm_hW hs) hdg ⟨Nat.zero_le _, Nat.zero_le _⟩) hS C B hl kk
theorem sm_callSX {As : List sm_V} {idx n d1 : Nat} {M1 : sm_I} {E : String} {σ1 : sm_M} (hE : sm_E l d1 M1 As σ (.inr E) σ1) (hm : sm_ms' M.1.cls idx n M1) (hn : As.length = n) (hd : d1 + 1 ≤ d) (hs : sm_sz S ≤ 8) (hdg : decode M.2.1 pc = .ok (.invokestatic idx, 3)) :
    sm_W l d M pc L (As.reverse ++ S) σ (.inr E) σ1 := by
  intro G p e s m args below meth c H locs ls C B hS hP hl
  obtain ⟨hmk, hi⟩ := hm
  have est : (As.reverse ++ S).map (sm_vv G.2.1) = (As.map (sm_vv G.2.1)).reverse ++ S.map (sm_vv G.2.1) := by
    rw [List.map_append, List.map_reverse]
  rw [est]
  exact sm_afterX (a := (As.map (sm_vv G.2.1)).toArray) (vx_runS (Ts := sm_gt) (n := n) (nL := M.2.2.1) ⟨C.1, C.2.1, C.2.2.1, C.2.2.2.1, C.2.2.2.2.1⟩ (hE G H.size) ⟨sm_cb C.2.2.2.2.1 hmk hd, C.2.2.2.2.1 _ hi⟩ ⟨sm_blind _ _ _ _, fun U hU hW => ⟨rfl, by rw [hU], by rw [hU]; exact hP, sm_B.move B hS hU hW⟩⟩ rfl (by rw [List.length_map]; exact hn) hl.1 rfl (sm_hW hs) hdg ⟨Nat.le_refl _, Nat.le_refl _⟩) hS C
/-- Math -/
def sm_mm (own : String) (idx : Nat) (y : MethodName) (b : ByteArray) (n : Nat) : Prop := Cond.methodLink own idx y ∈ sm_gt ∧ Cond.static y ∈ sm_gt ∧ Cond.initialized "java/lang/Math" ∈ sm_gt ∧ Cond.code y b n (some .int) ∈ sm_gt
theorem sm_mmx {x y : Int32} {idx : Nat} (hd : decode M.2.1 pc = .ok (.invokestatic idx, 3)) (hq : pc + 3 = q) (hm : sm_mm M.1.cls idx Lib.Math.max.name Lib.Math.max.code 2) (hs : sm_sz S ≤ 8) (k : sm_W l d M q L (.inl (if x < y then y else x) :: S) σ o σ') : sm_W l d M pc L (.inl y :: .inl x :: S) σ o σ' := by
  subst hq
  intro G p e s m args below meth c H locs ls C B hS hP hl
  have h8 := sm_hW (m := m) (ls := ls) (st0 := []) (pc := pc) (ad := G.2.1) hs
  exact va_mmax C.1 C.2.1 (C.2.2.1.trans hl.1.symm) C.2.2.2.1 (C.2.2.2.2.1 _ hm.1) (C.2.2.2.2.1 _ hm.2.1) (C.2.2.2.2.1 _ hm.2.2.1) (C.2.2.2.2.1 _ hm.2.2.2) (show 1 ≤ d + 10 by omega) (show _ ≤ 60 * d + 200 by omega) (Nat.zero_le _) (Nat.zero_le _) hd (k G p e s m args below meth c H locs ls C B hS hP hl)
theorem sm_mmn {x y : Int32} {idx : Nat} (hd : decode M.2.1 pc = .ok (.invokestatic idx, 3)) (hq : pc + 3 = q) (hm : sm_mm M.1.cls idx Lib.Math.min.name Lib.Math.min.code 2) (hs : sm_sz S ≤ 8) (k : sm_W l d M q L (.inl (if y < x then y else x) :: S) σ o σ') : sm_W l d M pc L (.inl y :: .inl x :: S) σ o σ' := by
  subst hq
  intro G p e s m args below meth c H locs ls C B hS hP hl
  have h8 := sm_hW (m := m) (ls := ls) (st0 := []) (pc := pc) (ad := G.2.1) hs
  exact va_mmin C.1 C.2.1 (C.2.2.1.trans hl.1.symm) C.2.2.2.1 (C.2.2.2.2.1 _ hm.1) (C.2.2.2.2.1 _ hm.2.1) (C.2.2.2.2.1 _ hm.2.2.1) (C.2.2.2.2.1 _ hm.2.2.2) (show 1 ≤ d + 10 by omega) (show _ ≤ 60 * d + 200 by omega) (Nat.zero_le _) (Nat.zero_le _) hd (k G p e s m args below meth c H locs ls C B hS hP hl)
theorem sm_mma {x : Int32} {idx : Nat} (hd : decode M.2.1 pc = .ok (.invokestatic idx, 3)) (hq : pc + 3 = q) (hm : sm_mm M.1.cls idx Lib.Math.abs.name Lib.Math.abs.code 1) (hs : sm_sz S ≤ 8) (k : sm_W l d M q L (.inl (if 0 ≤ x then x else 0 - x) :: S) σ o σ') : sm_W l d M pc L (.inl x :: S) σ o σ' := by
  subst hq
  intro G p e s m args below meth c H locs ls C B hS hP hl
  have h8 := sm_hW (m := m) (ls := ls) (st0 := []) (pc := pc) (ad := G.2.1) hs
  exact va_mabs C.1 C.2.1 (C.2.2.1.trans hl.1.symm) C.2.2.2.1 (C.2.2.2.2.1 _ hm.1) (C.2.2.2.2.1 _ hm.2.1) (C.2.2.2.2.1 _ hm.2.2.1) (C.2.2.2.2.1 _ hm.2.2.2) (show 1 ≤ d + 10 by omega) (show _ ≤ 60 * d + 200 by omega) (Nat.zero_le _) (Nat.zero_le _) hd (k G p e s m args below meth c H locs ls C B hS hP hl)
/-- System.arraycopy between two rows of ints -/
theorem sm_copy {k0 k1 n0 n1 idx : Nat} {sp dp n : Int32} {I : Nat → Nat → Int32} {R : Nat → Nat → Nat} (hd : decode M.2.1 pc = .ok (.invokestatic idx, 3)) (hq : pc + 3 = q) (hw : Cond.methodLink M.1.cls idx arraycopyName ∈ sm_gt ∧ Cond.native arraycopyName ∈ sm_gt ∧ Cond.static arraycopyName ∈ sm_gt ∧ Cond.initialized "java/lang/System" ∈ sm_gt)
    (hk0 : sm_kd k0 = (13, n0)) (hk1 : sm_kd k1 = (13, n1)) (h1 : ¬ sp < 0) (h2 : ¬ dp < 0) (h3 : ¬ n < 0) (h4 : sp.toNatClampNeg + n.toNatClampNeg ≤ n0) (h5 : dp.toNatClampNeg + n.toNatClampNeg ≤ n1) (hs : sm_sz S ≤ 8)
    (kk : sm_W l d M q L S (sm_up I k1 (va_cpy (I k0) (I k1) sp.toNatClampNeg dp.toNatClampNeg n.toNatClampNeg), R) o σ') : sm_W l d M pc L (.inl n :: .inl dp :: .inr (.inl k1) :: .inl sp :: .inr (.inl k0) :: S) (I, R) o σ' := by
  subst hq
  intro G p e s m args below meth c H locs ls C B hS hP hl
  have h8 := sm_hW (m := m) (ls := ls) (st0 := []) (pc := pc) (ad := G.2.1) hs
  have he0 := sm_cl_at (G := G) (σ := (I, R)) (sm_kd_lt hk0 (by omega))
  rw [sm_ent_ar (t := 0) hk0 (by omega)] at he0
  have he1 := sm_cl_at (G := G) (σ := (I, R)) (sm_kd_lt hk1 (by omega))
  rw [sm_ent_ar (t := 0) hk1 (by omega)] at he1
  refine va_copyi (ty := .int) C.1 C.2.1 (C.2.2.1.trans hl.1.symm) C.2.2.2.1 (C.2.2.2.2.1 _ hw.1) (C.2.2.2.2.1 _ hw.2.1) (C.2.2.2.2.1 _ hw.2.2.1) (C.2.2.2.2.1 _ hw.2.2.2) B.2.1 hP (sm_D B) hS k0 k1 0 0 he0 he1 rfl rfl rfl h1 h2 h3 h4 h5 (fun _ _ => rfl) (show 1 ≤ d + 10 by omega) ?_ hd (fun H1 locs1 hP1 _ hS1 => ?_)
  · have e9 : nativeFrameWords "java/lang/System" "arraycopy" 5 + 11 ≤ 192 := by decide +kernel
    show _ ≤ 60 * d + 200
    omega
  · have e9 := sm_ar_set (G := G) (t := 0) (I := I) (R := R) (f := va_cpy (I k0) (I k1) sp.toNatClampNeg dp.toNatClampNeg n.toNatClampNeg) hk1 (by omega)
    have hP2 : va_P G.1 sm_cs ((sm_cl G (I, R)).set k1 (G.2.1 k1, .inl (G.2.2.1 0, n1, .inl (va_cpy (I k0) (I k1) sp.toNatClampNeg dp.toNatClampNeg n.toNatClampNeg)))) H1 := hP1
    rw [e9] at hP2
    exact kk G p e s m args below meth c H1 locs1 ls C B hS1 hP2 hl
/-- 'throw new E("text")' -/
theorem sm_throw {E Yn tx : String} {rn : List String} {ik is ic ix j : Nat} {bx : ByteArray} (hl : l.stackTraces = false) (hE : Bundle.fit E = true) (hY : Bundle.fit Yn = true) (hnm : ∀ n ∈ rn, Bundle.fit n = true) (hlen : rn.length ≤ 3)
    (b0 : decode bx 0 = .ok (.aload_n 0, 1)) (b1 : decode bx 1 = .ok (.aload_n 1, 1)) (b2 : decode bx 2 = .ok (.invokespecial ix, 3)) (b5 : decode bx 5 = .ok (.return_, 1))
    (hk : Cond.classLink M.1.cls ik E ∈ sm_gt) (hi : Cond.initialized E ∈ sm_gt) (hs : (M.1.cls, is, tx, j) ∈ sm_sl) (hat : ∀ w ∈ sm_atS M.1.cls ic E ix bx Yn rn, w ∈ sm_gt ∨ (∃ q ∈ sm_bc, w = .castable q.1 q.2) ∨ ∃ y ∈ sm_bd, w = .declares y)
    (hgood : ∀ w ∈ Cond.classLink M.1.cls ik E :: Cond.initialized E :: sm_atS M.1.cls ic E ix bx Yn rn, vx_ot w = true) (hsz : sm_sz S ≤ 8)
    (d0 : decode M.2.1 pc = .ok (.new ik, 3)) (d3 : decode M.2.1 (pc + 3) = .ok (.dup, 1)) (d4 : decode M.2.1 (pc + 4) = .ok (.ldc is, 2)) (d6 : decode M.2.1 (pc + 6) = .ok (.invokespecial ic, 3)) (d9 : decode M.2.1 (pc + 9) = .ok (.athrow, 1)) :
    sm_W l d M pc L S σ (.inr E) σ := by
  intro G p e s m args below meth c H locs ls C B hS hP hls
  have h8 := sm_hW (m := m) (ls := ls) (st0 := []) (pc := pc) (ad := G.2.1) hsz
  refine sm_throwA (A := sm_A G s.heap.size) (text := tx) (sa := G.2.1 (1000 + j)) C.1 C.2.1 hl C.2.2.2.1 hE hY hnm b0 b1 b2 b5 (C.2.2.2.2.1 _ hk) (C.2.2.2.2.1 _ hi) (B.2.2.2.2.2.2.2.1 _ hs) (fun w hw => ?_) hgood B.2.2.2.1 B.2.2.2.2.1 hS (hls.1.trans C.2.2.1.symm) d0 d3 d4 d6 d9 (fun x hx => (C.2.2.2.2.2.2.2 x hx).elim) ?_ ?_ (Nat.le_refl _) (Nat.le_refl _) C.2.2.2.2.2.2.1 (fun t ht h1 h2 => ⟨rfl, ?_, ?_⟩) hS.2.2 (Nat.le_refl _) (Nat.le_refl _)
  · rcases hat w hw with h | ⟨q, hq, rfl⟩ | ⟨y, hy, rfl⟩
    · exact C.2.2.2.2.1 _ h
    · exact va_Nw.use rfl (B.2.2.2.2.2.2.2.2.1 q hq)
    · exact va_Nw.use rfl (B.2.2.2.2.2.2.2.2.2 y hy)
  · show rn.length + 1 + 3 < d + 10
    omega
  · show _ ≤ 60 * d + 200
    omega
  · exact hP.kept (fun k q hk => h2 _ ((hP k q hk).lt))
  · exact ⟨Nat.le_trans hS.1 h1, fun q hq hA => by rw [h2 q (Nat.lt_of_lt_of_le hq hS.1)]; exact hS.2.1 q hq hA⟩
/-- 'throw new E("text")' -/
theorem sm_throwW {E Yn tx : String} {rn : List String} {ik is ic ix j : Nat} {bx : ByteArray} (hl : l.stackTraces = false) (hE : Bundle.fit E = true) (hY : Bundle.fit Yn = true) (hnm : ∀ n ∈ rn, Bundle.fit n = true) (hlen : rn.length ≤ 3)
    (b0 : decode bx 0 = .ok (.aload_n 0, 1)) (b1 : decode bx 1 = .ok (.aload_n 1, 1)) (b2 : decode bx 2 = .ok (.invokespecial ix, 3)) (b5 : decode bx 5 = .ok (.return_, 1))
    (hk : Cond.classLink M.1.cls ik E ∈ sm_gt) (hi : Cond.initialized E ∈ sm_gt) (hs : (M.1.cls, is, tx, j) ∈ sm_sl) (hat : ∀ w ∈ sm_atS M.1.cls ic E ix bx Yn rn, w ∈ sm_gt ∨ (∃ q ∈ sm_bc, w = .castable q.1 q.2) ∨ ∃ y ∈ sm_bd, w = .declares y)
    (hgood : ∀ w ∈ Cond.classLink M.1.cls ik E :: Cond.initialized E :: sm_atS M.1.cls ic E ix bx Yn rn, vx_ot w = true) (hsz : sm_sz S ≤ 8)
    (d0 : decode M.2.1 pc = .ok (.new ik, 3)) (d3 : decode M.2.1 (pc + 3) = .ok (.dup, 1)) (d4 : decode M.2.1 (pc + 4) = .ok (.ldc_w is, 3)) (d6 : decode M.2.1 (pc + 7) = .ok (.invokespecial ic, 3)) (d9 : decode M.2.1 (pc + 10) = .ok (.athrow, 1)) :
    sm_W l d M pc L S σ (.inr E) σ := by
  intro G p e s m args below meth c H locs ls C B hS hP hls
  have h8 := sm_hW (m := m) (ls := ls) (st0 := []) (pc := pc) (ad := G.2.1) hsz
  refine sm_throwB (A := sm_A G s.heap.size) (text := tx) (sa := G.2.1 (1000 + j)) C.1 C.2.1 hl C.2.2.2.1 hE hY hnm b0 b1 b2 b5 (C.2.2.2.2.1 _ hk) (C.2.2.2.2.1 _ hi) (B.2.2.2.2.2.2.2.1 _ hs) (fun w hw => ?_) hgood B.2.2.2.1 B.2.2.2.2.1 hS (hls.1.trans C.2.2.1.symm) d0 d3 d4 d6 d9 (fun x hx => (C.2.2.2.2.2.2.2 x hx).elim) ?_ ?_ (Nat.le_refl _) (Nat.le_refl _) C.2.2.2.2.2.2.1 (fun t ht h1 h2 => ⟨rfl, ?_, ?_⟩) hS.2.2 (Nat.le_refl _) (Nat.le_refl _)
  · rcases hat w hw with h | ⟨q, hq, rfl⟩ | ⟨y, hy, rfl⟩
    · exact C.2.2.2.2.1 _ h
    · exact va_Nw.use rfl (B.2.2.2.2.2.2.2.2.1 q hq)
    · exact va_Nw.use rfl (B.2.2.2.2.2.2.2.2.2 y hy)
  · show rn.length + 1 + 3 < d + 10
    omega
  · show _ ≤ 60 * d + 200
    omega
  · exact hP.kept (fun k q hk => h2 _ ((hP k q hk).lt))
  · exact ⟨Nat.le_trans hS.1 h1, fun q hq hA => by rw [h2 q (Nat.lt_of_lt_of_le hq hS.1)]; exact hS.2.1 q hq hA⟩
end SMC
