/-! ===== the constructors: cells come one behind the other; 9999 stands for null ===== -/
def sm_fvN (G : sm_G) (σ : sm_M) (k t j : Nat) : Value := if sm_isR t j = true then (if σ.2 k j = 9999 then .null else .ref (G.2.1 (σ.2 k j))) else .int (σ.1 k j)
def sm_entN (G : sm_G) (σ : sm_M) (k : Nat) : va_E :=
  if (sm_kd k).1 < 13 then .inr ((sm_kd k).1, (List.range (sm_kd k).2).map (sm_fvN G σ k (sm_kd k).1))
  else if (sm_kd k).1 < 16 then .inl (G.2.2.1 ((sm_kd k).1 - 13), (sm_kd k).2, .inl (σ.1 k))
  else .inl (G.2.2.1 ((sm_kd k).1 - 13), (sm_kd k).2, .inr (.inr (.inr (.inr fun j => if σ.2 k j = 9999 then none else some (G.2.1 (σ.2 k j))))))
def sm_clN (G : sm_G) (σ : sm_M) (t : Nat) : va_W := (List.range t).map fun k => (G.2.1 k, sm_entN G σ k)
theorem sn_at {G : sm_G} {σ : sm_M} {k t : Nat} (h : k < t) : (sm_clN G σ t)[k]? = some (G.2.1 k, sm_entN G σ k) := by
  unfold sm_clN
  rw [List.getElem?_map, List.getElem?_range h]
  rfl
theorem sn_get {G : sm_G} {σ : sm_M} {t i : Nat} {q : Nat × va_E} (h : (sm_clN G σ t)[i]? = some q) : i < t ∧ q = (G.2.1 i, sm_entN G σ i) := by
  have hl : i < t := by
    have := (List.getElem?_eq_some_iff.mp h).1
    unfold sm_clN at this
    simpa using this
  rw [sn_at hl] at h
  exact ⟨hl, (Option.some.inj h).symm⟩
theorem sn_eq {G : sm_G} {σ τ : sm_M} {k : Nat} (h1 : σ.1 k = τ.1 k) (h2 : σ.2 k = τ.2 k) : sm_entN G σ k = sm_entN G τ k := by
  unfold sm_entN
  have : sm_fvN G σ k (sm_kd k).1 = sm_fvN G τ k (sm_kd k).1 := by
    funext j
    unfold sm_fvN
    rw [h1, h2]
  rw [this, h1, h2]
theorem sn_set {G : sm_G} {σ τ : sm_M} {k t : Nat} (h1 : ∀ j, j ≠ k → σ.1 j = τ.1 j) (h2 : ∀ j, j ≠ k → σ.2 j = τ.2 j) : (sm_clN G σ t).set k (G.2.1 k, sm_entN G τ k) = sm_clN G τ t := by
  apply List.ext_getElem?
  intro i
  by_cases hi : i < t
  · rw [sn_at hi]
    by_cases hk : i = k
    · subst hk
      rw [List.getElem?_set_self (by unfold sm_clN; simpa using hi)]
    · rw [List.getElem?_set_ne (Ne.symm hk), sn_at hi, sn_eq (h1 i hk) (h2 i hk)]
  · have hn : (sm_clN G τ t).length ≤ i := by
      unfold sm_clN
      simpa using hi
    have hm : ((sm_clN G σ t).set k (G.2.1 k, sm_entN G τ k)).length ≤ i := by
      unfold sm_clN
      simpa using hi
    rw [List.getElem?_eq_none hn, List.getElem?_eq_none hm]
theorem sn_ob {G : sm_G} {σ : sm_M} {k t n : Nat} (hk : sm_kd k = (t, n)) (ht : t < 13) : sm_entN G σ k = .inr (t, (List.range n).map (sm_fvN G σ k t)) := by
  unfold sm_entN
  rw [hk]
  exact if_pos ht
theorem sn_ar {G : sm_G} {σ : sm_M} {k t n : Nat} (hk : sm_kd k = (13 + t, n)) (ht : t < 3) : sm_entN G σ k = .inl (G.2.2.1 t, n, .inl (σ.1 k)) := by
  unfold sm_entN
  rw [hk]
  dsimp only
  rw [if_neg (by omega), if_pos (by omega), show 13 + t - 13 = t by omega]
theorem sn_rf {G : sm_G} {σ : sm_M} {k t n : Nat} (hk : sm_kd k = (13 + t, n)) (ht : 3 ≤ t) : sm_entN G σ k = .inl (G.2.2.1 t, n, .inr (.inr (.inr (.inr fun j => if σ.2 k j = 9999 then none else some (G.2.1 (σ.2 k j)))))) := by
  unfold sm_entN
  rw [hk]
  dsimp only
  rw [if_neg (by omega), if_neg (by omega), show 13 + t - 13 = t by omega]
theorem sn_fs {G : sm_G} {σ : sm_M} {k t n j : Nat} (hj : j < n) : ((List.range n).map (sm_fvN G σ k t))[j]? = some (sm_fvN G σ k t j) := by
  rw [List.getElem?_map, List.getElem?_range hj]
  rfl
theorem sn_fs_set {G : sm_G} {σ τ : sm_M} {k t n j : Nat} {v : Value} (hj : j < n) (hv : v = sm_fvN G τ k t j) (ho : ∀ i, i ≠ j → sm_fvN G σ k t i = sm_fvN G τ k t i) : ((List.range n).map (sm_fvN G σ k t)).set j v = (List.range n).map (sm_fvN G τ k t) := by
  apply List.ext_getElem?
  intro i
  by_cases hi : i < n
  · rw [sn_fs hi]
    by_cases h : i = j
    · subst h
      rw [List.getElem?_set_self (by simpa using hi), hv]
    · rw [List.getElem?_set_ne (Ne.symm h), sn_fs hi, ho i h]
  · rw [List.getElem?_eq_none (by simpa using hi), List.getElem?_eq_none (by simpa using hi)]
theorem sn_succ (G : sm_G) (σ : sm_M) (t : Nat) : sm_clN G σ (t + 1) = sm_clN G σ t ++ [(G.2.1 t, sm_entN G σ t)] := by
  unfold sm_clN
  rw [List.range_succ, List.map_append]
  rfl
def sn_nl : List (String × Nat × MethodName) := [("BaizeDoor", 9, yX5_init), ("BaizeDoor$Reader", 17, yX7_init), ("BaizeDoor$School", 23, yX6_init), ("BaizeDoor$Term", 21, yX4_init), ("BaizeDoor", 22, yX7_init), ("BaizeDoor", 29, yX0_init), ("BaizeDoor", 36, yX9_init), ("BaizeDoor", 47, yX3_init), ("BaizeDoor$Image", 17, yX0_init), ("BaizeDoor$Image", 24, yX9_init), ("BaizeDoor", 54, yX4_init), ("BaizeDoor", 74, yX8_init), ("BaizeDoor$Search", 17, yX4_init), ("BaizeDoor", 81, yX1_init), ("BaizeDoor", 88, yX2_init), ("BaizeDoor$Duel", 21, yX4_init)]
def sm_NP (G : sm_G) (t : Nat) (σ : sm_M) (H : Heap) : Prop := va_P G.1 sm_cs (sm_clN G σ t) H ∧ H.size = G.2.1 0 + t
def sm_NB (G : sm_G) (U : State) : Prop := (∀ k, k < sm_NC → G.2.1 k = G.2.1 0 + k) ∧ va_K G.1 sm_cs (sm_ty G) U ∧ sm_S G (fun q => G.2.1 0 ≤ q) U U.heap ∧ (∀ q ∈ sm_sl, vk_R q.1 q.2.1 q.2.2.1 (G.2.1 (1000 + q.2.2.2)) U) ∧ va_AO "BaizeDoor$Player" U ∧ va_AO "java/lang/String" U ∧ ∀ q ∈ sn_nl, va_Nw (.methodLinkNest q.1 q.2.1 q.2.2 "BaizeDoor") U
theorem sn_D {G : sm_G} {σ : sm_M} {t : Nat} {U : State} (hB : sm_NB G U) (ht : t ≤ sm_NC) : va_D (fun q => G.2.1 0 ≤ q) (sm_clN G σ t) := by
  refine ⟨fun i j p q hi hj hpq => ?_, fun k q hk => ?_⟩
  · obtain ⟨h1, rfl⟩ := sn_get hi
    obtain ⟨h2, rfl⟩ := sn_get hj
    have e1 := hB.1 i (by omega)
    have e2 := hB.1 j (by omega)
    dsimp only at hpq
    omega
  · obtain ⟨h1, rfl⟩ := sn_get hk
    have e1 := hB.1 k (by omega)
    show G.2.1 0 ≤ G.2.1 k
    omega
theorem sm_NB.move {G : sm_G} {s U : State} {H : Heap} {locs : List Loc} (hB : sm_NB G s) (hS : va_S (fun q => G.2.1 0 ≤ q) s.heap H locs) (hU : U.heap = H) (hW : s.WarmedH U.vm) : sm_NB G U := by
  obtain ⟨h1, h2, h3, h4, h5, h6, h7⟩ := hB
  subst hU
  exact ⟨h1, va_K.moved hW.alike h2, (h3.kept hS.2.1).moved hW.alike, fun q hq => vk_R.warm hW (h4 q hq), h5.moved hW.alike, h6.moved hW.alike, fun q hq => va_Nw.warmM hW (h7 q hq)⟩
/-- a constructor M, called with As where t cells are there, leaves t' of them and the memory σ' -/
def sm_K (l : Launch) (d : Nat) (M : sm_I) (As : List sm_V) (t : Nat) (σ : sm_M) (t' : Nat) (σ' : sm_M) (mc ms : Nat) : Prop :=
  ∀ G : sm_G, Met l M.1 (sm_ws M) { frames := d + 10, cells := mc, slots := ms, locals := 60 * d + 200 } (va_Pc (As.map (sm_vv G.2.1)) (fun U => sm_NP G t σ U.heap ∧ sm_NB G U)) (fun _ st oc t9 => oc = .returned none ∧ sm_NP G t' σ' t9.heap ∧ va_F (fun q => G.2.1 0 ≤ q) st t9) mc ms (fun q => G.2.1 0 ≤ q)
theorem sn_blind (G : sm_G) (As : List sm_V) (t : Nat) (σ : sm_M) : FrameBlind (va_Pc (As.map (sm_vv G.2.1)) (fun U => sm_NP G t σ U.heap ∧ sm_NB G U)) := by
  intro a U g mk h
  obtain ⟨h1, h2, b1, b2, b3, b4, b5, b6, b7⟩ := h
  exact ⟨h1, h2, b1, va_K.moved (u := U) (U := U.calling g mk a) (Vm.Alike.refl U.vm) b2, sm_S.moved (u := U) (Vm.Alike.refl U.vm) b3, fun q hq => vk_R.same (u := U) rfl (b4 q hq), va_AO.moved (u := U) (Vm.Alike.refl U.vm) b5, va_AO.moved (u := U) (Vm.Alike.refl U.vm) b6, fun q hq => va_Nw.same (u := U) rfl rfl (b7 q hq)⟩
theorem sn_dft {α : Type} {I : Nat → α} {c : α} {t0 t1 a : Nat} {f : α} (h : ∀ k, t0 ≤ k → I k = c) (ht : t0 ≤ t1) (ha : a < t1) : ∀ k, t1 ≤ k → sm_up I a f k = c := fun k hk => by
  rw [sm_up_ne (by omega)]
  exact h k (by omega)
section SN
variable {p : Program} {l : Launch} {e : Env} {R : Room} {s : State} {m : MethodId} {args : Array Value} {below : List Frame} {meth : Method} {c : Code} {H : Heap} {locs : List Loc} {cells slots : Nat} {Q : State → Prop} {cc : ByteArray} {pc t : Nat} {ls : Array Slot} {rest : List Value} {G : sm_G} {σ τ : sm_M} {own : String}
theorem sn_S {H1 : Heap} (hS : va_S (fun q => G.2.1 0 ≤ q) s.heap H locs) (z1 : H1.size = H.size + 1) (o1 : ∀ q, q < H.size → H1[q]? = H[q]?) : va_S (fun q => G.2.1 0 ≤ q) s.heap H1 locs :=
  ⟨Nat.le_trans hS.1 (by omega), fun x h1 h2 => (o1 x (Nat.lt_of_lt_of_le h1 hS.1)).trans (hS.2.1 x h1 h2), hS.2.2⟩
theorem sn_NP {H1 : Heap} (hP : sm_NP G t σ H) (hB : sm_NB G s) (ht : t < sm_NC) (z1 : H1.size = H.size + 1) (o1 : ∀ q, q < H.size → H1[q]? = H[q]?) (hn : va_at G.1 sm_cs (G.2.1 t, sm_entN G σ t) H1) : sm_NP G (t + 1) σ H1 := by
  refine ⟨?_, by rw [z1, hP.2]; omega⟩
  rw [sn_succ]
  refine (hP.1.kept (fun k x hx => o1 x.1 ((hP.1 k x hx).lt))).app (fun k x hx => ?_)
  have hz : k < 1 := (List.getElem?_eq_some_iff.mp hx).1
  rw [show k = 0 by omega] at hx
  cases hx
  exact hn
theorem sn_new {C : String} {T : u_T} {N ci index : Nat} (hx : p.tables.exec = Jvm.exec) (hb : c.code = cc) (hts : ∀ w ∈ sm_gt, w.before args s = true) (hown : s.vm.findClass own = some m.cls) (hcl : Cond.classLink own index C ∈ sm_gt) (hinst : Cond.instantiable C N ∈ sm_gt) (hini : Cond.initialized C ∈ sm_gt) (hc : sm_cs[ci]? = some (C, T, N)) (hin : ∀ w ∈ u_ws C T N, w ∈ sm_gt) (ty : Nat → FieldType) (hty : ∀ k, k < N → parseFieldDescriptor (T k).2.2.1 = some (ty k)) (hdf : ∀ j, j < N → defaultValue (ty j) = if sm_isR ci j = true then .null else .int 0) (hci : ci < 13)
    (hk : sm_kd t = (ci, N)) (B : sm_NB G s) (hP : sm_NP G t σ H) (hS : va_S (fun q => G.2.1 0 ≤ q) s.heap H locs) (h0 : σ.1 t = fun _ => 0) (h1 : σ.2 t = fun _ => 9999) (hcells : cells + 1 ≤ R.cells) (hslots : slots + N ≤ R.slots) (hdg : decode cc pc = .ok (.new index, 3))
    (kk : ∀ H1 : Heap, sm_NP G (t + 1) σ H1 → va_S (fun q => G.2.1 0 ≤ q) s.heap H1 locs → W p l e R s m args below meth c H1 locs (cells + 1) (slots + N) Q (F0 m (pc + 3) ls (.ref (G.2.1 t) :: rest))) : W p l e R s m args below meth c H locs cells slots Q (F0 m pc ls rest) := by
  have ht : t < sm_NC := sm_kd_lt hk (by omega)
  have hKn := B.2.1.1 ci _ hc
  have ha : H.size = G.2.1 t := by rw [hP.2, B.1 t ht]
  refine W.newcK hx hb hown (hts _ hcl) (hts _ hinst) (hts _ hini) rfl hdg hcells hslots hKn.2.1 ha fun H1 kC hkC e1 z1 o1 => ?_
  rw [← ha] at z1 o1
  refine kk H1 (sn_NP hP B ht z1 o1 ?_) (sn_S hS z1 o1)
  rw [sn_ob hk hci]
  refine ⟨_, hc, (u_born ty hts hin hKn hkC e1 hty).to (fun j hj => ?_)⟩
  rw [hdf j hj]
  unfold vp_V
  rw [List.getD_eq_getElem?_getD, sn_fs hj]
  show _ = sm_fvN G σ t ci j
  unfold sm_fvN
  rw [h0, h1]
  rfl
theorem sn_newa {atype : ArrayType} {ty : FieldType} {a n : Nat} {x : Int32} (hx : p.tables.exec = Jvm.exec) (hb : c.code = cc) (hts : ∀ w ∈ sm_gt, w.before args s = true) (hty : newarray.typeOf atype = ty) (harr : Cond.arrayClass ty ∈ sm_gt) (ha : a = 0 ∧ ty = .int ∨ a = 1 ∧ ty = .byte ∨ a = 2 ∧ ty = .boolean) (hk : sm_kd t = (13 + a, n)) (hn : ¬ x < 0) (hN : x.toNatClampNeg = n) (hnb : n ≤ 10000)
    (B : sm_NB G s) (hP : sm_NP G t σ H) (hS : va_S (fun q => G.2.1 0 ≤ q) s.heap H locs) (h0 : σ.1 t = fun _ => 0) (hcells : cells + 1 ≤ R.cells) (hslots : slots + n ≤ R.slots) (hdg : decode cc pc = .ok (.newarray atype, 2))
    (kk : ∀ H1 : Heap, sm_NP G (t + 1) σ H1 → va_S (fun q => G.2.1 0 ≤ q) s.heap H1 locs → W p l e R s m args below meth c H1 locs (cells + 1) (slots + n) Q (F0 m (pc + 2) ls (.ref (G.2.1 t) :: rest))) : W p l e R s m args below meth c H locs cells slots Q (F0 m pc ls (.int x :: rest)) := by
  have ht : t < sm_NC := sm_kd_lt hk (by omega)
  have hsz : H.size = G.2.1 t := by rw [hP.2, B.1 t ht]
  subst hty
  have hbytes : n * componentBytes (newarray.typeOf atype) ≤ 536870912 := by
    rcases ha with ⟨-, h⟩ | ⟨-, h⟩ | ⟨-, h⟩ <;> rw [h] <;> simp [componentBytes] <;> omega
  refine va_newaK hx hb (hts _ harr) rfl hdg rfl hn hN hbytes hcells hslots hsz fun H1 cA e1 z1 o1 hAr hNm => ?_
  rw [← hsz] at z1 o1
  have hcA : cA = G.2.2.1 a := by
    have h9 : s.vm.findClass ("[" ++ (newarray.typeOf atype).toString) = some (G.2.2.1 a) := by
      rcases ha with ⟨rfl, h⟩ | ⟨rfl, h⟩ | ⟨rfl, h⟩ <;> rw [h]
      · exact (B.2.1.2 0 _ rfl).2
      · exact (B.2.1.2 1 _ rfl).2
      · exact (B.2.1.2 2 _ rfl).2
    exact Option.some.inj (hNm.symm.trans h9)
  refine kk H1 (sn_NP hP B ht z1 o1 ?_) (sn_S hS z1 o1)
  rw [sn_ar hk (by omega), h0]
  show H1[G.2.1 t]? = some (vp_cell (G.2.2.1 a) (n, .inl fun _ => 0))
  rw [vp_cell_i, e1, hcA]
  congr 3
  funext j
  rcases ha with ⟨-, h⟩ | ⟨-, h⟩ | ⟨-, h⟩ <;> rw [h] <;> rfl
theorem sn_anew {C : String} {a n index : Nat} {x : Int32} (hx : p.tables.exec = Jvm.exec) (hb : c.code = cc) (hts : ∀ w ∈ sm_gt, w.before args s = true) (hown : s.vm.findClass own = some m.cls) (hcl : Cond.classLink own index C ∈ sm_gt) (ha : a = 3 ∧ C = "BaizeDoor$Player" ∨ a = 4 ∧ C = "java/lang/String") (hk : sm_kd t = (13 + a, n)) (hn : ¬ x < 0) (hN : x.toNatClampNeg = n) (hnb : n ≤ 10000)
    (B : sm_NB G s) (hP : sm_NP G t σ H) (hS : va_S (fun q => G.2.1 0 ≤ q) s.heap H locs) (h1 : σ.2 t = fun _ => 9999) (hcells : cells + 1 ≤ R.cells) (hslots : slots + n ≤ R.slots) (hdg : decode cc pc = .ok (.anewarray index, 3))
    (kk : ∀ H1 : Heap, sm_NP G (t + 1) σ H1 → va_S (fun q => G.2.1 0 ≤ q) s.heap H1 locs → W p l e R s m args below meth c H1 locs (cells + 1) (slots + n) Q (F0 m (pc + 3) ls (.ref (G.2.1 t) :: rest))) : W p l e R s m args below meth c H locs cells slots Q (F0 m pc ls (.int x :: rest)) := by
  have ht : t < sm_NC := sm_kd_lt hk (by omega)
  have hsz : H.size = G.2.1 t := by rw [hP.2, B.1 t ht]
  have hover : va_AO C s := by
    rcases ha with ⟨-, rfl⟩ | ⟨-, rfl⟩
    · exact B.2.2.2.2.1
    · exact B.2.2.2.2.2.1
  subst hN
  refine W.anew hx hb hown (hts _ hcl) (va_AO.use hover) rfl hdg rfl hn (by omega) hcells hslots fun cA kA comp f1 f2 f3 f4 => ?_
  generalize hH1 : H.push ({ cls := cA, slots := Array.replicate x.toNatClampNeg .null, vm := .none } : Cell) = H1
  have z1 : H1.size = H.size + 1 := by rw [← hH1, Array.size_push]
  have e1 : H1[H.size]? = some (arrV cA x.toNatClampNeg (fun _ => .null)) := by rw [← hH1, Array.getElem?_push_size, ← arrV_new]
  have o1 : ∀ q : Nat, q < H.size → H1[q]? = H[q]? := fun q hq => by rw [← hH1, Array.getElem?_push, if_neg (Nat.ne_of_lt hq)]
  have hcA : cA = G.2.2.1 a := by
    rcases ha with ⟨rfl, rfl⟩ | ⟨rfl, rfl⟩
    · obtain ⟨-, -, -, -, -, h9⟩ := (B.2.1.2 3 _ rfl).2
      exact Option.some.inj (f1.symm.trans h9)
    · obtain ⟨-, -, -, -, -, h9⟩ := (B.2.1.2 4 _ rfl).2
      exact Option.some.inj (f1.symm.trans h9)
  have hh : va_at G.1 sm_cs (G.2.1 t, sm_entN G σ t) H1 := by
    rw [sn_rf hk (by omega), h1]
    show H1[G.2.1 t]? = some (vp_cell (G.2.2.1 a) (_, .inr (.inr (.inr (.inr _)))))
    rw [vp_cell_q, ← hsz, e1, hcA]
    rfl
  have k9 := kk H1 (sn_NP hP B ht z1 o1 hh) (sn_S hS z1 o1)
  rw [← hsz] at k9
  exact k9
end SN
