section SN2
variable {p : Program} {l : Launch} {e : Env} {R : Room} {s : State} {m : MethodId} {args : Array Value} {below : List Frame} {meth : Method} {c : Code} {H : Heap} {locs : List Loc} {cells slots : Nat} {Q : State → Prop} {cc : ByteArray} {pc t : Nat} {ls : Array Slot} {rest : List Value} {G : sm_G} {σ τ : sm_M} {own : String}
theorem sn_put {idx k ci n j : Nat} {ty : FieldType} {fin : Bool} {v : Value} (hx : p.tables.exec = Jvm.exec) (hb : c.code = cc) (hts : ∀ w ∈ sm_gt, w.before args s = true) (hown : s.vm.findClass own = some m.cls) (hin2 : meth.name = "<init>") (hf : sm_fk own idx ci j ty fin) (hdecl : ∀ q : vw_C, sm_cs[ci]? = some q → (q.2.1 j).1 = own) (hk : sm_kd k = (ci, n)) (hj : j < n) (hkt : k < t) (htn : t ≤ sm_NC)
    (B : sm_NB G s) (hP : sm_NP G t σ H) (hS : va_S (fun q => G.2.1 0 ≤ q) s.heap H locs) (hn : narrow ty v = v) (hfit : fits ty v = true) (hv : v = sm_fvN G τ k ci j) (ho : ∀ i, i ≠ j → sm_fvN G σ k ci i = sm_fvN G τ k ci i) (h1 : ∀ i, i ≠ k → σ.1 i = τ.1 i) (h2 : ∀ i, i ≠ k → σ.2 i = τ.2 i)
    (hdg : decode cc pc = .ok (.putfield idx, 3)) (kk : ∀ (H1 : Heap) (locs1 : List Loc), sm_NP G t τ H1 → va_S (fun q => G.2.1 0 ≤ q) s.heap H1 locs1 → W p l e R s m args below meth c H1 locs1 cells slots Q (F0 m (pc + 3) ls rest)) : W p l e R s m args below meth c H locs cells slots Q (F0 m pc ls (v :: .ref (G.2.1 k) :: rest)) := by
  obtain ⟨⟨R9, T9, N9⟩, ⟨hci, hc, hin, ty0, hty, hnm⟩, hjN, hlk, hpd, hfin⟩ := hf
  have he := sn_at (G := G) (σ := σ) hkt
  rw [sn_ob hk hci] at he
  have hdc : (T9 j).1 = own := hdecl _ hc
  have fin9 : ∀ (H1 : Heap) (locs1 : List Loc), H1.size = H.size → va_P G.1 sm_cs ((sm_clN G σ t).set k (G.2.1 k, .inr (ci, ((List.range n).map (sm_fvN G σ k ci)).set j v))) H1 → va_S (fun q => G.2.1 0 ≤ q) s.heap H1 locs1 → W p l e R s m args below meth c H1 locs1 cells slots Q (F0 m (pc + 3) ls rest) := by
    intro H1 locs1 hz hP1 hS1
    rw [sn_fs_set hj hv ho, ← sn_ob (G := G) (σ := τ) hk hci, sn_set h1 h2] at hP1
    exact kk H1 locs1 ⟨hP1, by rw [hz, hP.2]⟩ hS1
  have hap := va_apart (own := own) hts hin ty0 hty hnm B.2.1 hc
  obtain ⟨r, hr1, cell, q1, q2, q3, q4⟩ := hP.1 k _ he
  have hr : r = (R9, T9, N9) := Option.some.inj (hr1.symm.trans hc)
  subst hr
  obtain ⟨hSl, hfc, kC, hkC, hkind⟩ := B.2.1.1 ci _ hc
  obtain ⟨cf, kf, fi, f, hi, hsl⟩ := hSl j hjN
  have hlay := hts _ (hin _ (u_in_lay hjN))
  unfold u_lay at hlay
  have hst := (u_facts hfc hkC (u_lays hts hin hjN) hi).1
  have hD := sn_D (σ := σ) B htn
  have hl : j < ((List.range n).map (sm_fvN G σ k ci)).length := by simpa using hj
  cases fin with
  | false =>
    rw [if_neg (by rw [hfin]; decide)] at hlay
    have h6 := u_store hfc hkC hkind hlay hi hpd hn hfit
    refine W.putK hx hb (f := f) ⟨hown, hts _ hlk, ⟨_, _, _, hi⟩, hst⟩ (by rw [q2]; exact h6) q1 q3 (by rw [hsl]; exact k2_hasslot (q4 j hjN)) rfl rfl hdg fun H' e1 e2 e3 => ?_
    rw [hsl] at e1 ⊢
    exact fin9 H' _ e2 (hP.1.set hD he ⟨_, hc, t_OB.to (V := updV (vp_V ((List.range n).map (sm_fvN G σ k ci))) j v) ⟨_, e1, q2, q3, t_set q4 hap hjN v⟩ (fun i _ => vp_updV_set hl v i)⟩ e3) (hS.put e2 e3 (hD.2 k _ he))
  | true =>
    rw [if_pos hfin] at hlay
    have hcf : m.cls = cf := by
      obtain ⟨_, _, c', _, _, _, -, -, hf', -, -, -, hown2, -⟩ := Cond.laysFinal_spec hlay
      have e1 : c' = cf := by have := hi.symm.trans hf'; simp at this; exact this.1.symm
      rw [hdc] at hown2
      rw [← e1]; exact Option.some.inj (hown.symm.trans hown2)
    have h6 := u_fits hfc hkC hkind (Or.inr hlay) hi hpd hn hfit
    refine W.putFinK hx hb hown (hts _ hlk) hi hst hcf hin2 (by rw [q2]; exact h6) q1 q3 (by rw [hsl]; exact k2_hasslot (q4 j hjN)) rfl rfl hdg fun H' e1 e2 e3 => ?_
    rw [hsl] at e1 ⊢
    exact fin9 H' _ e2 (hP.1.set hD he ⟨_, hc, t_OB.to (V := updV (vp_V ((List.range n).map (sm_fvN G σ k ci))) j v) ⟨_, e1, q2, q3, t_set q4 hap hjN v⟩ (fun i _ => vp_updV_set hl v i)⟩ e3) (hS.put e2 e3 (hD.2 k _ he))
theorem sn_putI {idx k ci n j : Nat} {fin : Bool} {x : Int32} {I : Nat → Nat → Int32} {Rf : Nat → Nat → Nat} (hx : p.tables.exec = Jvm.exec) (hb : c.code = cc) (hts : ∀ w ∈ sm_gt, w.before args s = true) (hown : s.vm.findClass own = some m.cls) (hin2 : meth.name = "<init>") (hf : sm_fk own idx ci j .int fin) (hdecl : ∀ q : vw_C, sm_cs[ci]? = some q → (q.2.1 j).1 = own) (hk : sm_kd k = (ci, n)) (hj : j < n) (hkt : k < t) (htn : t ≤ sm_NC) (hr : sm_isR ci j = false)
    (B : sm_NB G s) (hP : sm_NP G t (I, Rf) H) (hS : va_S (fun q => G.2.1 0 ≤ q) s.heap H locs)
    (hdg : decode cc pc = .ok (.putfield idx, 3)) (kk : ∀ (H1 : Heap) (locs1 : List Loc), sm_NP G t (sm_up I k (sm_up (I k) j x), Rf) H1 → va_S (fun q => G.2.1 0 ≤ q) s.heap H1 locs1 → W p l e R s m args below meth c H1 locs1 cells slots Q (F0 m (pc + 3) ls rest)) : W p l e R s m args below meth c H locs cells slots Q (F0 m pc ls (.int x :: .ref (G.2.1 k) :: rest)) := by
  refine sn_put (τ := (sm_up I k (sm_up (I k) j x), Rf)) hx hb hts hown hin2 hf hdecl hk hj hkt htn B hP hS rfl rfl ?_ (fun i hi => ?_) (fun i hi => ?_) (fun i hi => rfl) hdg kk
  · unfold sm_fvN
    rw [if_neg (by rw [hr]; decide)]
    show Value.int x = Value.int (sm_up I k (sm_up (I k) j x) k j)
    rw [sm_up_eq, sm_up_eq]
  · unfold sm_fvN
    show (if _ then _ else Value.int (I k i)) = (if _ then _ else Value.int (sm_up I k (sm_up (I k) j x) k i))
    rw [sm_up_eq, sm_up_ne hi]
  · show I i = sm_up I k _ i
    rw [sm_up_ne hi]
theorem sn_putR {idx k ci n j x : Nat} {fin : Bool} {ty : FieldType} {I : Nat → Nat → Int32} {Rf : Nat → Nat → Nat} (hx : p.tables.exec = Jvm.exec) (hb : c.code = cc) (hts : ∀ w ∈ sm_gt, w.before args s = true) (hown : s.vm.findClass own = some m.cls) (hin2 : meth.name = "<init>") (hf : sm_fk own idx ci j ty fin) (hty : ∀ a : Nat, narrow ty (.ref a) = .ref a ∧ fits ty (.ref a) = true) (hdecl : ∀ q : vw_C, sm_cs[ci]? = some q → (q.2.1 j).1 = own) (hk : sm_kd k = (ci, n)) (hj : j < n) (hkt : k < t) (htn : t ≤ sm_NC) (hr : sm_isR ci j = true) (hx9 : ¬ x = 9999)
    (B : sm_NB G s) (hP : sm_NP G t (I, Rf) H) (hS : va_S (fun q => G.2.1 0 ≤ q) s.heap H locs)
    (hdg : decode cc pc = .ok (.putfield idx, 3)) (kk : ∀ (H1 : Heap) (locs1 : List Loc), sm_NP G t (I, sm_up Rf k (sm_up (Rf k) j x)) H1 → va_S (fun q => G.2.1 0 ≤ q) s.heap H1 locs1 → W p l e R s m args below meth c H1 locs1 cells slots Q (F0 m (pc + 3) ls rest)) : W p l e R s m args below meth c H locs cells slots Q (F0 m pc ls (.ref (G.2.1 x) :: .ref (G.2.1 k) :: rest)) := by
  refine sn_put (τ := (I, sm_up Rf k (sm_up (Rf k) j x))) hx hb hts hown hin2 hf hdecl hk hj hkt htn B hP hS (hty _).1 (hty _).2 ?_ (fun i hi => ?_) (fun i hi => rfl) (fun i hi => ?_) hdg kk
  · unfold sm_fvN
    rw [if_pos hr]
    show Value.ref (G.2.1 x) = (if sm_up Rf k (sm_up (Rf k) j x) k j = 9999 then Value.null else Value.ref (G.2.1 (sm_up Rf k (sm_up (Rf k) j x) k j)))
    rw [sm_up_eq, sm_up_eq, if_neg hx9]
  · unfold sm_fvN
    show (if _ then (if Rf k i = 9999 then Value.null else Value.ref (G.2.1 (Rf k i))) else _) = (if _ then (if sm_up Rf k (sm_up (Rf k) j x) k i = 9999 then Value.null else Value.ref (G.2.1 (sm_up Rf k (sm_up (Rf k) j x) k i))) else _)
    rw [sm_up_eq, sm_up_ne hi]
  · show Rf i = sm_up Rf k _ i
    rw [sm_up_ne hi]
theorem sn_getR {idx k ci n j r : Nat} {fin : Bool} {ty : FieldType} (hx : p.tables.exec = Jvm.exec) (hb : c.code = cc) (hts : ∀ w ∈ sm_gt, w.before args s = true) (hown : s.vm.findClass own = some m.cls) (hf : sm_fk own idx ci j ty fin) (hk : sm_kd k = (ci, n)) (hj : j < n) (hkt : k < t) (hr : sm_isR ci j = true) (hv : σ.2 k j = r) (hr9 : ¬ r = 9999) (B : sm_NB G s) (hP : sm_NP G t σ H)
    (hdg : decode cc pc = .ok (.getfield idx, 3)) (kk : W p l e R s m args below meth c H locs cells slots Q (F0 m (pc + 3) ls (.ref (G.2.1 r) :: rest))) : W p l e R s m args below meth c H locs cells slots Q (F0 m pc ls (.ref (G.2.1 k) :: rest)) := by
  obtain ⟨⟨R9, T9, N9⟩, ⟨ht, hc, hin, -⟩, hjN, hlk, -, -⟩ := hf
  have he := sn_at (G := G) (σ := σ) hkt
  rw [sn_ob hk ht] at he
  refine va_get (C := R9) (T := T9) (N := N9) (ci := ci) (v := .ref (G.2.1 r)) hx hb hts hin hown B.2.1 hP.1 k he hc j hjN (hts _ hlk) (fun _ h9 => h9) ?_ hdg kk
  rw [sn_fs hj]
  unfold sm_fvN
  rw [if_pos hr, hv, if_neg hr9]
theorem sn_aast {k a n x : Nat} {C : String} {i : Int32} {I : Nat → Nat → Int32} {Rf : Nat → Nat → Nat} (hx : p.tables.exec = Jvm.exec) (hb : c.code = cc) (ha : a = 3 ∧ C = "BaizeDoor$Player" ∨ a = 4 ∧ C = "java/lang/String") (hk : sm_kd k = (13 + a, n)) (hi : vp_in i n) (hkt : k < t) (htn : t ≤ sm_NC) (hr : va_Any C s H (G.2.1 x)) (hx9 : ¬ x = 9999)
    (B : sm_NB G s) (hP : sm_NP G t (I, Rf) H) (hS : va_S (fun q => G.2.1 0 ≤ q) s.heap H locs) (hdg : decode cc pc = .ok (.aastore, 1))
    (kk : ∀ (H1 : Heap) (locs1 : List Loc), sm_NP G t (I, sm_up Rf k (sm_up (Rf k) i.toNatClampNeg x)) H1 → va_S (fun q => G.2.1 0 ≤ q) s.heap H1 locs1 → W p l e R s m args below meth c H1 locs1 cells slots Q (F0 m (pc + 1) ls rest)) : W p l e R s m args below meth c H locs cells slots Q (F0 m pc ls (.ref (G.2.1 x) :: .int i :: .ref (G.2.1 k) :: rest)) := by
  have hlt : i.toNatClampNeg < n := Nat.not_le.mp fun q => hi (Or.inr q)
  have h0 : ¬ i < 0 := fun q => hi (Or.inl q)
  have he := sn_at (G := G) (σ := (I, Rf)) hkt
  rw [sn_rf hk (by omega)] at he
  have hty : (sm_ty G)[a]? = some (G.2.2.1 a, .object C) := by
    rcases ha with ⟨rfl, rfl⟩ | ⟨rfl, rfl⟩ <;> rfl
  have hD := sn_D (σ := (I, Rf)) B htn
  obtain ⟨cellV, g1, g3, ⟨kC, hkC⟩, hasg⟩ := hr
  obtain ⟨kA, comp, k1, k2, k3, -⟩ := (B.2.1.2 a _ hty).2
  obtain ⟨kE, hkE, -⟩ := Vm.findClass_spec k3
  refine W.aast hx hb (hP.1 k _ he) (fun q h => by cases h) (fun h => by cases h) k1 k2 rfl hkE ⟨h0, by show _ < (arrV _ _ _).slots.size; rw [arrV_size]; exact hlt⟩ g1 (fun q h => by rw [h] at g3; cases g3) hkC (hasg _ k3) rfl rfl hdg fun H1 e z oq => ?_
  have ee : sm_entN G (I, sm_up Rf k (sm_up (Rf k) i.toNatClampNeg x)) k = .inl (G.2.2.1 a, n, .inr (.inr (.inr (.inr (va_up (fun j => if Rf k j = 9999 then none else some (G.2.1 (Rf k j))) i.toNatClampNeg (some (G.2.1 x))))))) := by
    rw [sn_rf hk (by omega)]
    refine congrArg (fun z => Sum.inl (G.2.2.1 a, n, Sum.inr (Sum.inr (Sum.inr (Sum.inr z))))) ?_
    funext j
    show (if sm_up Rf k (sm_up (Rf k) i.toNatClampNeg x) k j = 9999 then none else some (G.2.1 (sm_up Rf k (sm_up (Rf k) i.toNatClampNeg x) k j))) = _
    rw [sm_up_eq]
    unfold va_up
    by_cases hj : j = i.toNatClampNeg
    · rw [if_pos hj, hj, sm_up_eq, if_neg hx9]
    · rw [if_neg hj, sm_up_ne hj]
  have hP1 := hP.1.set hD he (e := .inl (G.2.2.1 a, n, .inr (.inr (.inr (.inr (va_up (fun j => if Rf k j = 9999 then none else some (G.2.1 (Rf k j))) i.toNatClampNeg (some (G.2.1 x)))))))) (H1 := H1) ?_ oq
  · rw [← ee, sn_set (G := G) (σ := (I, Rf)) (k := k) (t := t) (τ := (I, sm_up Rf k (sm_up (Rf k) i.toNatClampNeg x))) (fun i hi => rfl) (fun i hi => (sm_up_ne hi).symm)] at hP1
    exact kk H1 _ ⟨hP1, by rw [z, hP.2]⟩ (hS.put z oq (hD.2 k _ he))
  · show H1[G.2.1 k]? = some (vp_cell _ _)
    rw [e]
    rw [vp_cell_q, vp_cell_q, arrV_store]
    congr 2
    funext q
    by_cases hq : q = i.toNatClampNeg
    · subst hq
      simp [updV, va_up, va_rf]
    · simp [updV, va_up, hq]
theorem sn_iast {k n : Nat} {i x : Int32} {I : Nat → Nat → Int32} {Rf : Nat → Nat → Nat} (hx : p.tables.exec = Jvm.exec) (hb : c.code = cc) (hk : sm_kd k = (13, n)) (hi : vp_in i n) (hkt : k < t) (htn : t ≤ sm_NC) (B : sm_NB G s) (hP : sm_NP G t (I, Rf) H) (hS : va_S (fun q => G.2.1 0 ≤ q) s.heap H locs) (hdg : decode cc pc = .ok (.iastore, 1))
    (kk : ∀ (H1 : Heap) (locs1 : List Loc), sm_NP G t (sm_up I k (sm_up (I k) i.toNatClampNeg x), Rf) H1 → va_S (fun q => G.2.1 0 ≤ q) s.heap H1 locs1 → W p l e R s m args below meth c H1 locs1 cells slots Q (F0 m (pc + 1) ls rest)) : W p l e R s m args below meth c H locs cells slots Q (F0 m pc ls (.int x :: .int i :: .ref (G.2.1 k) :: rest)) := by
  have he := sn_at (G := G) (σ := (I, Rf)) hkt
  rw [sn_ar (t := 0) hk (by omega)] at he
  have hD := sn_D (σ := (I, Rf)) B htn
  refine W.iast hx hb (hP.1 k _ he) ((B.2.1.2 0 _ rfl).1 n (fun j => .int (I k j))) (fun q => by cases q) (by show ¬ (i < 0 ∨ (arrV _ _ _).slots.size ≤ _); rw [arrV_size]; exact hi) rfl rfl hdg fun H1 e z oq => ?_
  have ee : sm_entN G (sm_up I k (sm_up (I k) i.toNatClampNeg x), Rf) k = .inl (G.2.2.1 0, n, .inl (sm_up (I k) i.toNatClampNeg x)) := by
    rw [sn_ar (t := 0) hk (by omega)]
    show Sum.inl (_, _, Sum.inl (sm_up I k (sm_up (I k) i.toNatClampNeg x) k)) = _
    rw [sm_up_eq]
  have hP1 := hP.1.set hD he (e := .inl (G.2.2.1 0, n, .inl (sm_up (I k) i.toNatClampNeg x))) (H1 := H1) ?_ oq
  · rw [← ee, sn_set (G := G) (σ := (I, Rf)) (k := k) (t := t) (τ := (sm_up I k (sm_up (I k) i.toNatClampNeg x), Rf)) (fun i hi => (sm_up_ne hi).symm) (fun i hi => rfl)] at hP1
    exact kk H1 _ ⟨hP1, by rw [z, hP.2]⟩ (hS.put z oq (hD.2 k _ he))
  · show H1[G.2.1 k]? = some (vp_cell _ _)
    rw [e]
    rw [vp_cell_i, vp_cell_i, arrV_store]
    congr 2
    funext q
    by_cases hq : q = i.toNatClampNeg
    · subst hq
      simp [updV, sm_up]
    · simp [updV, sm_up, hq]
theorem sn_after {st0 : List Value} {a : Array Value} {t1 mc ms : Nat} {σ1 : sm_M} (hr : va_Run p l e R s m args below meth c H locs cells slots mc ms (F0 m pc ls st0) rest ((fun (_ : Array Value) st oc t9 => oc = .returned none ∧ sm_NP G t1 σ1 t9.heap ∧ va_F (fun q => G.2.1 0 ≤ q) st t9) a) (fun q => G.2.1 0 ≤ q)) (hS : va_S (fun q => G.2.1 0 ≤ q) s.heap H locs)
    (kk : ∀ (H1 : Heap) (locs1 : List Loc), sm_NP G t1 σ1 H1 → va_S (fun q => G.2.1 0 ≤ q) s.heap H1 locs1 → W p l e R s m args below meth c H1 locs1 (cells + mc) (slots + ms) Q (F0 m (pc + 3) ls rest)) : W p l e R s m args below meth c H locs cells slots Q (F0 m pc ls st0) := by
  intro T hT X
  obtain ⟨v, st₀, t9, T', L, h0, X', hL, e1, e2, ⟨hv, hp, hz, hk⟩, st⟩ := hr T hT X
  cases hv
  rw [h0] at hz hk
  rw [← e1] at hp
  obtain ⟨t2, a1, b1⟩ := kk T'.heap (locs ++ L) hp ⟨Nat.le_trans hS.1 (by rw [e1]; exact hz), fun q h1 h2 => by rw [e1, hk q (Nat.lt_of_lt_of_le h1 hS.1) h2]; exact hS.2.1 q h1 h2, fun q hq => by
      rcases List.mem_append.mp hq with h | h
      · exact hS.2.2 q h
      · exact hL q h⟩ T' rfl X'
  exact ⟨t2, st t2 a1, b1⟩
/-- the words of a constructor M of n parameters -/
def sn_mk (n : Nat) (M : sm_I) : Prop := Cond.initialized M.1.cls ∈ sm_gt ∧ Cond.code M.1 M.2.1 M.2.2.1 none ∈ sm_gt ∧ Cond.instanceMethod M.1 ∈ sm_gt ∧ M.2.2.2 = none ∧ M.1.name = "<init>" ∧ M.1.cls ≠ "java/lang/invoke/MethodHandle" ∧ M.1.cls ≠ "java/lang/invoke/VarHandle" ∧ (parseMethodDescriptor M.1.desc).map (fun d => d.parameters.length) = some n ∧ M.2.2.1 ≤ 41
theorem sn_good (M : sm_I) (hret : M.2.2.2 = none) (hc : Cond.code M.1 M.2.1 M.2.2.1 none ∈ sm_gt) : GoodIn sm_gt (sm_ws M) := by
  intro w hw
  rcases List.mem_cons.mp hw with rfl | hw
  · rw [hret]
    exact ⟨hc, sm_gt_good hc⟩
  · exact ⟨hw, sm_gt_good hw⟩
theorem sn_callI {As : List sm_V} {k idx n d1 t1 mc ms nL : Nat} {M1 : sm_I} {σ1 : sm_M} (hK1 : sm_K l d1 M1 (.inr (.inl k) :: As) t σ t1 σ1 mc ms) (hm : sn_mk n M1) (hl9 : (own, idx, M1.1) ∈ sn_nl ∨ Cond.methodLink own idx M1.1 ∈ sm_gt) (hx : p.tables.exec = Jvm.exec) (hb : c.code = cc) (hml : c.maxLocals = nL) (hts : ∀ w ∈ sm_gt, w.before args s = true) (hown : s.vm.findClass own = some m.cls) (hn : As.length = n) (hls : ls.size = nL) (hrest : (rest.map fun v => v.category).sum ≤ 8) (hfr : d1 + 10 + 1 ≤ R.frames) (hlo : 8 + (M1.2.2.1 + 11) + (60 * d1 + 200) ≤ R.locals) (hc9 : cells + mc ≤ R.cells ∧ slots + ms ≤ R.slots)
    (B : sm_NB G s) (hP : sm_NP G t σ H) (hS : va_S (fun q => G.2.1 0 ≤ q) s.heap H locs) (hdg : decode cc pc = .ok (.invokespecial idx, 3))
    (kk : ∀ (H1 : Heap) (locs1 : List Loc), sm_NP G t1 σ1 H1 → va_S (fun q => G.2.1 0 ≤ q) s.heap H1 locs1 → W p l e R s m args below meth c H1 locs1 (cells + mc) (slots + ms) Q (F0 m (pc + 3) ls rest)) : W p l e R s m args below meth c H locs cells slots Q (F0 m pc ls ((As.map (sm_vv G.2.1)).reverse ++ .ref (G.2.1 k) :: rest)) := by
  obtain ⟨m1, m2, m3, m4, m5, m6, m7, m8, m9⟩ := hm
  have hw : sm_ws M1 = Cond.code M1.1 M1.2.1 M1.2.2.1 none :: sm_gt := by
    unfold sm_ws
    rw [m4]
  have hpre : PreS s H (va_Pc ((.inr (.inl k) :: As).map (sm_vv G.2.1)) (fun U => sm_NP G t σ U.heap ∧ sm_NB G U)) (.ref (G.2.1 k) :: As.map (sm_vv G.2.1)) := ⟨sn_blind _ _ _ _, fun U hU hW => ⟨rfl, by rw [hU]; exact hP, sm_NB.move B hS hU hW⟩⟩
  rcases hl9 with hl9 | hl9
  · exact sn_after (a := #[]) (va_runIN (host := "BaizeDoor") (Ts := sm_gt) (nL := nL) (n := n) (As := As.map (sm_vv G.2.1)) ⟨hx, hb, hml, hown, hts⟩ (hK1 G) ⟨va_cnB n hts (sn_good M1 m4 m2) hw rfl rfl (B.2.2.2.2.2.2 _ hl9) (hts _ m1) ⟨m6, m7, m8⟩ ⟨hfr, hlo⟩, m5, hts _ m3⟩ hpre rfl (by rw [List.length_map]; exact hn) hls rfl (lv_room hrest) hdg hc9) hS kk
  · exact sn_after (a := #[]) (va_runI (Ts := sm_gt) (nL := nL) (n := n) (As := As.map (sm_vv G.2.1)) ⟨hx, hb, hml, hown, hts⟩ (hK1 G) (cwI n hts (sn_good M1 m4 m2) hw rfl rfl (hts _ m1) (hts _ hl9) (hts _ m3) m5 ⟨m6, m7, m8⟩ ⟨hfr, hlo⟩) hpre rfl (by rw [List.length_map]; exact hn) hls rfl (lv_room hrest) hdg hc9) hS kk
theorem sn_anyP {x : Nat} (hk : sm_kd x = (4, 6)) (hxt : x < t) (B : sm_NB G s) (hP : sm_NP G t σ H) : va_Any "BaizeDoor$Player" s H (G.2.1 x) := by
  have he := sn_at (G := G) (σ := σ) hxt
  rw [sn_ob hk (by omega)] at he
  exact va_rAny (r := (RX4, TX4, 6)) B.2.1 hP.1 he rfl (fun comp c0 h1 h2 => by cases Option.some.inj (h1.symm.trans h2); exact va_asg _ _)
theorem sn_anyS {i : Nat} (hi : i < sm_NS) (B : sm_NB G s) (hS : va_S (fun q => G.2.1 0 ≤ q) s.heap H locs) : va_Any "java/lang/String" s H (G.2.1 (1000 + i)) := by
  obtain ⟨cell, h1, h2, h3, -⟩ := (B.2.2.1 i hi).1.kept hS.2.1
  obtain ⟨k9, hk9, -⟩ := Vm.findClass_spec h3
  exact ⟨cell, h1, h2, ⟨k9, hk9⟩, fun comp hc => by cases Option.some.inj (hc.symm.trans h3); exact va_asg _ _⟩
end SN2
/-- a constructor by its body -/
theorem sn_meth {l : Launch} {d : Nat} {M : sm_I} {As : List sm_V} {t t' mc ms : Nat} {σ σ' : sm_M} (hy : plainName M.1.cls = true) (hn : sm_sz As ≤ M.2.2.1) (hname : M.1.name = "<init>")
    (k : ∀ (G : sm_G) (p : Program) (e : Env) (s : State) (m : MethodId) (args : Array Value) (below : List Frame) (meth : Method) (c : Code) (ls : Array Slot), p.tables.exec = Jvm.exec → c.code = M.2.1 → c.maxLocals = M.2.2.1 → s.vm.findClass M.1.cls = some m.cls → (∀ w ∈ sm_gt, w.before args s = true) → meth.sig.returnType = M.2.2.2 → meth.locks = false → meth.name = "<init>" → sm_NP G t σ s.heap → sm_NB G s → lv_has ls M.2.2.1 (sm_lv G.2.1 (sm_args 0 As)) →
      W p l e { frames := d + 10, cells := mc, slots := ms, locals := 60 * d + 200 } s m args below meth c s.heap [] 0 0 (MQ below (fun _ st oc t9 => oc = .returned none ∧ sm_NP G t' σ' t9.heap ∧ va_F (fun q => G.2.1 0 ≤ q) st t9) args s mc ms (fun q => G.2.1 0 ≤ q)) (F0 m 0 ls [])) : sm_K l d M As t σ t' σ' mc ms := by
  intro G
  refine Met.ofW (cc := M.2.1) (maxL := M.2.2.1) (ret := M.2.2.2) hy rfl ?_
  intro p e s m args below meth c s₁ B hml hv
  obtain ⟨rfl, hP, hB⟩ := hv
  have hts := atoms_spec (ws := sm_ws M) B.pre
  have hl := lv_entry (As.map (sm_vv G.2.1)) (n := M.2.2.1) (by rw [sm_sl_len]; exact hn)
  rw [lg_entry_eq]
  rw [sm_lv_args] at hl
  exact k G p e s m _ below meth c _ B.exec B.bytes hml (findClass_of_methodNamed B.named) (fun w hw => hts w (List.mem_cons_of_mem _ hw)) B.returns B.notSynchronized ((name_of_methodNamed B.named B.method).1.trans hname) hP hB hl
