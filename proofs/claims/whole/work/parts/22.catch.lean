/-! ===== a throw that a row of the method's own table takes ===== -/
section ZT
variable {p : Program} {l : Launch} {e : Env} {R : Room} {s : State} {m : MethodId} {args : Array Value} {below : List Frame} {meth : Method} {c : Code} {T : State} {H : Heap} {locs : List Loc} {cells slots : Nat}
/-- one row whose class links: it takes the thing, or the next row is asked; the link is noted -/
theorem zt_row {Q : Handler → Pre} {E : CtlPost} {d : Bool} {acts : List Action} {T : State} {f : JFrame} {a : Addr} {x : ExceptionTableEntry} {t : List ExceptionTableEntry} {cT : ClassId} {ce : Cell} (hx : covers x f.pc = true) (h0 : x.catchType ≠ 0) (hl : T.vm.ClassLinks e.platform f.method.cls x.catchType cT) (hce : T.heap[a]? = some ce) (hv : ce.vm = .none) (h1 : ∃ k, T.vm.classes[ce.cls]? = some k) (h2 : ∃ k, T.vm.classes[cT]? = some k) :
    wp (findHandler.go f a (x :: t)) Q E e d acts T ↔ if T.vm.assignable ce.cls cT = true then Q (.found x.handlerPc) d acts (T.setVm (T.vm.noted f.method.cls x.catchType (.cls cT))) else wp (findHandler.go f a t) Q E e d acts (T.setVm (T.vm.noted f.method.cls x.catchType (.cls cT))) := by
  simp only [covers] at hx
  obtain ⟨ha, ht⟩ := (resolveClass_links e.toSetting hl).op (op := VmOp.resolveClass f.method.cls x.catchType) rfl
  have hal : T.vm.Alike (T.vm.noted f.method.cls x.catchType (.cls cT)) := (Vm.Alike.refl T.vm).noted _ _ _
  obtain ⟨k1, hk1⟩ := h1
  obtain ⟨k2, hk2⟩ := h2
  obtain ⟨j1, hj1, -⟩ := hal.2.2 _ _ hk1
  obtain ⟨j2, hj2, -⟩ := hal.2.2 _ _ hk2
  have hv' : ∀ k, ce.vm ≠ .statics k := fun k h => by rw [hv] at h; cases h
  have hass := hal.assignable ce.cls cT
  by_cases hf : T.vm.assignable ce.cls cT = true
  · rw [if_pos hf]
    have hf' := hass.trans hf
    simp [findHandler.go, hx, h0, ha, ht, hce, hv', hj1, hj2, hf', VmOp.dirties, VmOp.acts]
  · rw [if_neg hf]
    have hf' := hass.trans (Bool.eq_false_iff.mpr hf)
    simp [findHandler.go, hx, h0, ha, ht, hce, hv', hj1, hj2, hf', VmOp.dirties, VmOp.acts]
/-- the search ends at pc, whatever is asked behind it -/
def zt_F (e : Env) (S : State) (f : JFrame) (a : Addr) (pc : Nat) (vm' : Vm) : Prop :=
  ∀ (Q : Handler → Pre) (E : CtlPost) (d : Bool) (acts : List Action), wp (findHandler f a) Q E e d acts S ↔ Q (.found pc) d acts (S.setVm vm')
theorem zt_step (X : Stand p l e R s m args below meth c T locs cells slots) {g : JFrame} (hg : g.method = m) {a : Addr} {pc : Nat} {vm' : Vm} (hF : zt_F e ((T.setTop g).pushFrame (.throwing a)) g a pc vm') {t : State} (hr : Steps p.tables e below ((T.setVm vm').setTop { g with pc := pc, stack := [.ref a] }) t) : Steps p.tables e below ((T.setTop g).pushFrame (.throwing a)) t := by
  subst hg
  have hh := X.here
  obtain ⟨hgo, hw⟩ := hh.throwing a
  obtain ⟨g₀, hg0⟩ := Option.isSome_iff_exists.mp hh.top
  obtain ⟨r, hfr⟩ := State.topJava?_eq_some.mp hg0
  have hs : (stepThrowing e ((T.setTop g).pushFrame (.throwing a)) a (.java g :: T.frames.tail)).Is ((((T.setTop g).pushFrame (.throwing a)).setVm vm').setFrames (.java { g with pc := pc, stack := [.ref a] } :: T.frames.tail)) [] := by
    simp only [stepThrowing, searchFrame, vmDo]
    generalize hres : Sem.go _ e false [] _ = res
    obtain ⟨as, rfl, ha⟩ := Sem.eq_ok_of hres (a := Handler.found pc) (s' := ((T.setTop g).pushFrame (.throwing a)).setVm vm') (acts' := []) (by simp [hF _ _ _ _])
    exact ⟨rfl, ha⟩
  refine Steps.head hgo hw ?_
  rw [stepThread_throwing (frames_entered hh.top _), hs.1]
  have hfr' : (T.setVm vm').frames = .java g₀ :: r := hfr
  rw [State.setTop_of_frames _ hfr'] at hr
  have q1 : ∀ (u : State) (F K : List Frame), ((u.setFrames F).setVm vm').setFrames K = (u.setVm vm').setFrames K := fun u F K => by
    rw [show (u.setFrames F).setVm vm' = (u.setVm vm').setFrames F from rfl, State.setFrames_setFrames]
  rw [hfr, List.tail_cons, State.pushFrame, q1, State.setTop_of_frames _ hfr, q1]
  exact hr
variable {Q : State → Prop} {pc : Nat} {ls : Array Slot} {rest : List Value} {own E : String} {ce : Cell} {q : Addr}
/-- the first row takes it -/
theorem zt_catch1 {name : String} {x : ExceptionTableEntry} {t : List ExceptionTableEntry} (hown : s.vm.findClass own = some m.cls) (htab : c.exceptionTable.toList = x :: t) (hx : covers x pc = true) (h0 : x.catchType ≠ 0) (hlink : (Cond.classLink own x.catchType name).before args s = true) (hcast : (Cond.castable E name).before args s = true) (hcell : H[q]? = some ce) (hv : ce.vm = .none) (hcl : s.vm.findClass E = some ce.cls)
    (kk : W p l e R s m args below meth c H locs cells slots Q (F0 m x.handlerPc ls [.ref q])) : vx_W p l e R s m args below meth c H locs cells slots Q (F0 m pc ls rest) q := by
  intro T hT X
  have hpl : e.platform.magicAccessors = ({} : Platform).magicAccessors := by rw [X.admits.platform]
  obtain ⟨c3, c4, hc3, hc4, hasg⟩ := Cond.castable_spec hcast
  cases Option.some.inj (hc3.symm.trans hcl)
  obtain ⟨c5, hc5, hl5⟩ := Cond.classLink_spec hown hlink e.platform hpl
  cases Option.some.inj (hc4.symm.trans hc5)
  obtain ⟨dk, _, _, kt, hd, _, _, _, _, hkt, _, hopen⟩ := hl5.here
  have hal := X.warmed.alike
  obtain ⟨kt', hkt', -⟩ := hal.2.2 _ _ hkt
  obtain ⟨k9, h9, -⟩ := Vm.findClass_spec hcl
  obtain ⟨k9', h9', -⟩ := hal.2.2 _ _ h9
  have hW' : s.WarmedH (T.vm.noted m.cls x.catchType (.cls c4)) := X.warmed.noted hd hopen (State.rightAt_cls hl5)
  have hF : zt_F e ((T.setTop (F0 m pc ls rest)).pushFrame (.throwing q)) (F0 m pc ls rest) q x.handlerPc (T.vm.noted m.cls x.catchType (.cls c4)) := by
    intro Q E d acts
    refine (W.findHandler_eq (meth := meth) (code := c) X.method' X.code).trans ?_
    rw [htab]
    refine (zt_row (T := (T.setTop (F0 m pc ls rest)).pushFrame (.throwing q)) (f := F0 m pc ls rest) (e := e) (cT := c4) (ce := ce) hx h0 (X.warmed.classLinks hl5) (by show T.heap[q]? = _; rw [hT]; exact hcell) hv ⟨k9', h9'⟩ ⟨kt', hkt'⟩).trans ?_
    rw [if_pos (by show T.vm.assignable _ _ = true; rw [hal.assignable]; exact hasg)]
    exact Iff.rfl
  obtain ⟨t9, a1, b1⟩ := kk (T.setVm (T.vm.noted m.cls x.catchType (.cls c4))) hT (X.noted hW')
  exact ⟨t9, zt_step X rfl hF a1, b1⟩
/-- the first row lets it by, the second takes it -/
theorem zt_catch2 {name nm : String} {y x : ExceptionTableEntry} {t : List ExceptionTableEntry} (hown : s.vm.findClass own = some m.cls) (htab : c.exceptionTable.toList = y :: x :: t) (hy : covers y pc = true) (hy0 : y.catchType ≠ 0) (hylink : (Cond.classLink own y.catchType nm).before args s = true) (hno : va_Nc E nm s) (hx : covers x pc = true) (h0 : x.catchType ≠ 0) (hlink : (Cond.classLink own x.catchType name).before args s = true) (hcast : (Cond.castable E name).before args s = true) (hcell : H[q]? = some ce) (hv : ce.vm = .none) (hcl : s.vm.findClass E = some ce.cls)
    (kk : W p l e R s m args below meth c H locs cells slots Q (F0 m x.handlerPc ls [.ref q])) : vx_W p l e R s m args below meth c H locs cells slots Q (F0 m pc ls rest) q := by
  intro T hT X
  have hpl : e.platform.magicAccessors = ({} : Platform).magicAccessors := by rw [X.admits.platform]
  obtain ⟨c3, c4, hc3, hc4, hasg⟩ := Cond.castable_spec hcast
  cases Option.some.inj (hc3.symm.trans hcl)
  obtain ⟨c5, hc5, hl5⟩ := Cond.classLink_spec hown hlink e.platform hpl
  cases Option.some.inj (hc4.symm.trans hc5)
  obtain ⟨c6, hc6, hl6⟩ := Cond.classLink_spec hown hylink e.platform hpl
  obtain ⟨a8, b8, n1, n2, n3⟩ := hno
  cases Option.some.inj (n1.symm.trans hcl)
  cases Option.some.inj (n2.symm.trans hc6)
  obtain ⟨dk, _, _, kt, hd, _, _, _, _, hkt, _, hopen⟩ := hl5.here
  obtain ⟨ek, _, _, ky, he, _, _, _, _, hky, _, heopen⟩ := hl6.here
  have hW1 : s.WarmedH (T.vm.noted m.cls y.catchType (.cls c6)) := X.warmed.noted he heopen (State.rightAt_cls hl6)
  have hW2 : s.WarmedH ((T.vm.noted m.cls y.catchType (.cls c6)).noted m.cls x.catchType (.cls c4)) := hW1.noted hd hopen (State.rightAt_cls hl5)
  have hal := X.warmed.alike
  have hal1 := hW1.alike
  obtain ⟨ky', hky', -⟩ := hal.2.2 _ _ hky
  obtain ⟨kt1, hkt1, -⟩ := hal1.2.2 _ _ hkt
  obtain ⟨k9, h9, -⟩ := Vm.findClass_spec hcl
  obtain ⟨k9', h9', -⟩ := hal.2.2 _ _ h9
  obtain ⟨k91, h91, -⟩ := hal1.2.2 _ _ h9
  have hF : zt_F e ((T.setTop (F0 m pc ls rest)).pushFrame (.throwing q)) (F0 m pc ls rest) q x.handlerPc ((T.vm.noted m.cls y.catchType (.cls c6)).noted m.cls x.catchType (.cls c4)) := by
    intro Q E d acts
    refine (W.findHandler_eq (meth := meth) (code := c) X.method' X.code).trans ?_
    rw [htab]
    refine (zt_row (T := (T.setTop (F0 m pc ls rest)).pushFrame (.throwing q)) (f := F0 m pc ls rest) (e := e) (cT := c6) (ce := ce) hy hy0 (X.warmed.classLinks hl6) (by show T.heap[q]? = _; rw [hT]; exact hcell) hv ⟨k9', h9'⟩ ⟨ky', hky'⟩).trans ?_
    rw [if_neg (by show ¬ T.vm.assignable _ _ = true; rw [hal.assignable, n3]; decide)]
    refine (zt_row (T := ((T.setTop (F0 m pc ls rest)).pushFrame (.throwing q)).setVm (T.vm.noted m.cls y.catchType (.cls c6))) (f := F0 m pc ls rest) (e := e) (cT := c4) (ce := ce) hx h0 (hW1.classLinks hl5) (by show T.heap[q]? = _; rw [hT]; exact hcell) hv ⟨k91, h91⟩ ⟨kt1, hkt1⟩).trans ?_
    rw [if_pos (by show (T.vm.noted m.cls y.catchType (.cls c6)).assignable _ _ = true; rw [hal1.assignable]; exact hasg)]
    exact Iff.rfl
  obtain ⟨t9, a1, b1⟩ := kk (T.setVm ((T.vm.noted m.cls y.catchType (.cls c6)).noted m.cls x.catchType (.cls c4))) hT (X.noted hW2)
  exact ⟨t9, zt_step X rfl hF a1, b1⟩
end ZT
