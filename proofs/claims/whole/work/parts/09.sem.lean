/-! ===== A SMALL MEMORY: the class's and the reference's cells by number, ints and references apart; one judgement over the machine (sm_W), a row an instruction ===== -/
abbrev sm_V : Type := Int32 ⊕ (Nat ⊕ Int64)
abbrev sm_M : Type := (Nat → Nat → Int32) × (Nat → Nat → Nat)
abbrev sm_G : Type := va_G × (Nat → Nat) × (Nat → ClassId) × (Nat → Nat)
abbrev sm_I : Type := MethodName × ByteArray × Nat × Option FieldType
abbrev sm_O : Type := Option sm_V ⊕ String
def sm_vv (ad : Nat → Nat) : sm_V → Value
  | .inl x => .int x
  | .inr (.inl k) => .ref (ad k)
  | .inr (.inr x) => .long x
def sm_lg : sm_V → Bool
  | .inr (.inr _) => true
  | _ => false
def sm_up {α : Type} (f : Nat → α) (k : Nat) (v : α) : Nat → α := fun j => if j = k then v else f j
def sm_NC : Nat := 120
def sm_kdL : List (Nat × Nat) := [(11, 16), (5, 11), (14, 700), (7, 9), (13, 6), (13, 6), (13, 48), (6, 4), (13, 700), (13, 64), (10, 4), (16, 7), (4, 6), (4, 6), (4, 6), (4, 6), (4, 6), (4, 6), (4, 6), (13, 6), (13, 9), (13, 9), (7, 9), (13, 6), (13, 6), (13, 48), (6, 4), (13, 700), (13, 64), (10, 4), (16, 7), (4, 6), (4, 6), (4, 6), (4, 6), (4, 6), (4, 6), (4, 6), (13, 6), (13, 9), (13, 9), (0, 3), (13, 1480), (9, 4), (13, 8), (13, 8), (13, 8), (13, 3), (3, 5), (13, 37), (0, 3), (13, 1480), (9, 4), (13, 8), (13, 8), (13, 8), (13, 3), (4, 6), (4, 6), (10, 4), (16, 7), (4, 6), (4, 6), (4, 6), (4, 6), (4, 6), (4, 6), (4, 6), (13, 61), (8, 5), (13, 7), (4, 6), (15, 100), (1, 2), (13, 512), (13, 42), (2, 3), (15, 2), (13, 8), (4, 6), (12, 59), (17, 2), (17, 2), (17, 6), (13, 8), (13, 12), (13, 12), (13, 96), (13, 14), (13, 14), (13, 14), (13, 14), (13, 1400), (13, 3), (13, 700), (13, 7), (13, 7), (13, 7), (13, 7), (13, 7), (13, 1480), (13, 6), (13, 64), (13, 37), (13, 37), (13, 512), (13, 81), (13, 8), (13, 8), (13, 8), (13, 37), (13, 140), (13, 980), (13, 8), (13, 37), (13, 1480), (13, 8), (13, 8), (13, 8), (13, 3)]
def sm_kd (k : Nat) : Nat × Nat := sm_kdL.getD k (99, 0)
def sm_rfL : List (List Nat) := [[0], [0, 1], [0, 1, 2], [1, 2, 3, 4], [], [0, 2], [0, 3], [0, 1, 2, 4, 5, 6, 7, 8], [0, 3, 4], [0, 1, 2], [0], [0, 3, 4, 5, 6, 7, 8, 9, 10, 11, 12, 13, 14], [0, 1, 2, 4, 5, 6, 7, 8, 9, 10, 11, 12, 13, 14, 25, 26, 27, 28, 29, 30, 35, 36, 37, 38, 39, 40, 41, 42, 43, 44, 45, 46, 48, 53, 54, 55, 56, 57, 58]]
def sm_isR (t j : Nat) : Bool := (sm_rfL.getD t []).contains j
def sm_fv (G : sm_G) (σ : sm_M) (k t j : Nat) : Value := if sm_isR t j = true then .ref (G.2.1 (σ.2 k j)) else .int (σ.1 k j)
def sm_ent (G : sm_G) (σ : sm_M) (k : Nat) : va_E :=
  if (sm_kd k).1 < 13 then .inr ((sm_kd k).1, (List.range (sm_kd k).2).map (sm_fv G σ k (sm_kd k).1))
  else if (sm_kd k).1 < 16 then .inl (G.2.2.1 ((sm_kd k).1 - 13), (sm_kd k).2, .inl (σ.1 k))
  else .inl (G.2.2.1 ((sm_kd k).1 - 13), (sm_kd k).2, .inr (.inr (.inr (.inr fun j => some (G.2.1 (σ.2 k j))))))
def sm_cl (G : sm_G) (σ : sm_M) : va_W := (List.range sm_NC).map fun k => (G.2.1 k, sm_ent G σ k)
def sm_cs : List vw_C := [(RX0, TX0, 3), (RX1, TX1, 2), (RX2, TX2, 3), (RX3, TX3, 5), (RX4, TX4, 6), (RX5, TX5, 11), (RX6, TX6, 4), (RX7, TX7, 9), (RX8, TX8, 5), (RX9, TX9, 4), (RX10, TX10, 4), (RX11, TX11, 16), (RX12, TX12, 59)]
def sm_ty (G : sm_G) : List (ClassId × FieldType) := [(G.2.2.1 0, .int), (G.2.2.1 1, .byte), (G.2.2.1 2, .boolean), (G.2.2.1 3, .object "BaizeDoor$Player"), (G.2.2.1 4, .object "java/lang/String")]
def sm_A (G : sm_G) (sz : Nat) : Nat → Prop := fun q => (∃ k, k < sm_NC ∧ G.2.1 k = q) ∨ sz ≤ q
def sm_gt : List Cond := lw_tbl.filter goodWord
/-- casts that no method carries along -/
def sm_bc : List (String × String) := [("java/util/NoSuchElementException", "java/util/NoSuchElementException"), ("java/lang/IllegalArgumentException", "java/lang/IllegalArgumentException")]
def sm_bd : List MethodName := [Bundle.initS "java/lang/RuntimeException", Bundle.initS "java/lang/Exception", Bundle.initS Bundle.tN]
def sm_NS : Nat := 26
def sm_len : List Nat := [30, 5, 5, 5, 7, 6, 6, 5, 4, 4, 3, 4, 4, 3, 2, 3, 13, 13, 23, 11, 13, 23, 12, 39, 15, 12]
def sm_byt : List (List Int32) := [[116, 104, 101, 32, 116, 97, 112, 101, 32, 104, 97, 115, 32, 110, 111, 116, 32, 115, 111, 32, 109, 97, 110, 121, 32, 98, 121, 116, 101, 115], [112, 105, 101, 99, 101], [115, 116, 117, 100, 121], [112, 117, 112, 105, 108], [112, 114, 111, 100, 105, 103, 121], [112, 105, 97, 110, 111, 115], [108, 101, 97, 114, 110, 115], [115, 107, 105, 108, 108], [115, 111, 114, 101], [104, 97, 114, 100], [98, 97, 114], [98, 97, 114, 115], [97, 119, 97, 121], [110, 111, 116], [111, 114], [97, 110, 100], [110, 111, 32, 115, 117, 99, 104, 32, 99, 111, 117, 110, 116], [110, 111, 32, 115, 117, 99, 104, 32, 112, 105, 101, 99, 101], [110, 111, 32, 115, 117, 99, 104, 32, 119, 104, 97, 116, 32, 111, 102, 32, 97, 32, 112, 105, 101, 99, 101], [110, 111, 32, 115, 117, 99, 104, 32, 98, 97, 114], [110, 111, 32, 115, 117, 99, 104, 32, 112, 117, 112, 105, 108], [110, 111, 32, 115, 117, 99, 104, 32, 119, 104, 97, 116, 32, 111, 102, 32, 97, 32, 112, 117, 112, 105, 108], [110, 111, 32, 115, 117, 99, 104, 32, 119, 104, 97, 116], [97, 32, 110, 117, 109, 98, 101, 114, 32, 116, 104, 97, 116, 32, 105, 115, 32, 116, 111, 111, 32, 115, 109, 97, 108, 108, 32, 111, 114, 32, 116, 111, 111, 32, 108, 97, 114, 103, 101], [110, 111, 32, 115, 117, 99, 104, 32, 99, 111, 110, 99, 101, 114, 116], [98, 111, 116, 104, 32, 97, 114, 101, 32, 111, 110, 101]]
def sm_sl : List (String × Nat × String × Nat) := [("BaizeDoor", 106, "the tape has not so many bytes", 0), ("BaizeDoor$Reader", 60, "piece", 1), ("BaizeDoor$Reader", 66, "study", 2), ("BaizeDoor$Reader", 71, "pupil", 3), ("BaizeDoor$Reader", 73, "prodigy", 4), ("BaizeDoor$Reader", 78, "pianos", 5), ("BaizeDoor$Reader", 83, "learns", 6), ("BaizeDoor$Reader", 192, "skill", 7), ("BaizeDoor$Reader", 193, "sore", 8), ("BaizeDoor$Reader", 194, "hard", 9), ("BaizeDoor$Reader", 195, "bar", 10), ("BaizeDoor$Reader", 197, "bars", 11), ("BaizeDoor$Reader", 198, "away", 12), ("BaizeDoor$Reader", 183, "not", 13), ("BaizeDoor$Reader", 185, "or", 14), ("BaizeDoor$Reader", 187, "and", 15), ("BaizeDoor", 162, "no such count", 16), ("BaizeDoor", 389, "no such piece", 17), ("BaizeDoor", 185, "no such what of a piece", 18), ("BaizeDoor", 187, "no such bar", 19), ("BaizeDoor", 387, "no such pupil", 20), ("BaizeDoor", 218, "no such what of a pupil", 21), ("BaizeDoor", 391, "no such what", 22), ("BaizeDoor", 393, "a number that is too small or too large", 23), ("BaizeDoor", 300, "no such concert", 24), ("BaizeDoor", 335, "both are one", 25), ("BaizeDoorModel", 11, "piece", 1), ("BaizeDoorModel", 13, "study", 2), ("BaizeDoorModel", 19, "pupil", 3), ("BaizeDoorModel", 21, "prodigy", 4), ("BaizeDoorModel", 26, "skill", 7), ("BaizeDoorModel", 28, "sore", 8), ("BaizeDoorModel", 30, "hard", 9), ("BaizeDoorModel", 32, "bar", 10), ("BaizeDoorModel", 34, "bars", 11), ("BaizeDoorModel", 36, "away", 12), ("BaizeDoorModel", 273, "pianos", 5), ("BaizeDoorModel", 275, "learns", 6), ("BaizeDoorModel", 254, "not", 13), ("BaizeDoorModel", 262, "and", 15), ("BaizeDoorModel", 267, "or", 14)]
def sm_S (G : sm_G) (A : Nat → Prop) (U : State) (H : Heap) : Prop :=
  ∀ i : Nat, i < sm_NS → va_O "java/lang/String" (G.2.1 (1000 + i)) A U H ∧ va_OF "java/lang/String" "coder" "B" (.int 0) (G.2.1 (1000 + i)) A U H ∧ va_OF "java/lang/String" "value" "[B" (.ref (G.2.1 (2000 + i))) (G.2.1 (1000 + i)) A U H ∧ va_T .byte (G.2.1 (2000 + i)) (sm_len.getD i 0) (fun j => .int ((sm_byt.getD i []).getD j 0)) A U H
theorem sm_S.moved {G : sm_G} {A : Nat → Prop} {u U : State} {H : Heap} (hvm : u.vm.Alike U.vm) (h : sm_S G A u H) : sm_S G A U H := fun i hi => ⟨va_O.moved hvm (h i hi).1, va_OF.moved hvm (h i hi).2.1, va_OF.moved hvm (h i hi).2.2.1, va_T.moved hvm (h i hi).2.2.2⟩
theorem sm_S.kept {G : sm_G} {A : Nat → Prop} {U : State} {H H1 : Heap} (h : sm_S G A U H) (hq : ∀ a : Nat, a < H.size → ¬ A a → H1[a]? = H[a]?) : sm_S G A U H1 := fun i hi => ⟨(h i hi).1.kept hq, (h i hi).2.1.kept hq, (h i hi).2.2.1.kept hq, (h i hi).2.2.2.kept hq⟩
theorem sm_S.narrow {G : sm_G} {A B : Nat → Prop} {U : State} {H : Heap} (h : sm_S G A U H) (hAB : ∀ q, B q → A q) : sm_S G B U H := fun i hi => ⟨(h i hi).1.narrow hAB, (h i hi).2.1.narrow hAB, (h i hi).2.2.1.narrow hAB, (h i hi).2.2.2.narrow hAB⟩
/-- what stays at a state: addresses apart, classes, String constants, Throwable's statics -/
def sm_B (G : sm_G) (sz : Nat) (U : State) : Prop :=
  (∀ i j : Nat, i < sm_NC → j < sm_NC → G.2.1 i = G.2.1 j → i = j) ∧ va_K G.1 sm_cs (sm_ty G) U ∧ sm_S G (sm_A G sz) U U.heap ∧
  vx_Zq Bundle.tN "UNASSIGNED_STACK" Bundle.steD (sm_A G sz) U U.heap ∧ vx_Zq Bundle.tN "SUPPRESSED_SENTINEL" Bundle.listD (sm_A G sz) U U.heap ∧
  va_Z "java/lang/String" "COMPACT_STRINGS" "Z" (.int 1) (sm_A G sz) U U.heap ∧ va_Zq "jdk/internal/util/Preconditions" "SIOOBE_FORMATTER" "Ljava/util/function/BiFunction;" (sm_A G sz) U U.heap ∧
  (∀ q ∈ sm_sl, vk_R q.1 q.2.1 q.2.2.1 (G.2.1 (1000 + q.2.2.2)) U) ∧ (∀ q ∈ sm_bc, va_Nw (.castable q.1 q.2) U) ∧ ∀ y ∈ sm_bd, va_Nw (.declares y) U
def sm_mc : sm_O → Nat
  | .inl _ => 0
  | .inr _ => 1
def sm_ms : sm_O → Nat
  | .inl _ => 0
  | .inr _ => 6
def sm_rm (d : Nat) (o : sm_O) : Room := { frames := d + 10, cells := sm_mc o, slots := sm_ms o, locals := 60 * d + 200 }
def sm_Q (G : sm_G) (o : sm_O) (σ' : sm_M) (sz : Nat) : Array Value → State → Outcome → State → Prop := fun _ st oc t => ∃ v, o = .inl v ∧ oc = .returned (v.map (sm_vv G.2.1)) ∧ va_P G.1 sm_cs (sm_cl G σ') t.heap ∧ va_F (sm_A G sz) st t
def sm_X (G : sm_G) (o : sm_O) (σ' : sm_M) (sz : Nat) : String → State → State → Prop := fun E st t => o = .inr E ∧ va_P G.1 sm_cs (sm_cl G σ') t.heap ∧ va_F (sm_A G sz) st t
def sm_Pc (G : sm_G) (As : List sm_V) (σ : sm_M) (sz : Nat) : Array Value → State → Prop := va_Pc (As.map (sm_vv G.2.1)) (fun U => U.heap.size = sz ∧ va_P G.1 sm_cs (sm_cl G σ) U.heap ∧ sm_B G sz U)
def sm_ws (M : sm_I) : List Cond := .code M.1 M.2.1 M.2.2.1 M.2.2.2 :: sm_gt
/-- method M, called with As in the memory σ, comes to o with the memory σ' -/
def sm_E (l : Launch) (d : Nat) (M : sm_I) (As : List sm_V) (σ : sm_M) (o : sm_O) (σ' : sm_M) : Prop :=
  ∀ (G : sm_G) (sz : Nat), vx_Met l M.1 (sm_ws M) (sm_rm d o) (sm_Pc G As σ sz) (sm_Q G o σ' sz) (sm_X G o σ' sz) (sm_mc o) (sm_ms o) (sm_A G sz)
def sm_C (M : sm_I) (p : Program) (s : State) (m : MethodId) (args : Array Value) (meth : Method) (c : Code) : Prop :=
  p.tables.exec = Jvm.exec ∧ c.code = M.2.1 ∧ c.maxLocals = M.2.2.1 ∧ s.vm.findClass M.1.cls = some m.cls ∧ (∀ w ∈ sm_gt, w.before args s = true) ∧ meth.sig.returnType = M.2.2.2 ∧ meth.locks = false ∧ ∀ x ∈ c.exceptionTable.toList, False
def sm_lv (ad : Nat → Nat) (L : List (Nat × sm_V)) : List (Nat × Value) := L.map fun q => (q.1, sm_vv ad q.2)
def sm_st (i : Nat) (v : sm_V) (L : List (Nat × sm_V)) : List (Nat × sm_V) := (i, v) :: L.filter (fun q => !(q.1 == i) && !(q.1 + 1 == i && sm_lg q.2))
/-- method M at pc, locals L, stack S, memory σ, comes to o with the memory σ' -/
def sm_W (l : Launch) (d : Nat) (M : sm_I) (pc : Nat) (L : List (Nat × sm_V)) (S : List sm_V) (σ : sm_M) (o : sm_O) (σ' : sm_M) : Prop :=
  ∀ (G : sm_G) (p : Program) (e : Env) (s : State) (m : MethodId) (args : Array Value) (below : List Frame) (meth : Method) (c : Code) (H : Heap) (locs : List Loc) (ls : Array Slot),
    sm_C M p s m args meth c → sm_B G s.heap.size s → va_S (sm_A G s.heap.size) s.heap H locs → va_P G.1 sm_cs (sm_cl G σ) H → lv_has ls M.2.2.1 (sm_lv G.2.1 L) →
    W p l e (sm_rm d o) s m args below meth c H locs 0 0 (vx_MQ below (sm_Q G o σ' s.heap.size) (sm_X G o σ' s.heap.size) args s (sm_mc o) (sm_ms o) (sm_A G s.heap.size)) (F0 m pc ls (S.map (sm_vv G.2.1)))
/-! what the lists hold -/
theorem sm_cat (ad : Nat → Nat) (v : sm_V) : ((sm_vv ad v).category == 2) = sm_lg v := by
  rcases v with x | k | x <;> rfl
theorem sm_cat1 (ad : Nat → Nat) {v : sm_V} (h : sm_lg v = false) : (sm_vv ad v).category = 1 := by
  rcases v with x | k | x
  · rfl
  · rfl
  · cases h
theorem sm_lv_at {ad : Nat → Nat} {L : List (Nat × sm_V)} {j i : Nat} {v : sm_V} (h : L[j]? = some (i, v)) : (sm_lv ad L)[j]? = some (i, sm_vv ad v) := by
  unfold sm_lv
  rw [List.getElem?_map, h]
  rfl
theorem sm_lv_st (ad : Nat → Nat) (i : Nat) (v : sm_V) (L : List (Nat × sm_V)) : (i, sm_vv ad v) :: (sm_lv ad L).filter (fun q => !(q.1 == i) && !(q.1 + 1 == i && q.2.category == 2)) = sm_lv ad (sm_st i v L) := by
  unfold sm_st sm_lv
  rw [List.map_cons, List.filter_map]
  congr 2
  apply List.filter_congr
  intro q _
  simp only [Function.comp, sm_cat]
theorem sm_cl_at {G : sm_G} {σ : sm_M} {k : Nat} (h : k < sm_NC) : (sm_cl G σ)[k]? = some (G.2.1 k, sm_ent G σ k) := by
  unfold sm_cl
  rw [List.getElem?_map, List.getElem?_range h]
  rfl
theorem sm_cl_get {G : sm_G} {σ : sm_M} {i : Nat} {q : Nat × va_E} (h : (sm_cl G σ)[i]? = some q) : i < sm_NC ∧ q = (G.2.1 i, sm_ent G σ i) := by
  have hl : i < sm_NC := by
    have := (List.getElem?_eq_some_iff.mp h).1
    unfold sm_cl at this
    simpa using this
  rw [sm_cl_at hl] at h
  exact ⟨hl, (Option.some.inj h).symm⟩
theorem sm_D {G : sm_G} {σ : sm_M} {sz : Nat} {U : State} (hB : sm_B G sz U) : va_D (sm_A G sz) (sm_cl G σ) := by
  refine ⟨fun i j p q hi hj hpq => ?_, fun k q hk => ?_⟩
  · obtain ⟨h1, rfl⟩ := sm_cl_get hi
    obtain ⟨h2, rfl⟩ := sm_cl_get hj
    exact hB.1 i j h1 h2 hpq
  · obtain ⟨h1, rfl⟩ := sm_cl_get hk
    exact Or.inl ⟨k, h1, rfl⟩
theorem sm_ent_eq {G : sm_G} {σ τ : sm_M} {k : Nat} (h1 : σ.1 k = τ.1 k) (h2 : σ.2 k = τ.2 k) : sm_ent G σ k = sm_ent G τ k := by
  unfold sm_ent
  have : sm_fv G σ k (sm_kd k).1 = sm_fv G τ k (sm_kd k).1 := by
    funext j
    unfold sm_fv
    rw [h1, h2]
  rw [this, h1, h2]
theorem sm_cl_set {G : sm_G} {σ τ : sm_M} {k : Nat} (h1 : ∀ j, j ≠ k → σ.1 j = τ.1 j) (h2 : ∀ j, j ≠ k → σ.2 j = τ.2 j) : (sm_cl G σ).set k (G.2.1 k, sm_ent G τ k) = sm_cl G τ := by
  apply List.ext_getElem?
  intro i
  by_cases hi : i < sm_NC
  · rw [sm_cl_at hi]
    by_cases hk : i = k
    · subst hk
      rw [List.getElem?_set_self (by unfold sm_cl; simpa using hi)]
    · rw [List.getElem?_set_ne (Ne.symm hk), sm_cl_at hi, sm_ent_eq (h1 i hk) (h2 i hk)]
  · have hn : (sm_cl G τ).length ≤ i := by
      unfold sm_cl
      simpa using hi
    have hm : ((sm_cl G σ).set k (G.2.1 k, sm_ent G τ k)).length ≤ i := by
      unfold sm_cl
      simpa using hi
    rw [List.getElem?_eq_none hn, List.getElem?_eq_none hm]
theorem sm_kd_lt {k t n : Nat} (h : sm_kd k = (t, n)) (ht : t < 99) : k < sm_NC := by
  rcases Nat.lt_or_ge k sm_NC with q | q
  · exact q
  · have : sm_kdL[k]? = none := List.getElem?_eq_none (show sm_kdL.length ≤ k from q)
    unfold sm_kd at h
    rw [List.getD_eq_getElem?_getD, this] at h
    cases h
    omega
theorem sm_up_ne {α : Type} {f : Nat → α} {k j : Nat} {v : α} (h : j ≠ k) : sm_up f k v j = f j := if_neg h
theorem sm_up_eq {α : Type} {f : Nat → α} {k : Nat} {v : α} : sm_up f k v k = v := if_pos rfl
/-- a class of the table: its fields' words among the tables', its types, its names apart -/
def sm_ck (t : Nat) (q : vw_C) : Prop := t < 13 ∧ sm_cs[t]? = some q ∧ (∀ w ∈ u_ws q.1 q.2.1 q.2.2, w ∈ sm_gt) ∧ ∃ ty0 : Nat → FieldType, (∀ k, k < q.2.2 → parseFieldDescriptor (q.2.1 k).2.2.1 = some (ty0 k)) ∧ ∀ a, a < q.2.2 → ∀ b, b < q.2.2 → a ≠ b → (q.2.1 a).2.1 ≠ (q.2.1 b).2.1
/-- the field j of the class t, as the entry idx of own names it -/
def sm_fk (own : String) (idx t j : Nat) (ty : FieldType) (fin : Bool) : Prop := ∃ q : vw_C, sm_ck t q ∧ j < q.2.2 ∧ Cond.fieldLink own idx (q.2.1 j).1 (q.2.1 j).2.1 (q.2.1 j).2.2.1 ∈ sm_gt ∧ parseFieldDescriptor (q.2.1 j).2.2.1 = some ty ∧ (q.2.1 j).2.2.2 = fin
theorem sm_ent_ob {G : sm_G} {σ : sm_M} {k t n : Nat} (hk : sm_kd k = (t, n)) (ht : t < 13) : sm_ent G σ k = .inr (t, (List.range n).map (sm_fv G σ k t)) := by
  unfold sm_ent
  rw [hk]
  exact if_pos ht
theorem sm_ent_ar {G : sm_G} {σ : sm_M} {k t n : Nat} (hk : sm_kd k = (13 + t, n)) (ht : t < 3) : sm_ent G σ k = .inl (G.2.2.1 t, n, .inl (σ.1 k)) := by
  unfold sm_ent
  rw [hk]
  dsimp only
  rw [if_neg (by omega), if_pos (by omega), show 13 + t - 13 = t by omega]
theorem sm_ent_rf {G : sm_G} {σ : sm_M} {k t n : Nat} (hk : sm_kd k = (13 + t, n)) (ht : 3 ≤ t) : sm_ent G σ k = .inl (G.2.2.1 t, n, .inr (.inr (.inr (.inr fun j => some (G.2.1 (σ.2 k j)))))) := by
  unfold sm_ent
  rw [hk]
  dsimp only
  rw [if_neg (by omega), if_neg (by omega), show 13 + t - 13 = t by omega]
theorem sm_fs {G : sm_G} {σ : sm_M} {k t n j : Nat} (hj : j < n) : ((List.range n).map (sm_fv G σ k t))[j]? = some (sm_fv G σ k t j) := by
  rw [List.getElem?_map, List.getElem?_range hj]
  rfl
theorem sm_fs_set {G : sm_G} {σ τ : sm_M} {k t n j : Nat} {v : Value} (hj : j < n) (hv : v = sm_fv G τ k t j) (ho : ∀ i, i ≠ j → sm_fv G σ k t i = sm_fv G τ k t i) : ((List.range n).map (sm_fv G σ k t)).set j v = (List.range n).map (sm_fv G τ k t) := by
  apply List.ext_getElem?
  intro i
  by_cases hi : i < n
  · rw [sm_fs hi]
    by_cases h : i = j
    · subst h
      rw [List.getElem?_set_self (by simpa using hi), hv]
    · rw [List.getElem?_set_ne (Ne.symm h), sm_fs hi, ho i h]
  · rw [List.getElem?_eq_none (by simpa using hi), List.getElem?_eq_none (by simpa using hi)]
