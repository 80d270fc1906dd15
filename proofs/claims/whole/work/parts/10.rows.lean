/-! ===== the rows of sm_W ===== -/
theorem sm_B.move {G : sm_G} {s U : State} {H : Heap} {locs : List Loc} (hB : sm_B G s.heap.size s) (hS : va_S (sm_A G s.heap.size) s.heap H locs) (hU : U.heap = H) (hW : s.WarmedH U.vm) : sm_B G H.size U := by
  obtain ⟨h1, h2, h3, h4, h5, h6, h7, h8, h9, h10⟩ := hB
  have hn : ∀ q, sm_A G H.size q → sm_A G s.heap.size q := fun q h => by
    rcases h with h | h
    · exact Or.inl h
    · exact Or.inr (Nat.le_trans hS.1 h)
  subst hU
  exact ⟨h1, va_K.moved hW.alike h2, ((h3.kept hS.2.1).moved hW.alike).narrow hn, ((h4.kept hS.2.1).moved hW.alike).narrow hn, ((h5.kept hS.2.1).moved hW.alike).narrow hn, ((h6.kept hS.2.1).moved hW.alike).narrow hn, ((h7.kept hS.2.1).moved hW.alike).narrow hn, fun q hq => vk_R.warm hW (h8 q hq), fun q hq => va_Nw.warmC hW (h9 q hq), fun q hq => va_Nw.warmD hW (h10 q hq)⟩
section SMR
variable {l : Launch} {d : Nat} {M : sm_I} {pc q : Nat} {L L' : List (Nat × sm_V)} {S : List sm_V} {σ σ' : sm_M} {o : sm_O}
theorem sm_iconst {n : Int} {v : Int32} (hd : decode M.2.1 pc = .ok (.iconst n, 1)) (hq : pc + 1 = q) (hv : Int32.ofInt n = v) (k : sm_W l d M q L (.inl v :: S) σ o σ') : sm_W l d M pc L S σ o σ' := by
  subst hq
  intro G p e s m args below meth c H locs ls C B hS hP hl
  exact lv_iconst C.1 C.2.1 hd hv (k G p e s m args below meth c H locs ls C B hS hP hl)
theorem sm_bipush {n : Int} {v : Int32} (hd : decode M.2.1 pc = .ok (.bipush n, 2)) (hq : pc + 2 = q) (hv : (Int8.ofInt n).toInt32 = v) (k : sm_W l d M q L (.inl v :: S) σ o σ') : sm_W l d M pc L S σ o σ' := by
  subst hq
  intro G p e s m args below meth c H locs ls C B hS hP hl
  exact lv_bipush C.1 C.2.1 hd hv (k G p e s m args below meth c H locs ls C B hS hP hl)
theorem sm_sipush {n : Int} {v : Int32} (hd : decode M.2.1 pc = .ok (.sipush n, 3)) (hq : pc + 3 = q) (hv : (Int16.ofInt n).toInt32 = v) (k : sm_W l d M q L (.inl v :: S) σ o σ') : sm_W l d M pc L S σ o σ' := by
  subst hq
  intro G p e s m args below meth c H locs ls C B hS hP hl
  exact lv_sipush C.1 C.2.1 hd hv (k G p e s m args below meth c H locs ls C B hS hP hl)
theorem sm_lconst {n : Fin 2} {v : Int64} (hd : decode M.2.1 pc = .ok (.lconst n, 1)) (hq : pc + 1 = q) (hv : Int64.ofNat (n : Nat) = v) (k : sm_W l d M q L (.inr (.inr v) :: S) σ o σ') : sm_W l d M pc L S σ o σ' := by
  subst hq
  intro G p e s m args below meth c H locs ls C B hS hP hl
  exact lv_lconst C.1 C.2.1 hd hv (k G p e s m args below meth c H locs ls C B hS hP hl)
theorem sm_ldc {i : Nat} {v : Int32} (hd : decode M.2.1 pc = .ok (.ldc i, 2)) (hq : pc + 2 = q) (hw : Cond.constant M.1.cls i v ∈ sm_gt) (k : sm_W l d M q L (.inl v :: S) σ o σ') : sm_W l d M pc L S σ o σ' := by
  subst hq
  intro G p e s m args below meth c H locs ls C B hS hP hl
  exact lv_ldc C.1 C.2.1 C.2.2.2.1 (C.2.2.2.2.1 _ hw) hd (k G p e s m args below meth c H locs ls C B hS hP hl)
theorem sm_ldcw {i : Nat} {v : Int32} (hd : decode M.2.1 pc = .ok (.ldc_w i, 3)) (hq : pc + 3 = q) (hw : Cond.constant M.1.cls i v ∈ sm_gt) (k : sm_W l d M q L (.inl v :: S) σ o σ') : sm_W l d M pc L S σ o σ' := by
  subst hq
  intro G p e s m args below meth c H locs ls C B hS hP hl
  exact lv_ldcw C.1 C.2.1 C.2.2.2.1 (C.2.2.2.2.1 _ hw) hd (k G p e s m args below meth c H locs ls C B hS hP hl)
theorem sm_ldc2 {i : Nat} {v : Int64} (hd : decode M.2.1 pc = .ok (.ldc2_w i, 3)) (hq : pc + 3 = q) (hw : Cond.constantLong M.1.cls i v ∈ sm_gt) (k : sm_W l d M q L (.inr (.inr v) :: S) σ o σ') : sm_W l d M pc L S σ o σ' := by
  subst hq
  intro G p e s m args below meth c H locs ls C B hS hP hl
  exact lv_ldc2 C.1 C.2.1 C.2.2.2.1 (C.2.2.2.2.1 _ hw) hd (k G p e s m args below meth c H locs ls C B hS hP hl)
/-- a String constant -/
theorem sm_ldcS {i j : Nat} {tx : String} (hd : decode M.2.1 pc = .ok (.ldc i, 2)) (hq : pc + 2 = q) (hw : (M.1.cls, i, tx, j) ∈ sm_sl) (k : sm_W l d M q L (.inr (.inl (1000 + j)) :: S) σ o σ') : sm_W l d M pc L S σ o σ' := by
  subst hq
  intro G p e s m args below meth c H locs ls C B hS hP hl
  exact va_ldcS C.1 C.2.1 C.2.2.2.1 (B.2.2.2.2.2.2.2.1 _ hw) hd (k G p e s m args below meth c H locs ls C B hS hP hl)
theorem sm_ldcSw {i j : Nat} {tx : String} (hd : decode M.2.1 pc = .ok (.ldc_w i, 3)) (hq : pc + 3 = q) (hw : (M.1.cls, i, tx, j) ∈ sm_sl) (k : sm_W l d M q L (.inr (.inl (1000 + j)) :: S) σ o σ') : sm_W l d M pc L S σ o σ' := by
  subst hq
  intro G p e s m args below meth c H locs ls C B hS hP hl
  have hZ := B.2.2.2.2.2.2.2.1 _ hw
  intro T hT X
  obtain ⟨t, a1, b1⟩ := k G p e s m args below meth c H locs ls C B hS hP hl T hT X
  exact ⟨t, X.ldcStringW C.1 C.2.2.2.1 (text := tx) (a := G.2.1 (1000 + j)) hZ.1 hZ.2 (g := F0 m pc ls (S.map (sm_vv G.2.1))) rfl (by rw [C.2.1]; exact hd) t a1, b1⟩
theorem sm_iload_n {n : Fin 4} {i : Nat} {x : Int32} (hd : decode M.2.1 pc = .ok (.iload_n n, 1)) (hq : pc + 1 = q) (hi : (n : Nat) = i) (j : Nat) (hj : L[j]? = some (i, .inl x)) (k : sm_W l d M q L (.inl x :: S) σ o σ') : sm_W l d M pc L S σ o σ' := by
  subst hq
  intro G p e s m args below meth c H locs ls C B hS hP hl
  exact lv_iload_n C.1 C.2.1 hd hi (lv_at hl j (sm_lv_at hj)) (k G p e s m args below meth c H locs ls C B hS hP hl)
theorem sm_iload {i : Nat} {x : Int32} (hd : decode M.2.1 pc = .ok (.iload i, 2)) (hq : pc + 2 = q) (j : Nat) (hj : L[j]? = some (i, .inl x)) (k : sm_W l d M q L (.inl x :: S) σ o σ') : sm_W l d M pc L S σ o σ' := by
  subst hq
  intro G p e s m args below meth c H locs ls C B hS hP hl
  exact lv_iload C.1 C.2.1 hd (lv_at hl j (sm_lv_at hj)) (k G p e s m args below meth c H locs ls C B hS hP hl)
theorem sm_lload_n {n : Fin 4} {i : Nat} {x : Int64} (hd : decode M.2.1 pc = .ok (.lload_n n, 1)) (hq : pc + 1 = q) (hi : (n : Nat) = i) (j : Nat) (hj : L[j]? = some (i, .inr (.inr x))) (k : sm_W l d M q L (.inr (.inr x) :: S) σ o σ') : sm_W l d M pc L S σ o σ' := by
  subst hq
  intro G p e s m args below meth c H locs ls C B hS hP hl
  exact lv_lload_n C.1 C.2.1 hd hi (lv_at hl j (sm_lv_at hj)) (k G p e s m args below meth c H locs ls C B hS hP hl)
theorem sm_lload {i : Nat} {x : Int64} (hd : decode M.2.1 pc = .ok (.lload i, 2)) (hq : pc + 2 = q) (j : Nat) (hj : L[j]? = some (i, .inr (.inr x))) (k : sm_W l d M q L (.inr (.inr x) :: S) σ o σ') : sm_W l d M pc L S σ o σ' := by
  subst hq
  intro G p e s m args below meth c H locs ls C B hS hP hl
  exact lv_lload C.1 C.2.1 hd (lv_at hl j (sm_lv_at hj)) (k G p e s m args below meth c H locs ls C B hS hP hl)
theorem sm_aload_n {n : Fin 4} {i x : Nat} (hd : decode M.2.1 pc = .ok (.aload_n n, 1)) (hq : pc + 1 = q) (hi : (n : Nat) = i) (j : Nat) (hj : L[j]? = some (i, .inr (.inl x))) (k : sm_W l d M q L (.inr (.inl x) :: S) σ o σ') : sm_W l d M pc L S σ o σ' := by
  subst hq
  intro G p e s m args below meth c H locs ls C B hS hP hl
  exact lv_aload_n C.1 C.2.1 hd hi (lv_at hl j (sm_lv_at hj)) (k G p e s m args below meth c H locs ls C B hS hP hl)
theorem sm_aload {i x : Nat} (hd : decode M.2.1 pc = .ok (.aload i, 2)) (hq : pc + 2 = q) (j : Nat) (hj : L[j]? = some (i, .inr (.inl x))) (k : sm_W l d M q L (.inr (.inl x) :: S) σ o σ') : sm_W l d M pc L S σ o σ' := by
  subst hq
  intro G p e s m args below meth c H locs ls C B hS hP hl
  exact lv_aload C.1 C.2.1 hd (lv_at hl j (sm_lv_at hj)) (k G p e s m args below meth c H locs ls C B hS hP hl)
theorem sm_istore_n {n : Fin 4} {i : Nat} {x : Int32} (hd : decode M.2.1 pc = .ok (.istore_n n, 1)) (hq : pc + 1 = q) (hi : (n : Nat) = i) (hn : i < M.2.2.1) (hL : sm_st i (.inl x) L = L') (k : sm_W l d M q L' S σ o σ') : sm_W l d M pc L (.inl x :: S) σ o σ' := by
  subst hq hL
  intro G p e s m args below meth c H locs ls C B hS hP hl
  exact lv_istore_n (x := x) C.1 C.2.1 hd hi hl hn (sm_lv_st G.2.1 i (.inl x) L) (fun ls hl => k G p e s m args below meth c H locs ls C B hS hP hl)
theorem sm_istore {i : Nat} {x : Int32} (hd : decode M.2.1 pc = .ok (.istore i, 2)) (hq : pc + 2 = q) (hn : i < M.2.2.1) (hL : sm_st i (.inl x) L = L') (k : sm_W l d M q L' S σ o σ') : sm_W l d M pc L (.inl x :: S) σ o σ' := by
  subst hq hL
  intro G p e s m args below meth c H locs ls C B hS hP hl
  exact lv_istore (x := x) C.1 C.2.1 hd hl hn (sm_lv_st G.2.1 i (.inl x) L) (fun ls hl => k G p e s m args below meth c H locs ls C B hS hP hl)
theorem sm_astore_n {n : Fin 4} {i x : Nat} (hd : decode M.2.1 pc = .ok (.astore_n n, 1)) (hq : pc + 1 = q) (hi : (n : Nat) = i) (hn : i < M.2.2.1) (hL : sm_st i (.inr (.inl x)) L = L') (k : sm_W l d M q L' S σ o σ') : sm_W l d M pc L (.inr (.inl x) :: S) σ o σ' := by
  subst hq hL
  intro G p e s m args below meth c H locs ls C B hS hP hl
  exact lv_astore_n (x := G.2.1 x) C.1 C.2.1 hd hi hl hn (sm_lv_st G.2.1 i (.inr (.inl x)) L) (fun ls hl => k G p e s m args below meth c H locs ls C B hS hP hl)
theorem sm_astore {i x : Nat} (hd : decode M.2.1 pc = .ok (.astore i, 2)) (hq : pc + 2 = q) (hn : i < M.2.2.1) (hL : sm_st i (.inr (.inl x)) L = L') (k : sm_W l d M q L' S σ o σ') : sm_W l d M pc L (.inr (.inl x) :: S) σ o σ' := by
  subst hq hL
  intro G p e s m args below meth c H locs ls C B hS hP hl
  exact lv_astore (x := G.2.1 x) C.1 C.2.1 hd hl hn (sm_lv_st G.2.1 i (.inr (.inl x)) L) (fun ls hl => k G p e s m args below meth c H locs ls C B hS hP hl)
theorem sm_iinc {i : Nat} {n : Int} {x v : Int32} (hd : decode M.2.1 pc = .ok (.iinc i n, 3)) (hq : pc + 3 = q) (j : Nat) (hj : L[j]? = some (i, .inl x)) (hv : x + Int32.ofInt n = v) (hn : i < M.2.2.1) (hL : sm_st i (.inl v) L = L') (k : sm_W l d M q L' S σ o σ') : sm_W l d M pc L S σ o σ' := by
  subst hq hL
  intro G p e s m args below meth c H locs ls C B hS hP hl
  exact lv_iinc (x := x) (v := v) (k := j) C.1 C.2.1 hd hl (sm_lv_at hj) hv hn (sm_lv_st G.2.1 i (.inl v) L) (fun ls hl => k G p e s m args below meth c H locs ls C B hS hP hl)
theorem sm_iadd {x y : Int32} (hd : decode M.2.1 pc = .ok (.iadd, 1)) (hq : pc + 1 = q) (k : sm_W l d M q L (.inl (x + y) :: S) σ o σ') : sm_W l d M pc L (.inl y :: .inl x :: S) σ o σ' := by
  subst hq
  intro G p e s m args below meth c H locs ls C B hS hP hl
  exact lv_iadd C.1 C.2.1 hd (k G p e s m args below meth c H locs ls C B hS hP hl)
theorem sm_isub {x y : Int32} (hd : decode M.2.1 pc = .ok (.isub, 1)) (hq : pc + 1 = q) (k : sm_W l d M q L (.inl (x - y) :: S) σ o σ') : sm_W l d M pc L (.inl y :: .inl x :: S) σ o σ' := by
  subst hq
  intro G p e s m args below meth c H locs ls C B hS hP hl
  exact lv_isub C.1 C.2.1 hd (k G p e s m args below meth c H locs ls C B hS hP hl)
theorem sm_imul {x y : Int32} (hd : decode M.2.1 pc = .ok (.imul, 1)) (hq : pc + 1 = q) (k : sm_W l d M q L (.inl (x * y) :: S) σ o σ') : sm_W l d M pc L (.inl y :: .inl x :: S) σ o σ' := by
  subst hq
  intro G p e s m args below meth c H locs ls C B hS hP hl
  exact lv_imul C.1 C.2.1 hd (k G p e s m args below meth c H locs ls C B hS hP hl)
theorem sm_iand {x y : Int32} (hd : decode M.2.1 pc = .ok (.iand, 1)) (hq : pc + 1 = q) (k : sm_W l d M q L (.inl (x &&& y) :: S) σ o σ') : sm_W l d M pc L (.inl y :: .inl x :: S) σ o σ' := by
  subst hq
  intro G p e s m args below meth c H locs ls C B hS hP hl
  exact lv_iand C.1 C.2.1 hd (k G p e s m args below meth c H locs ls C B hS hP hl)
theorem sm_ior {x y : Int32} (hd : decode M.2.1 pc = .ok (.ior, 1)) (hq : pc + 1 = q) (k : sm_W l d M q L (.inl (x ||| y) :: S) σ o σ') : sm_W l d M pc L (.inl y :: .inl x :: S) σ o σ' := by
  subst hq
  intro G p e s m args below meth c H locs ls C B hS hP hl
  exact lv_ior C.1 C.2.1 hd (k G p e s m args below meth c H locs ls C B hS hP hl)
theorem sm_ixor {x y : Int32} (hd : decode M.2.1 pc = .ok (.ixor, 1)) (hq : pc + 1 = q) (k : sm_W l d M q L (.inl (x ^^^ y) :: S) σ o σ') : sm_W l d M pc L (.inl y :: .inl x :: S) σ o σ' := by
  subst hq
  intro G p e s m args below meth c H locs ls C B hS hP hl
  exact lv_ixor C.1 C.2.1 hd (k G p e s m args below meth c H locs ls C B hS hP hl)
theorem sm_ishl {x y : Int32} (hd : decode M.2.1 pc = .ok (.ishl, 1)) (hq : pc + 1 = q) (k : sm_W l d M q L (.inl (x <<< (y &&& 31)) :: S) σ o σ') : sm_W l d M pc L (.inl y :: .inl x :: S) σ o σ' := by
  subst hq
  intro G p e s m args below meth c H locs ls C B hS hP hl
  exact lv_ishl C.1 C.2.1 hd (k G p e s m args below meth c H locs ls C B hS hP hl)
theorem sm_ishr {x y : Int32} (hd : decode M.2.1 pc = .ok (.ishr, 1)) (hq : pc + 1 = q) (k : sm_W l d M q L (.inl (x >>> (y &&& 31)) :: S) σ o σ') : sm_W l d M pc L (.inl y :: .inl x :: S) σ o σ' := by
  subst hq
  intro G p e s m args below meth c H locs ls C B hS hP hl
  exact lv_ishr C.1 C.2.1 hd (k G p e s m args below meth c H locs ls C B hS hP hl)
theorem sm_idiv {x y : Int32} (hd : decode M.2.1 pc = .ok (.idiv, 1)) (hq : pc + 1 = q) (hne : ¬ y = 0) (k : sm_W l d M q L (.inl (x / y) :: S) σ o σ') : sm_W l d M pc L (.inl y :: .inl x :: S) σ o σ' := by
  subst hq
  intro G p e s m args below meth c H locs ls C B hS hP hl
  exact lv_idiv C.1 C.2.1 hd hne (k G p e s m args below meth c H locs ls C B hS hP hl)
theorem sm_irem {x y : Int32} (hd : decode M.2.1 pc = .ok (.irem, 1)) (hq : pc + 1 = q) (hne : ¬ y = 0) (k : sm_W l d M q L (.inl (x - x / y * y) :: S) σ o σ') : sm_W l d M pc L (.inl y :: .inl x :: S) σ o σ' := by
  subst hq
  intro G p e s m args below meth c H locs ls C B hS hP hl
  exact lv_irem C.1 C.2.1 hd hne (k G p e s m args below meth c H locs ls C B hS hP hl)
theorem sm_iushr {x y v : Int32} (hd : decode M.2.1 pc = .ok (.iushr, 1)) (hq : pc + 1 = q) (hv : (x.toUInt32 >>> (y.toUInt32 &&& Int32.toUInt32 31)).toInt32 = v) (k : sm_W l d M q L (.inl v :: S) σ o σ') : sm_W l d M pc L (.inl y :: .inl x :: S) σ o σ' := by
  subst hq
  intro G p e s m args below meth c H locs ls C B hS hP hl
  exact lv_iushr C.1 C.2.1 hd hv (k G p e s m args below meth c H locs ls C B hS hP hl)
theorem sm_ineg {x : Int32} (hd : decode M.2.1 pc = .ok (.ineg, 1)) (hq : pc + 1 = q) (k : sm_W l d M q L (.inl (-x) :: S) σ o σ') : sm_W l d M pc L (.inl x :: S) σ o σ' := by
  subst hq
  intro G p e s m args below meth c H locs ls C B hS hP hl
  exact lv_ineg C.1 C.2.1 hd (k G p e s m args below meth c H locs ls C B hS hP hl)
theorem sm_i2l {x : Int32} {v : Int64} (hd : decode M.2.1 pc = .ok (.i2l, 1)) (hq : pc + 1 = q) (hv : x.toInt64 = v) (k : sm_W l d M q L (.inr (.inr v) :: S) σ o σ') : sm_W l d M pc L (.inl x :: S) σ o σ' := by
  subst hq
  intro G p e s m args below meth c H locs ls C B hS hP hl
  exact lv_i2l C.1 C.2.1 hd hv (k G p e s m args below meth c H locs ls C B hS hP hl)
theorem sm_i2b {x v : Int32} (hd : decode M.2.1 pc = .ok (.i2b, 1)) (hq : pc + 1 = q) (hv : x.toInt8.toInt32 = v) (k : sm_W l d M q L (.inl v :: S) σ o σ') : sm_W l d M pc L (.inl x :: S) σ o σ' := by
  subst hq
  intro G p e s m args below meth c H locs ls C B hS hP hl
  exact lv_i2b C.1 C.2.1 hd hv (k G p e s m args below meth c H locs ls C B hS hP hl)
theorem sm_lcmp {x y : Int64} (hd : decode M.2.1 pc = .ok (.lcmp, 1)) (hq : pc + 1 = q) (k : sm_W l d M q L (.inl (lg_cmp x y) :: S) σ o σ') : sm_W l d M pc L (.inr (.inr y) :: .inr (.inr x) :: S) σ o σ' := by
  subst hq
  intro G p e s m args below meth c H locs ls C B hS hP hl
  exact W.lcmp C.1 C.2.1 hd (k G p e s m args below meth c H locs ls C B hS hP hl)
theorem sm_dup {v : sm_V} (hd : decode M.2.1 pc = .ok (.dup, 1)) (hq : pc + 1 = q) (hv : sm_lg v = false) (k : sm_W l d M q L (v :: v :: S) σ o σ') : sm_W l d M pc L (v :: S) σ o σ' := by
  subst hq
  intro G p e s m args below meth c H locs ls C B hS hP hl
  exact lv_dup C.1 C.2.1 hd (sm_cat1 _ hv) (k G p e s m args below meth c H locs ls C B hS hP hl)
theorem sm_dup2 {v w : sm_V} (hd : decode M.2.1 pc = .ok (.dup2, 1)) (hq : pc + 1 = q) (hv : sm_lg v = false) (hw : sm_lg w = false) (k : sm_W l d M q L (v :: w :: v :: w :: S) σ o σ') : sm_W l d M pc L (v :: w :: S) σ o σ' := by
  subst hq
  intro G p e s m args below meth c H locs ls C B hS hP hl
  exact lv_dup2_11 C.1 C.2.1 hd (sm_cat1 _ hv) (sm_cat1 _ hw) (k G p e s m args below meth c H locs ls C B hS hP hl)
theorem sm_pop {v : sm_V} (hd : decode M.2.1 pc = .ok (.pop, 1)) (hq : pc + 1 = q) (hv : sm_lg v = false) (k : sm_W l d M q L S σ o σ') : sm_W l d M pc L (v :: S) σ o σ' := by
  subst hq
  intro G p e s m args below meth c H locs ls C B hS hP hl
  exact lv_pop C.1 C.2.1 hd (sm_cat1 _ hv) (k G p e s m args below meth c H locs ls C B hS hP hl)
theorem sm_if_eq {x : Int32} {off : Int} {tgt : Nat} (hd : decode M.2.1 pc = .ok (.ifCond .eq off, 3)) (ht : (pc : Int) + off = (tgt : Int)) (hq : pc + 3 = q) (kt : x = 0 → sm_W l d M tgt L S σ o σ') (kf : ¬ x = 0 → sm_W l d M q L S σ o σ') : sm_W l d M pc L (.inl x :: S) σ o σ' := by
  subst hq
  intro G p e s m args below meth c H locs ls C B hS hP hl
  exact lv_if_eq C.1 C.2.1 hd ht (fun h => kt h G p e s m args below meth c H locs ls C B hS hP hl) (fun h => kf h G p e s m args below meth c H locs ls C B hS hP hl)
theorem sm_icmp_eq {x y : Int32} {off : Int} {tgt : Nat} (hd : decode M.2.1 pc = .ok (.if_icmp .eq off, 3)) (ht : (pc : Int) + off = (tgt : Int)) (hq : pc + 3 = q) (kt : x = y → sm_W l d M tgt L S σ o σ') (kf : ¬ x = y → sm_W l d M q L S σ o σ') : sm_W l d M pc L (.inl y :: .inl x :: S) σ o σ' := by
  subst hq
  intro G p e s m args below meth c H locs ls C B hS hP hl
  exact lv_icmp_eq C.1 C.2.1 hd ht (fun h => kt h G p e s m args below meth c H locs ls C B hS hP hl) (fun h => kf h G p e s m args below meth c H locs ls C B hS hP hl)
theorem sm_if_ne {x : Int32} {off : Int} {tgt : Nat} (hd : decode M.2.1 pc = .ok (.ifCond .ne off, 3)) (ht : (pc : Int) + off = (tgt : Int)) (hq : pc + 3 = q) (kt : ¬ x = 0 → sm_W l d M tgt L S σ o σ') (kf : x = 0 → sm_W l d M q L S σ o σ') : sm_W l d M pc L (.inl x :: S) σ o σ' := by
  subst hq
  intro G p e s m args below meth c H locs ls C B hS hP hl
  exact lv_if_ne C.1 C.2.1 hd ht (fun h => kt h G p e s m args below meth c H locs ls C B hS hP hl) (fun h => kf h G p e s m args below meth c H locs ls C B hS hP hl)
theorem sm_icmp_ne {x y : Int32} {off : Int} {tgt : Nat} (hd : decode M.2.1 pc = .ok (.if_icmp .ne off, 3)) (ht : (pc : Int) + off = (tgt : Int)) (hq : pc + 3 = q) (kt : ¬ x = y → sm_W l d M tgt L S σ o σ') (kf : x = y → sm_W l d M q L S σ o σ') : sm_W l d M pc L (.inl y :: .inl x :: S) σ o σ' := by
  subst hq
  intro G p e s m args below meth c H locs ls C B hS hP hl
  exact lv_icmp_ne C.1 C.2.1 hd ht (fun h => kt h G p e s m args below meth c H locs ls C B hS hP hl) (fun h => kf h G p e s m args below meth c H locs ls C B hS hP hl)
theorem sm_if_lt {x : Int32} {off : Int} {tgt : Nat} (hd : decode M.2.1 pc = .ok (.ifCond .lt off, 3)) (ht : (pc : Int) + off = (tgt : Int)) (hq : pc + 3 = q) (kt : x < 0 → sm_W l d M tgt L S σ o σ') (kf : ¬ x < 0 → sm_W l d M q L S σ o σ') : sm_W l d M pc L (.inl x :: S) σ o σ' := by
  subst hq
  intro G p e s m args below meth c H locs ls C B hS hP hl
  exact lv_if_lt C.1 C.2.1 hd ht (fun h => kt h G p e s m args below meth c H locs ls C B hS hP hl) (fun h => kf h G p e s m args below meth c H locs ls C B hS hP hl)
theorem sm_icmp_lt {x y : Int32} {off : Int} {tgt : Nat} (hd : decode M.2.1 pc = .ok (.if_icmp .lt off, 3)) (ht : (pc : Int) + off = (tgt : Int)) (hq : pc + 3 = q) (kt : x < y → sm_W l d M tgt L S σ o σ') (kf : ¬ x < y → sm_W l d M q L S σ o σ') : sm_W l d M pc L (.inl y :: .inl x :: S) σ o σ' := by
  subst hq
  intro G p e s m args below meth c H locs ls C B hS hP hl
  exact lv_icmp_lt C.1 C.2.1 hd ht (fun h => kt h G p e s m args below meth c H locs ls C B hS hP hl) (fun h => kf h G p e s m args below meth c H locs ls C B hS hP hl)
theorem sm_if_ge {x : Int32} {off : Int} {tgt : Nat} (hd : decode M.2.1 pc = .ok (.ifCond .ge off, 3)) (ht : (pc : Int) + off = (tgt : Int)) (hq : pc + 3 = q) (kt : 0 ≤ x → sm_W l d M tgt L S σ o σ') (kf : ¬ 0 ≤ x → sm_W l d M q L S σ o σ') : sm_W l d M pc L (.inl x :: S) σ o σ' := by
  subst hq
  intro G p e s m args below meth c H locs ls C B hS hP hl
  exact lv_if_ge C.1 C.2.1 hd ht (fun h => kt h G p e s m args below meth c H locs ls C B hS hP hl) (fun h => kf h G p e s m args below meth c H locs ls C B hS hP hl)
theorem sm_icmp_ge {x y : Int32} {off : Int} {tgt : Nat} (hd : decode M.2.1 pc = .ok (.if_icmp .ge off, 3)) (ht : (pc : Int) + off = (tgt : Int)) (hq : pc + 3 = q) (kt : y ≤ x → sm_W l d M tgt L S σ o σ') (kf : ¬ y ≤ x → sm_W l d M q L S σ o σ') : sm_W l d M pc L (.inl y :: .inl x :: S) σ o σ' := by
  subst hq
  intro G p e s m args below meth c H locs ls C B hS hP hl
  exact lv_icmp_ge C.1 C.2.1 hd ht (fun h => kt h G p e s m args below meth c H locs ls C B hS hP hl) (fun h => kf h G p e s m args below meth c H locs ls C B hS hP hl)
theorem sm_if_gt {x : Int32} {off : Int} {tgt : Nat} (hd : decode M.2.1 pc = .ok (.ifCond .gt off, 3)) (ht : (pc : Int) + off = (tgt : Int)) (hq : pc + 3 = q) (kt : 0 < x → sm_W l d M tgt L S σ o σ') (kf : ¬ 0 < x → sm_W l d M q L S σ o σ') : sm_W l d M pc L (.inl x :: S) σ o σ' := by
  subst hq
  intro G p e s m args below meth c H locs ls C B hS hP hl
  exact lv_if_gt C.1 C.2.1 hd ht (fun h => kt h G p e s m args below meth c H locs ls C B hS hP hl) (fun h => kf h G p e s m args below meth c H locs ls C B hS hP hl)
theorem sm_icmp_gt {x y : Int32} {off : Int} {tgt : Nat} (hd : decode M.2.1 pc = .ok (.if_icmp .gt off, 3)) (ht : (pc : Int) + off = (tgt : Int)) (hq : pc + 3 = q) (kt : y < x → sm_W l d M tgt L S σ o σ') (kf : ¬ y < x → sm_W l d M q L S σ o σ') : sm_W l d M pc L (.inl y :: .inl x :: S) σ o σ' := by
  subst hq
  intro G p e s m args below meth c H locs ls C B hS hP hl
  exact lv_icmp_gt C.1 C.2.1 hd ht (fun h => kt h G p e s m args below meth c H locs ls C B hS hP hl) (fun h => kf h G p e s m args below meth c H locs ls C B hS hP hl)
theorem sm_if_le {x : Int32} {off : Int} {tgt : Nat} (hd : decode M.2.1 pc = .ok (.ifCond .le off, 3)) (ht : (pc : Int) + off = (tgt : Int)) (hq : pc + 3 = q) (kt : x ≤ 0 → sm_W l d M tgt L S σ o σ') (kf : ¬ x ≤ 0 → sm_W l d M q L S σ o σ') : sm_W l d M pc L (.inl x :: S) σ o σ' := by
  subst hq
  intro G p e s m args below meth c H locs ls C B hS hP hl
  exact lv_if_le C.1 C.2.1 hd ht (fun h => kt h G p e s m args below meth c H locs ls C B hS hP hl) (fun h => kf h G p e s m args below meth c H locs ls C B hS hP hl)
theorem sm_icmp_le {x y : Int32} {off : Int} {tgt : Nat} (hd : decode M.2.1 pc = .ok (.if_icmp .le off, 3)) (ht : (pc : Int) + off = (tgt : Int)) (hq : pc + 3 = q) (kt : x ≤ y → sm_W l d M tgt L S σ o σ') (kf : ¬ x ≤ y → sm_W l d M q L S σ o σ') : sm_W l d M pc L (.inl y :: .inl x :: S) σ o σ' := by
  subst hq
  intro G p e s m args below meth c H locs ls C B hS hP hl
  exact lv_icmp_le C.1 C.2.1 hd ht (fun h => kt h G p e s m args below meth c H locs ls C B hS hP hl) (fun h => kf h G p e s m args below meth c H locs ls C B hS hP hl)
theorem sm_goto {off : Int} (hd : decode M.2.1 pc = .ok (.goto off, 3)) (ht : (pc : Int) + off = (q : Int)) (k : sm_W l d M q L S σ o σ') : sm_W l d M pc L S σ o σ' := by
  intro G p e s m args below meth c H locs ls C B hS hP hl
  exact lv_goto C.1 C.2.1 hd ht (k G p e s m args below meth c H locs ls C B hS hP hl)
theorem sm_tableIn {dflt lo hi : Int} {offs : Array Int} {len : Nat} {x : Int32} {off : Int} (hd : decode M.2.1 pc = .ok (.tableswitch dflt lo hi offs, len)) (h1 : ¬ x.toInt < lo) (h2 : ¬ hi < x.toInt) (ho : offs[(x.toInt - lo).toNat]? = some off) (ht : (pc : Int) + off = (q : Int)) (k : sm_W l d M q L S σ o σ') : sm_W l d M pc L (.inl x :: S) σ o σ' := by
  intro G p e s m args below meth c H locs ls C B hS hP hl
  exact lv_tableIn C.1 C.2.1 hd h1 h2 ho ht (k G p e s m args below meth c H locs ls C B hS hP hl)
theorem sm_tableOut {dflt lo hi : Int} {offs : Array Int} {len : Nat} {x : Int32} (hd : decode M.2.1 pc = .ok (.tableswitch dflt lo hi offs, len)) (h : x.toInt < lo ∨ hi < x.toInt) (ht : (pc : Int) + dflt = (q : Int)) (k : sm_W l d M q L S σ o σ') : sm_W l d M pc L (.inl x :: S) σ o σ' := by
  intro G p e s m args below meth c H locs ls C B hS hP hl
  exact lv_tableOut C.1 C.2.1 hd h ht (k G p e s m args below meth c H locs ls C B hS hP hl)
/-- fewer locals, in another order -/
theorem sm_pick (ks : List Nat) (h : ks.filterMap (fun i => L[i]?) = L') (k : sm_W l d M pc L' S σ o σ') : sm_W l d M pc L S σ o σ' := by
  subst h
  intro G p e s m args below meth c H locs ls C B hS hP hl
  refine k G p e s m args below meth c H locs ls C B hS hP ⟨hl.1, hl.2.1, fun q hq => ?_⟩
  obtain ⟨z, hz, rfl⟩ := List.mem_map.mp hq
  obtain ⟨i, -, hi⟩ := List.mem_filterMap.mp hz
  exact hl.2.2 _ (List.mem_map.mpr ⟨z, List.mem_of_getElem? hi, rfl⟩)
/-- an int field -/
theorem sm_getI {idx t n j k : Nat} {ty : FieldType} {fin : Bool} (hd : decode M.2.1 pc = .ok (.getfield idx, 3)) (hq : pc + 3 = q) (hf : sm_fk M.1.cls idx t j ty fin) (hk : sm_kd k = (t, n)) (hj : j < n) (hr : sm_isR t j = false) (kk : sm_W l d M q L (.inl (σ.1 k j) :: S) σ o σ') : sm_W l d M pc L (.inr (.inl k) :: S) σ o σ' := by
  subst hq
  intro G p e s m args below meth c H locs ls C B hS hP hl
  obtain ⟨⟨R9, T9, N9⟩, ⟨ht, hc, hin, -⟩, hjN, hlk, -, -⟩ := hf
  have hkl : k < sm_NC := sm_kd_lt hk (by omega)
  have he := sm_cl_at (G := G) (σ := σ) hkl
  rw [sm_ent_ob hk ht] at he
  refine va_get (C := R9) (T := T9) (N := N9) (ci := t) (v := .int (σ.1 k j)) C.1 C.2.1 C.2.2.2.2.1 hin C.2.2.2.1 B.2.1 hP k he hc j hjN (C.2.2.2.2.1 _ hlk) (fun _ h9 => h9) ?_ hd (kk G p e s m args below meth c H locs ls C B hS hP hl)
  rw [sm_fs hj]
  unfold sm_fv
  rw [if_neg (by rw [hr]; decide)]
/-- a field that holds a reference -/
theorem sm_getR {idx t n j k r : Nat} {ty : FieldType} {fin : Bool} (hd : decode M.2.1 pc = .ok (.getfield idx, 3)) (hq : pc + 3 = q) (hf : sm_fk M.1.cls idx t j ty fin) (hk : sm_kd k = (t, n)) (hj : j < n) (hr : sm_isR t j = true) (hv : σ.2 k j = r) (kk : sm_W l d M q L (.inr (.inl r) :: S) σ o σ') : sm_W l d M pc L (.inr (.inl k) :: S) σ o σ' := by
  subst hq hv
  intro G p e s m args below meth c H locs ls C B hS hP hl
  obtain ⟨⟨R9, T9, N9⟩, ⟨ht, hc, hin, -⟩, hjN, hlk, -, -⟩ := hf
  have hkl : k < sm_NC := sm_kd_lt hk (by omega)
  have he := sm_cl_at (G := G) (σ := σ) hkl
  rw [sm_ent_ob hk ht] at he
  refine va_get (C := R9) (T := T9) (N := N9) (ci := t) (v := .ref (G.2.1 (σ.2 k j))) C.1 C.2.1 C.2.2.2.2.1 hin C.2.2.2.1 B.2.1 hP k he hc j hjN (C.2.2.2.2.1 _ hlk) (fun _ h9 => h9) ?_ hd (kk G p e s m args below meth c H locs ls C B hS hP hl)
  rw [sm_fs hj]
  unfold sm_fv
  rw [if_pos hr]
theorem sm_put {idx t n j k : Nat} {ty : FieldType} {x : sm_V} {τ : sm_M} (hd : decode M.2.1 pc = .ok (.putfield idx, 3)) (hq : pc + 3 = q) (hf : sm_fk M.1.cls idx t j ty false) (hk : sm_kd k = (t, n)) (hj : j < n)
    (hn : ∀ ad, narrow ty (sm_vv ad x) = sm_vv ad x ∧ fits ty (sm_vv ad x) = true) (hv : ∀ G, sm_vv G.2.1 x = sm_fv G τ k t j) (ho : ∀ G i, i ≠ j → sm_fv G σ k t i = sm_fv G τ k t i) (h1 : ∀ i, i ≠ k → σ.1 i = τ.1 i) (h2 : ∀ i, i ≠ k → σ.2 i = τ.2 i)
    (kk : sm_W l d M q L S τ o σ') : sm_W l d M pc L (x :: .inr (.inl k) :: S) σ o σ' := by
  subst hq
  intro G p e s m args below meth c H locs ls C B hS hP hl
  obtain ⟨⟨R9, T9, N9⟩, ⟨ht, hc, hin, ty0, hty, hnm⟩, hjN, hlk, hpd, hfin⟩ := hf
  have hkl : k < sm_NC := sm_kd_lt hk (by omega)
  have he := sm_cl_at (G := G) (σ := σ) hkl
  rw [sm_ent_ob hk ht] at he
  refine va_put (C := R9) (T := T9) (N := N9) (ci := t) (v := sm_vv G.2.1 x) (ty := ty) C.1 C.2.1 C.2.2.2.2.1 hin ty0 hty hnm C.2.2.2.1 B.2.1 hP (sm_D B) hS k he hc j hjN (C.2.2.2.2.1 _ hlk) (fun _ h9 => h9) hfin hpd (hn _).1 (hn _).2 (by simpa using hj) hd (fun H1 locs1 hP1 _ hS1 => ?_)
  rw [sm_fs_set hj (hv G) (ho G)] at hP1
  have e9 : (sm_cl G σ).set k (G.2.1 k, .inr (t, (List.range n).map (sm_fv G τ k t))) = sm_cl G τ := by
    rw [← sm_ent_ob (G := G) (σ := τ) hk ht]
    exact sm_cl_set h1 h2
  rw [e9] at hP1
  exact kk G p e s m args below meth c H1 locs1 ls C B hS1 hP1 hl
theorem sm_putI {idx t n j k : Nat} {x : Int32} {I : Nat → Nat → Int32} {R : Nat → Nat → Nat} (hd : decode M.2.1 pc = .ok (.putfield idx, 3)) (hq : pc + 3 = q) (hf : sm_fk M.1.cls idx t j .int false) (hk : sm_kd k = (t, n)) (hj : j < n) (hr : sm_isR t j = false)
    (kk : sm_W l d M q L S (sm_up I k (sm_up (I k) j x), R) o σ') : sm_W l d M pc L (.inl x :: .inr (.inl k) :: S) (I, R) o σ' := by
  refine sm_put (x := .inl x) (τ := (sm_up I k (sm_up (I k) j x), R)) hd hq hf hk hj (fun ad => ⟨rfl, rfl⟩) (fun G => ?_) (fun G i hi => ?_) (fun i hi => ?_) (fun i hi => rfl) kk
  · unfold sm_fv
    rw [if_neg (by rw [hr]; decide)]
    show Value.int x = Value.int (sm_up I k (sm_up (I k) j x) k j)
    rw [sm_up_eq, sm_up_eq]
  · unfold sm_fv
    show (if _ then _ else Value.int (I k i)) = (if _ then _ else Value.int (sm_up I k (sm_up (I k) j x) k i))
    rw [sm_up_eq, sm_up_ne hi]
  · show I i = sm_up I k _ i
    rw [sm_up_ne hi]
theorem sm_putZ {idx t n j k : Nat} {x : Int32} {I : Nat → Nat → Int32} {R : Nat → Nat → Nat} (hd : decode M.2.1 pc = .ok (.putfield idx, 3)) (hq : pc + 3 = q) (hf : sm_fk M.1.cls idx t j .boolean false) (hk : sm_kd k = (t, n)) (hj : j < n) (hr : sm_isR t j = false) (hx : x = 0 ∨ x = 1)
    (kk : sm_W l d M q L S (sm_up I k (sm_up (I k) j x), R) o σ') : sm_W l d M pc L (.inl x :: .inr (.inl k) :: S) (I, R) o σ' := by
  refine sm_put (x := .inl x) (τ := (sm_up I k (sm_up (I k) j x), R)) hd hq hf hk hj (fun ad => ?_) (fun G => ?_) (fun G i hi => ?_) (fun i hi => ?_) (fun i hi => rfl) kk
  · rcases hx with rfl | rfl <;> exact ⟨rfl, rfl⟩
  · unfold sm_fv
    rw [if_neg (by rw [hr]; decide)]
    show Value.int x = Value.int (sm_up I k (sm_up (I k) j x) k j)
    rw [sm_up_eq, sm_up_eq]
  · unfold sm_fv
    show (if _ then _ else Value.int (I k i)) = (if _ then _ else Value.int (sm_up I k (sm_up (I k) j x) k i))
    rw [sm_up_eq, sm_up_ne hi]
  · show I i = sm_up I k _ i
    rw [sm_up_ne hi]
theorem sm_putR {idx t n j k x : Nat} {C9 : String} {I : Nat → Nat → Int32} {R : Nat → Nat → Nat} (hd : decode M.2.1 pc = .ok (.putfield idx, 3)) (hq : pc + 3 = q) (hf : sm_fk M.1.cls idx t j (.object C9) false) (hk : sm_kd k = (t, n)) (hj : j < n) (hr : sm_isR t j = true)
    (kk : sm_W l d M q L S (I, sm_up R k (sm_up (R k) j x)) o σ') : sm_W l d M pc L (.inr (.inl x) :: .inr (.inl k) :: S) (I, R) o σ' := by
  refine sm_put (x := .inr (.inl x)) (τ := (I, sm_up R k (sm_up (R k) j x))) hd hq hf hk hj (fun ad => ⟨rfl, rfl⟩) (fun G => ?_) (fun G i hi => ?_) (fun i hi => rfl) (fun i hi => ?_) kk
  · unfold sm_fv
    rw [if_pos hr]
    show Value.ref (G.2.1 x) = Value.ref (G.2.1 (sm_up R k (sm_up (R k) j x) k j))
    rw [sm_up_eq, sm_up_eq]
  · unfold sm_fv
    show (if _ then Value.ref (G.2.1 (R k i)) else _) = (if _ then Value.ref (G.2.1 (sm_up R k (sm_up (R k) j x) k i)) else _)
    rw [sm_up_eq, sm_up_ne hi]
  · show R i = sm_up R k _ i
    rw [sm_up_ne hi]
theorem sm_iald {k n : Nat} {i : Int32} (hd : decode M.2.1 pc = .ok (.iaload, 1)) (hq : pc + 1 = q) (hk : sm_kd k = (13, n)) (hi : vp_in i n) (kk : sm_W l d M q L (.inl (σ.1 k i.toNatClampNeg) :: S) σ o σ') : sm_W l d M pc L (.inl i :: .inr (.inl k) :: S) σ o σ' := by
  subst hq
  intro G p e s m args below meth c H locs ls C B hS hP hl
  have he := sm_cl_at (G := G) (σ := σ) (sm_kd_lt hk (by omega))
  rw [sm_ent_ar (t := 0) hk (by omega)] at he
  exact va_iald C.1 C.2.1 B.2.1 hP k 0 he rfl hi hd (kk G p e s m args below meth c H locs ls C B hS hP hl)
theorem sm_bald {k n : Nat} {i : Int32} (hd : decode M.2.1 pc = .ok (.baload, 1)) (hq : pc + 1 = q) (hk : sm_kd k = (14, n)) (hi : vp_in i n) (kk : sm_W l d M q L (.inl (σ.1 k i.toNatClampNeg) :: S) σ o σ') : sm_W l d M pc L (.inl i :: .inr (.inl k) :: S) σ o σ' := by
  subst hq
  intro G p e s m args below meth c H locs ls C B hS hP hl
  have he := sm_cl_at (G := G) (σ := σ) (sm_kd_lt hk (by omega))
  rw [sm_ent_ar (t := 1) hk (by omega)] at he
  exact va_bald C.1 C.2.1 B.2.1 hP k 1 he rfl hi hd (kk G p e s m args below meth c H locs ls C B hS hP hl)
theorem sm_zald {k n : Nat} {i : Int32} (hd : decode M.2.1 pc = .ok (.baload, 1)) (hq : pc + 1 = q) (hk : sm_kd k = (15, n)) (hi : vp_in i n) (kk : sm_W l d M q L (.inl (σ.1 k i.toNatClampNeg) :: S) σ o σ') : sm_W l d M pc L (.inl i :: .inr (.inl k) :: S) σ o σ' := by
  subst hq
  intro G p e s m args below meth c H locs ls C B hS hP hl
  have he := sm_cl_at (G := G) (σ := σ) (sm_kd_lt hk (by omega))
  rw [sm_ent_ar (t := 2) hk (by omega)] at he
  exact va_zald C.1 C.2.1 B.2.1 hP k 2 he rfl hi hd (kk G p e s m args below meth c H locs ls C B hS hP hl)
theorem sm_aald {k n t r : Nat} {C9 : String} {i : Int32} (hd : decode M.2.1 pc = .ok (.aaload, 1)) (hq : pc + 1 = q) (hk : sm_kd k = (13 + t, n)) (ht : t = 3 ∧ C9 = "BaizeDoor$Player" ∨ t = 4 ∧ C9 = "java/lang/String") (hi : vp_in i n) (hr : σ.2 k i.toNatClampNeg = r) (kk : sm_W l d M q L (.inr (.inl r) :: S) σ o σ') : sm_W l d M pc L (.inl i :: .inr (.inl k) :: S) σ o σ' := by
  subst hq hr
  intro G p e s m args below meth c H locs ls C B hS hP hl
  have he := sm_cl_at (G := G) (σ := σ) (sm_kd_lt hk (by omega))
  rw [sm_ent_rf hk (by omega)] at he
  have hty : (sm_ty G)[t]? = some (G.2.2.1 t, .object C9) := by
    rcases ht with ⟨rfl, rfl⟩ | ⟨rfl, rfl⟩ <;> rfl
  exact va_aldq C.1 C.2.1 B.2.1 hP k t he hty hi hd (kk G p e s m args below meth c H locs ls C B hS hP hl)
theorem sm_alenI {k n t : Nat} {v : Int32} (hd : decode M.2.1 pc = .ok (.arraylength, 1)) (hq : pc + 1 = q) (hk : sm_kd k = (13 + t, n)) (ht : t < 5) (hv : Int32.ofNat n = v) (kk : sm_W l d M q L (.inl v :: S) σ o σ') : sm_W l d M pc L (.inr (.inl k) :: S) σ o σ' := by
  subst hq
  intro G p e s m args below meth c H locs ls C B hS hP hl
  have he := sm_cl_at (G := G) (σ := σ) (sm_kd_lt hk (by omega))
  have hty : ∃ ty, (sm_ty G)[t]? = some (G.2.2.1 t, ty) := by
    rcases (show t = 0 ∨ t = 1 ∨ t = 2 ∨ t = 3 ∨ t = 4 by omega) with rfl | rfl | rfl | rfl | rfl <;> exact ⟨_, rfl⟩
  obtain ⟨ty, hty⟩ := hty
  rcases Nat.lt_or_ge t 3 with h3 | h3
  · rw [sm_ent_ar hk h3] at he
    exact va_alen C.1 C.2.1 B.2.1 hP k t he hty hv hd (kk G p e s m args below meth c H locs ls C B hS hP hl)
  · rw [sm_ent_rf hk h3] at he
    exact va_alen C.1 C.2.1 B.2.1 hP k t he hty hv hd (kk G p e s m args below meth c H locs ls C B hS hP hl)
theorem sm_ar_set {G : sm_G} {k t n : Nat} {I : Nat → Nat → Int32} {R : Nat → Nat → Nat} {f : Nat → Int32} (hk : sm_kd k = (13 + t, n)) (ht : t < 3) : (sm_cl G (I, R)).set k (G.2.1 k, .inl (G.2.2.1 t, n, .inl f)) = sm_cl G (sm_up I k f, R) := by
  have e : sm_ent G (sm_up I k f, R) k = .inl (G.2.2.1 t, n, .inl f) := by
    rw [sm_ent_ar hk ht]
    show Sum.inl (_, _, Sum.inl (sm_up I k f k)) = _
    rw [sm_up_eq]
  rw [← e]
  exact sm_cl_set (fun i hi => (sm_up_ne hi).symm) (fun i hi => rfl)
theorem sm_iast {k n : Nat} {i x : Int32} {I : Nat → Nat → Int32} {R : Nat → Nat → Nat} (hd : decode M.2.1 pc = .ok (.iastore, 1)) (hq : pc + 1 = q) (hk : sm_kd k = (13, n)) (hi : vp_in i n) (kk : sm_W l d M q L S (sm_up I k (sm_up (I k) i.toNatClampNeg x), R) o σ') : sm_W l d M pc L (.inl x :: .inl i :: .inr (.inl k) :: S) (I, R) o σ' := by
  subst hq
  intro G p e s m args below meth c H locs ls C B hS hP hl
  have he := sm_cl_at (G := G) (σ := (I, R)) (sm_kd_lt hk (by omega))
  rw [sm_ent_ar (t := 0) hk (by omega)] at he
  refine va_iast C.1 C.2.1 B.2.1 hP (sm_D B) hS k 0 he rfl hi hd (fun H1 locs1 hP1 _ hS1 => ?_)
  have e9 := sm_ar_set (G := G) (t := 0) (I := I) (R := R) (f := sm_up (I k) i.toNatClampNeg x) hk (by omega)
  have hP2 : va_P G.1 sm_cs ((sm_cl G (I, R)).set k (G.2.1 k, .inl (G.2.2.1 0, n, .inl (sm_up (I k) i.toNatClampNeg x)))) H1 := hP1
  rw [e9] at hP2
  exact kk G p e s m args below meth c H1 locs1 ls C B hS1 hP2 hl
theorem sm_bast {k n : Nat} {i x : Int32} {I : Nat → Nat → Int32} {R : Nat → Nat → Nat} (hd : decode M.2.1 pc = .ok (.bastore, 1)) (hq : pc + 1 = q) (hk : sm_kd k = (14, n)) (hi : vp_in i n) (kk : sm_W l d M q L S (sm_up I k (sm_up (I k) i.toNatClampNeg x.toInt8.toInt32), R) o σ') : sm_W l d M pc L (.inl x :: .inl i :: .inr (.inl k) :: S) (I, R) o σ' := by
  subst hq
  intro G p e s m args below meth c H locs ls C B hS hP hl
  have he := sm_cl_at (G := G) (σ := (I, R)) (sm_kd_lt hk (by omega))
  rw [sm_ent_ar (t := 1) hk (by omega)] at he
  refine va_bast C.1 C.2.1 B.2.1 hP (sm_D B) hS k 1 he rfl hi hd (fun H1 locs1 hP1 _ hS1 => ?_)
  rw [vp_nar_byte] at hP1
  have e9 := sm_ar_set (G := G) (t := 1) (I := I) (R := R) (f := sm_up (I k) i.toNatClampNeg x.toInt8.toInt32) hk (by omega)
  have hP2 : va_P G.1 sm_cs ((sm_cl G (I, R)).set k (G.2.1 k, .inl (G.2.2.1 1, n, .inl (sm_up (I k) i.toNatClampNeg x.toInt8.toInt32)))) H1 := hP1
  rw [e9] at hP2
  exact kk G p e s m args below meth c H1 locs1 ls C B hS1 hP2 hl
theorem sm_zast {k n : Nat} {i x : Int32} {I : Nat → Nat → Int32} {R : Nat → Nat → Nat} (hd : decode M.2.1 pc = .ok (.bastore, 1)) (hq : pc + 1 = q) (hk : sm_kd k = (15, n)) (hi : vp_in i n) (hx : x = 0 ∨ x = 1) (kk : sm_W l d M q L S (sm_up I k (sm_up (I k) i.toNatClampNeg x), R) o σ') : sm_W l d M pc L (.inl x :: .inl i :: .inr (.inl k) :: S) (I, R) o σ' := by
  subst hq
  intro G p e s m args below meth c H locs ls C B hS hP hl
  have he := sm_cl_at (G := G) (σ := (I, R)) (sm_kd_lt hk (by omega))
  rw [sm_ent_ar (t := 2) hk (by omega)] at he
  refine va_zast C.1 C.2.1 B.2.1 hP (sm_D B) hS k 2 he rfl hi hd (fun H1 locs1 hP1 _ hS1 => ?_)
  have hz : vp_nar .boolean x = x := by rcases hx with rfl | rfl <;> rfl
  rw [hz] at hP1
  have e9 := sm_ar_set (G := G) (t := 2) (I := I) (R := R) (f := sm_up (I k) i.toNatClampNeg x) hk (by omega)
  have hP2 : va_P G.1 sm_cs ((sm_cl G (I, R)).set k (G.2.1 k, .inl (G.2.2.1 2, n, .inl (sm_up (I k) i.toNatClampNeg x)))) H1 := hP1
  rw [e9] at hP2
  exact kk G p e s m args below meth c H1 locs1 ls C B hS1 hP2 hl
end SMR
