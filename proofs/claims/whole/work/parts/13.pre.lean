/-! ===== words of the printed functions ===== -/
def sm_gd {α : Type} (p : Prop) [Decidable p] (x : Option α) : Option α := if p then x else none
def sm_lt {α β : Type} (x : α) (f : α → β) : β := f x
def sm_tb {α β γ : Type} (x : Option ((α ⊕ String) × γ)) (k : α → γ → Option ((β ⊕ String) × γ)) : Option ((β ⊕ String) × γ) := match x with
  | none => none
  | some (.inl r, J) => k r J
  | some (.inr E, J) => some (.inr E, J)
theorem sm_gd_e {α : Type} {p : Prop} [Decidable p] {x : Option α} {y : α} (h : sm_gd p x = some y) : p ∧ x = some y := by
  unfold sm_gd at h
  by_cases hp : p
  · rw [if_pos hp] at h
    exact ⟨hp, h⟩
  · rw [if_neg hp] at h
    cases h
theorem sm_if_e {α : Type} {p : Prop} [Decidable p] {x z : Option α} {y : α} (h : (if p then x else z) = some y) : (p ∧ x = some y) ∨ (¬ p ∧ z = some y) := by
  by_cases hp : p
  · rw [if_pos hp] at h
    exact Or.inl ⟨hp, h⟩
  · rw [if_neg hp] at h
    exact Or.inr ⟨hp, h⟩
theorem sm_lt_e {α β : Type} {x : α} {f : α → β} {y : β} (h : sm_lt x f = y) : ∃ v, x = v ∧ f v = y := ⟨x, rfl, h⟩
theorem sm_bd_e {α β : Type} {x : Option α} {f : α → Option β} {y : β} (h : x.bind f = some y) : ∃ a, x = some a ∧ f a = some y := Option.bind_eq_some_iff.mp h
theorem sm_tb_e {α β γ : Type} {x : Option ((α ⊕ String) × γ)} {k : α → γ → Option ((β ⊕ String) × γ)} {y : (β ⊕ String) × γ} (h : sm_tb x k = some y) : (∃ r J, x = some (.inl r, J) ∧ k r J = some y) ∨ (∃ E J, x = some (.inr E, J) ∧ some ((.inr E : β ⊕ String), J) = some y) := by
  match x, h with
  | some (.inl r, J), h => exact Or.inl ⟨r, J, rfl, h⟩
  | some (.inr E, J), h => exact Or.inr ⟨E, J, rfl, h⟩
def sm_mx (x y : Int32) : Int32 := if x < y then y else x
def sm_mn (x y : Int32) : Int32 := if y < x then y else x
def sm_ab (x : Int32) : Int32 := if 0 ≤ x then x else 0 - x
def sm_us (x y : Int32) : Int32 := (x.toUInt32 >>> (y.toUInt32 &&& Int32.toUInt32 31)).toInt32
def sm_i8 (x : Int32) : Int32 := x.toInt8.toInt32
def sm_sln (r : Nat) : Int32 := Int32.ofNat (sm_len.getD (r - 1000) 0)
def sm_sch (r : Nat) (i : Int32) : Int32 := (sm_byt.getD (r - 1000) []).getD i.toNatClampNeg 0
def sm_oI : Int32 ⊕ String → sm_O
  | .inl x => .inl (some (.inl x))
  | .inr E => .inr E
def sm_oR : Nat ⊕ String → sm_O
  | .inl x => .inl (some (.inr (.inl x)))
  | .inr E => .inr E
def sm_oU : Unit ⊕ String → sm_O
  | .inl _ => .inl none
  | .inr E => .inr E
theorem sm_sw {x : Int32} {lo hi : Int} (h : ∀ v : Int, lo ≤ v → v ≤ hi → x = Int32.ofInt v → False) : x.toInt < lo ∨ hi < x.toInt := by
  by_cases h1 : x.toInt < lo
  · exact Or.inl h1
  · by_cases h2 : hi < x.toInt
    · exact Or.inr h2
    · exact (h x.toInt (by omega) (by omega) (Int32.ofInt_toInt x).symm).elim
section SMT
variable {l : Launch} {d : Nat} {M : sm_I} {pc q : Nat} {L L' : List (Nat × sm_V)} {S : List sm_V} {σ σ' : sm_M} {o : sm_O}
/-- 'throw new E("text")' -/
theorem sm_throwW {E tx : String} {names : List String} {ik is ic j : Nat} (hl : l.stackTraces = false) (hE : Bundle.fit E = true) (hnm : ∀ n ∈ names, Bundle.fit n = true) (hlen : names.length ≤ 4)
    (hk : Cond.classLink M.1.cls ik E ∈ sm_gt) (hi : Cond.initialized E ∈ sm_gt) (hs : (M.1.cls, is, tx, j) ∈ sm_sl) (hat : ∀ w ∈ vx_atS M.1.cls ic E names, w ∈ sm_gt ∨ ∃ q ∈ sm_bc, w = .castable q.1 q.2)
    (hgood : ∀ w ∈ Cond.classLink M.1.cls ik E :: Cond.initialized E :: vx_atS M.1.cls ic E names, vx_ot w = true) (hsz : sm_sz S ≤ 8)
    (d0 : decode M.2.1 pc = .ok (.new ik, 3)) (d3 : decode M.2.1 (pc + 3) = .ok (.dup, 1)) (d4 : decode M.2.1 (pc + 4) = .ok (.ldc_w is, 3)) (d6 : decode M.2.1 (pc + 7) = .ok (.invokespecial ic, 3)) (d9 : decode M.2.1 (pc + 10) = .ok (.athrow, 1)) :
    sm_W l d M pc L S σ (.inr E) σ := by
  intro G p e s m args below meth c H locs ls C B hS hP hls
  have h8 := sm_hW (m := m) (ls := ls) (st0 := []) (pc := pc) (ad := G.2.1) hsz
  refine vx_throwSW (A := sm_A G s.heap.size) (text := tx) (sa := G.2.1 (1000 + j)) C.1 C.2.1 hl C.2.2.2.1 hE hnm (C.2.2.2.2.1 _ hk) (C.2.2.2.2.1 _ hi) (B.2.2.2.2.2.2.2.1 _ hs) (fun w hw => ?_) hgood B.2.2.2.1 B.2.2.2.2.1 hS (hls.1.trans C.2.2.1.symm) d0 d3 d4 d6 d9 (fun x hx => (C.2.2.2.2.2.2.2 x hx).elim) ?_ ?_ (Nat.le_refl _) (Nat.le_refl _) C.2.2.2.2.2.2.1 (fun t ht h1 h2 => ⟨rfl, ?_, ?_⟩) hS.2.2 (Nat.le_refl _) (Nat.le_refl _)
  · rcases hat w hw with h | ⟨q, hq, rfl⟩
    · exact C.2.2.2.2.1 _ h
    · exact va_Nw.use rfl (B.2.2.2.2.2.2.2.2 q hq)
  · show names.length + 3 < d + 10
    omega
  · show _ ≤ 60 * d + 200
    omega
  · exact hP.kept (fun k q hk => h2 _ ((hP k q hk).lt))
  · exact ⟨Nat.le_trans hS.1 h1, fun q hq hA => by rw [h2 q (Nat.lt_of_lt_of_le hq hS.1)]; exact hS.2.1 q hq hA⟩
end SMT
section SMD
variable {l : Launch} {d : Nat} {M : sm_I} {pc q : Nat} {L L' : List (Nat × sm_V)} {S : List sm_V} {σ σ' σ1 : sm_M} {o : sm_O} {As : List sm_V} {k idx n t N d1 : Nat} {M1 : sm_I} {x : Int32} {r : Nat} {E : String}
theorem sm_memI {I J : Nat → Nat → Int32} {R : Nat → Nat → Nat} (h : I = J) (k : sm_W l d M pc L S (J, R) o σ') : sm_W l d M pc L S (I, R) o σ' := h ▸ k
theorem sm_memR {I : Nat → Nat → Int32} {R Q : Nat → Nat → Nat} (h : R = Q) (k : sm_W l d M pc L S (I, Q) o σ') : sm_W l d M pc L S (I, R) o σ' := h ▸ k
theorem sm_callVi (hE : sm_E l d1 M1 (.inr (.inl k) :: As) σ (.inl (some (.inl x))) σ1) (hm : sm_mv M.1.cls idx n t M1) (hk : sm_kd k = (t, N)) (hn : As.length = n) (hd : d1 + 1 ≤ d) (hs : sm_sz S ≤ 8) (hdg : decode M.2.1 pc = .ok (.invokevirtual idx, 3)) (hq : pc + 3 = q) (kk : sm_W l d M q L (.inl x :: S) σ1 o σ') : sm_W l d M pc L (As.reverse ++ .inr (.inl k) :: S) σ o σ' := sm_callV hE hm hk hn hd hs hdg hq kk
theorem sm_callVr (hE : sm_E l d1 M1 (.inr (.inl k) :: As) σ (.inl (some (.inr (.inl r)))) σ1) (hm : sm_mv M.1.cls idx n t M1) (hk : sm_kd k = (t, N)) (hn : As.length = n) (hd : d1 + 1 ≤ d) (hs : sm_sz S ≤ 8) (hdg : decode M.2.1 pc = .ok (.invokevirtual idx, 3)) (hq : pc + 3 = q) (kk : sm_W l d M q L (.inr (.inl r) :: S) σ1 o σ') : sm_W l d M pc L (As.reverse ++ .inr (.inl k) :: S) σ o σ' := sm_callV hE hm hk hn hd hs hdg hq kk
theorem sm_callVv (hE : sm_E l d1 M1 (.inr (.inl k) :: As) σ (.inl none) σ1) (hm : sm_mv M.1.cls idx n t M1) (hk : sm_kd k = (t, N)) (hn : As.length = n) (hd : d1 + 1 ≤ d) (hs : sm_sz S ≤ 8) (hdg : decode M.2.1 pc = .ok (.invokevirtual idx, 3)) (hq : pc + 3 = q) (kk : sm_W l d M q L S σ1 o σ') : sm_W l d M pc L (As.reverse ++ .inr (.inl k) :: S) σ o σ' := sm_callV hE hm hk hn hd hs hdg hq kk
theorem sm_callSi (hE : sm_E l d1 M1 As σ (.inl (some (.inl x))) σ1) (hm : sm_ms' M.1.cls idx n M1) (hn : As.length = n) (hd : d1 + 1 ≤ d) (hs : sm_sz S ≤ 8) (hdg : decode M.2.1 pc = .ok (.invokestatic idx, 3)) (hq : pc + 3 = q) (kk : sm_W l d M q L (.inl x :: S) σ1 o σ') : sm_W l d M pc L (As.reverse ++ S) σ o σ' := sm_callS hE hm hn hd hs hdg hq kk
theorem sm_callSv (hE : sm_E l d1 M1 As σ (.inl none) σ1) (hm : sm_ms' M.1.cls idx n M1) (hn : As.length = n) (hd : d1 + 1 ≤ d) (hs : sm_sz S ≤ 8) (hdg : decode M.2.1 pc = .ok (.invokestatic idx, 3)) (hq : pc + 3 = q) (kk : sm_W l d M q L S σ1 o σ') : sm_W l d M pc L (As.reverse ++ S) σ o σ' := sm_callS hE hm hn hd hs hdg hq kk
/-- String.length() of a constant -/
theorem sm_strlen (hd : decode M.2.1 pc = .ok (.invokevirtual idx, 3)) (hq : pc + 3 = q) (hm : Cond.methodLink M.1.cls idx yJ0_length_8abf5 ∈ sm_gt) (h1 : 1000 ≤ r) (h2 : r < 1000 + sm_NS) (hs : sm_sz S ≤ 8) (k : sm_W l d M q L (.inl (sm_sln r) :: S) σ o σ') : sm_W l d M pc L (.inr (.inl r) :: S) σ o σ' := by
  sorry
/-- String.charAt(x) of a constant -/
theorem sm_strchr (hd : decode M.2.1 pc = .ok (.invokevirtual idx, 3)) (hq : pc + 3 = q) (hm : Cond.methodLink M.1.cls idx yJ0_charAt_5068e ∈ sm_gt) (h1 : 1000 ≤ r) (h2 : r < 1000 + sm_NS) (h3 : ¬ (x < 0 ∨ sm_len.getD (r - 1000) 0 ≤ x.toNatClampNeg)) (hs : sm_sz S ≤ 8) (k : sm_W l d M q L (.inl (sm_sch r x) :: S) σ o σ') : sm_W l d M pc L (.inl x :: .inr (.inl r) :: S) σ o σ' := by
  sorry
end SMD
theorem sl_X5_201 : Cond.methodLink RX5 201 yJ0_length_8abf5 ∈ sm_gt := sm_gi 686 (by decide +kernel) rfl
theorem sc_X5_205 : Cond.methodLink RX5 205 yJ0_charAt_5068e ∈ sm_gt := sm_gi 696 (by decide +kernel) rfl
theorem sl_X12_207 : Cond.methodLink RX12 207 yJ0_length_8abf5 ∈ sm_gt := sm_gi 1534 (by decide +kernel) rfl
theorem sc_X12_211 : Cond.methodLink RX12 211 yJ0_charAt_5068e ∈ sm_gt := sm_gi 1535 (by decide +kernel) rfl
set_option maxRecDepth 100000 in
theorem th_X11_113 : ∀ w ∈ vx_atS RX11 113 "java/lang/IllegalArgumentException" ["java/lang/RuntimeException", "java/lang/Exception"], w ∈ sm_gt ∨ ∃ q ∈ sm_bc, w = .castable q.1 q.2 := by
  sorry
set_option maxRecDepth 100000 in
theorem th_X11_169 : ∀ w ∈ vx_atS RX11 169 "java/util/NoSuchElementException" ["java/lang/RuntimeException", "java/lang/Exception"], w ∈ sm_gt ∨ ∃ q ∈ sm_bc, w = .castable q.1 q.2 := by
  sorry
theorem tg_X11_109_113 : ∀ w ∈ Cond.classLink RX11 109 "java/lang/IllegalArgumentException" :: Cond.initialized "java/lang/IllegalArgumentException" :: vx_atS RX11 113 "java/lang/IllegalArgumentException" ["java/lang/RuntimeException", "java/lang/Exception"], vx_ot w = true := by decide +kernel
theorem tg_X11_165_169 : ∀ w ∈ Cond.classLink RX11 165 "java/util/NoSuchElementException" :: Cond.initialized "java/util/NoSuchElementException" :: vx_atS RX11 169 "java/util/NoSuchElementException" ["java/lang/RuntimeException", "java/lang/Exception"], vx_ot w = true := by decide +kernel
