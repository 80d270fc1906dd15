/-! ===== words of the printed functions ===== -/
def sm_gd {α : Type} (p : Prop) [Decidable p] (x : Option α) : Option α := if p then x else none
def sm_lt {α β : Type} (x : α) (f : α → β) : β := f x
def sm_tb {α β γ : Type} (x : Option ((α ⊕ String) × γ)) (k : α → γ → Option ((β ⊕ String) × γ)) : Option ((β ⊕ String) × γ) := match x with
  | none => none
  | some (.inl r, J) => k r J
  | some (.inr E, J) => some (.inr E, J)
theorem sm_gd_e {α : Type} {p : Prop} [Decidable p] {x : Option α} {y : α} (h : sm_gd p x = some y) : p ∧ x = some y := by
  unfold sm_gd at h
  by_cases hp : p
  · rw [if_pos hp] at h
    exact ⟨hp, h⟩
  · rw [if_neg hp] at h
    cases h
theorem sm_if_e {α : Type} {p : Prop} [Decidable p] {x z : Option α} {y : α} (h : (if p then x else z) = some y) : (p ∧ x = some y) ∨ (¬ p ∧ z = some y) := by
  by_cases hp : p
  · rw [if_pos hp] at h
    exact Or.inl ⟨hp, h⟩
  · rw [if_neg hp] at h
    exact Or.inr ⟨hp, h⟩
theorem sm_lt_e {α β : Type} {x : α} {f : α → β} {y : β} (h : sm_lt x f = y) : ∃ v, x = v ∧ f v = y := ⟨x, rfl, h⟩
theorem sm_bd_e {α β : Type} {x : Option α} {f : α → Option β} {y : β} (h : x.bind f = some y) : ∃ a, x = some a ∧ f a = some y := Option.bind_eq_some_iff.mp h
theorem sm_tb_e {α β γ : Type} {x : Option ((α ⊕ String) × γ)} {k : α → γ → Option ((β ⊕ String) × γ)} {y : (β ⊕ String) × γ} (h : sm_tb x k = some y) : (∃ r J, x = some (.inl r, J) ∧ k r J = some y) ∨ (∃ E J, x = some (.inr E, J) ∧ some ((.inr E : β ⊕ String), J) = some y) := by
  match x, h with
  | some (.inl r, J), h => exact Or.inl ⟨r, J, rfl, h⟩
  | some (.inr E, J), h => exact Or.inr ⟨E, J, rfl, h⟩
def sm_mx (x y : Int32) : Int32 := if x < y then y else x
def sm_mn (x y : Int32) : Int32 := if y < x then y else x
def sm_ab (x : Int32) : Int32 := if 0 ≤ x then x else 0 - x
def sm_us (x y : Int32) : Int32 := (x.toUInt32 >>> (y.toUInt32 &&& Int32.toUInt32 31)).toInt32
def sm_i8 (x : Int32) : Int32 := x.toInt8.toInt32
def sm_sln (r : Nat) : Int32 := Int32.ofNat (sm_len.getD (r - 1000) 0)
def sm_sch (r : Nat) (i : Int32) : Int32 := (sm_byt.getD (r - 1000) []).getD i.toNatClampNeg 0
def sm_oI : Int32 ⊕ String → sm_O
  | .inl x => .inl (some (.inl x))
  | .inr E => .inr E
def sm_oR : Nat ⊕ String → sm_O
  | .inl x => .inl (some (.inr (.inl x)))
  | .inr E => .inr E
def sm_oU : Unit ⊕ String → sm_O
  | .inl _ => .inl none
  | .inr E => .inr E
theorem sm_sw {x : Int32} {lo hi : Int} (h : ∀ v : Int, lo ≤ v → v ≤ hi → x = Int32.ofInt v → False) : x.toInt < lo ∨ hi < x.toInt := by
  by_cases h1 : x.toInt < lo
  · exact Or.inl h1
  · by_cases h2 : hi < x.toInt
    · exact Or.inr h2
    · exact (h x.toInt (by omega) (by omega) (Int32.ofInt_toInt x).symm).elim
section SMD
variable {l : Launch} {d : Nat} {M : sm_I} {pc q : Nat} {L L' : List (Nat × sm_V)} {S : List sm_V} {σ σ' σ1 : sm_M} {o : sm_O} {As : List sm_V} {k idx n t N d1 : Nat} {M1 : sm_I} {x : Int32} {r : Nat} {E : String}
theorem sm_memI {I J : Nat → Nat → Int32} {R : Nat → Nat → Nat} (h : I = J) (k : sm_W l d M pc L S (J, R) o σ') : sm_W l d M pc L S (I, R) o σ' := h ▸ k
theorem sm_memR {I : Nat → Nat → Int32} {R Q : Nat → Nat → Nat} (h : R = Q) (k : sm_W l d M pc L S (I, Q) o σ') : sm_W l d M pc L S (I, R) o σ' := h ▸ k
theorem sm_callVi (hE : sm_E l d1 M1 (.inr (.inl k) :: As) σ (.inl (some (.inl x))) σ1) (hm : sm_mv M.1.cls idx n t M1) (hk : sm_kd k = (t, N)) (hn : As.length = n) (hd : d1 + 1 ≤ d) (hs : sm_sz S ≤ 8) (hdg : decode M.2.1 pc = .ok (.invokevirtual idx, 3)) (hq : pc + 3 = q) (kk : sm_W l d M q L (.inl x :: S) σ1 o σ') : sm_W l d M pc L (As.reverse ++ .inr (.inl k) :: S) σ o σ' := sm_callV hE hm hk hn hd hs hdg hq kk
theorem sm_callVr (hE : sm_E l d1 M1 (.inr (.inl k) :: As) σ (.inl (some (.inr (.inl r)))) σ1) (hm : sm_mv M.1.cls idx n t M1) (hk : sm_kd k = (t, N)) (hn : As.length = n) (hd : d1 + 1 ≤ d) (hs : sm_sz S ≤ 8) (hdg : decode M.2.1 pc = .ok (.invokevirtual idx, 3)) (hq : pc + 3 = q) (kk : sm_W l d M q L (.inr (.inl r) :: S) σ1 o σ') : sm_W l d M pc L (As.reverse ++ .inr (.inl k) :: S) σ o σ' := sm_callV hE hm hk hn hd hs hdg hq kk
theorem sm_callVv (hE : sm_E l d1 M1 (.inr (.inl k) :: As) σ (.inl none) σ1) (hm : sm_mv M.1.cls idx n t M1) (hk : sm_kd k = (t, N)) (hn : As.length = n) (hd : d1 + 1 ≤ d) (hs : sm_sz S ≤ 8) (hdg : decode M.2.1 pc = .ok (.invokevirtual idx, 3)) (hq : pc + 3 = q) (kk : sm_W l d M q L S σ1 o σ') : sm_W l d M pc L (As.reverse ++ .inr (.inl k) :: S) σ o σ' := sm_callV hE hm hk hn hd hs hdg hq kk
theorem sm_callSi (hE : sm_E l d1 M1 As σ (.inl (some (.inl x))) σ1) (hm : sm_ms' M.1.cls idx n M1) (hn : As.length = n) (hd : d1 + 1 ≤ d) (hs : sm_sz S ≤ 8) (hdg : decode M.2.1 pc = .ok (.invokestatic idx, 3)) (hq : pc + 3 = q) (kk : sm_W l d M q L (.inl x :: S) σ1 o σ') : sm_W l d M pc L (As.reverse ++ S) σ o σ' := sm_callS hE hm hn hd hs hdg hq kk
theorem sm_callSv (hE : sm_E l d1 M1 As σ (.inl none) σ1) (hm : sm_ms' M.1.cls idx n M1) (hn : As.length = n) (hd : d1 + 1 ≤ d) (hs : sm_sz S ≤ 8) (hdg : decode M.2.1 pc = .ok (.invokestatic idx, 3)) (hq : pc + 3 = q) (kk : sm_W l d M q L S σ1 o σ') : sm_W l d M pc L (As.reverse ++ S) σ o σ' := sm_callS hE hm hn hd hs hdg hq kk
end SMD
theorem sm_allin {L : List Cond} (ps : List Nat) (h : (L.filter goodWord).map some = ps.map (fun i => tables_1[i]?)) (hb : (L.filter (fun w => !goodWord w)).all (fun w => (sm_bc.map (fun q => Cond.castable q.1 q.2) ++ sm_bd.map (fun y => Cond.declares y)).contains w) = true) : ∀ w ∈ L, w ∈ sm_gt ∨ (∃ q ∈ sm_bc, w = .castable q.1 q.2) ∨ ∃ y ∈ sm_bd, w = .declares y := by
  intro w hw
  by_cases hg : goodWord w = true
  · have h1 : some w ∈ (L.filter goodWord).map some := List.mem_map.mpr ⟨w, List.mem_filter.mpr ⟨hw, hg⟩, rfl⟩
    rw [h] at h1
    obtain ⟨i, -, hi⟩ := List.mem_map.mp h1
    exact Or.inl (sm_gi i hi hg)
  · have h1 := List.all_eq_true.mp hb w (List.mem_filter.mpr ⟨hw, by simpa using hg⟩)
    have h2 := List.contains_iff_mem.mp h1
    rcases List.mem_append.mp h2 with h3 | h3
    · obtain ⟨q, hq, rfl⟩ := List.mem_map.mp h3
      exact Or.inr (Or.inl ⟨q, hq, rfl⟩)
    · obtain ⟨y, hy, rfl⟩ := List.mem_map.mp h3
      exact Or.inr (Or.inr ⟨y, hy, rfl⟩)
abbrev bxN : ByteArray := prog_31_method_4_code
theorem bxN_0 : decode bxN 0 = .ok (.aload_n 0, 1) := by decide +kernel
theorem bxN_1 : decode bxN 1 = .ok (.aload_n 1, 1) := by decide +kernel
theorem bxN_2 : decode bxN 2 = .ok (.invokespecial 13, 3) := by decide +kernel
theorem bxN_5 : decode bxN 5 = .ok (.return_, 1) := by decide +kernel
abbrev bxI : ByteArray := prog_19_method_2_code
theorem bxI_0 : decode bxI 0 = .ok (.aload_n 0, 1) := by decide +kernel
theorem bxI_1 : decode bxI 1 = .ok (.aload_n 1, 1) := by decide +kernel
theorem bxI_2 : decode bxI 2 = .ok (.invokespecial 7, 3) := by decide +kernel
theorem bxI_5 : decode bxI 5 = .ok (.return_, 1) := by decide +kernel
set_option maxRecDepth 100000 in
theorem th_X11_108 : ∀ w ∈ sm_atS RX11 108 "java/lang/IllegalArgumentException" 7 bxI "java/lang/RuntimeException" ["java/lang/Exception"], w ∈ sm_gt ∨ (∃ q ∈ sm_bc, w = .castable q.1 q.2) ∨ ∃ y ∈ sm_bd, w = .declares y := sm_allin [14, 609, 618, 621, 624, 626, 610, 611, 33, 34, 612, 617, 622, 642, 599, 643, 601, 644, 603, 613, 615, 605, 638, 639, 641, 605, 629, 630, 631, 632, 632, 633, 634, 635, 635, 636, 637, 638, 628, 588, 596, 597, 598, 600, 602, 604, 608, 607, 606] (by decide +kernel) (by decide +kernel)
set_option maxRecDepth 100000 in
theorem th_X11_164 : ∀ w ∈ sm_atS RX11 164 "java/util/NoSuchElementException" 13 bxN "java/lang/RuntimeException" ["java/lang/Exception"], w ∈ sm_gt ∨ (∃ q ∈ sm_bc, w = .castable q.1 q.2) ∨ ∃ y ∈ sm_bd, w = .declares y := sm_allin [14, 609, 618, 621, 624, 626, 610, 611, 33, 34, 612, 617, 622, 642, 599, 643, 601, 644, 603, 613, 615, 605, 638, 639, 641, 605, 842, 843, 844, 632, 632, 633, 634, 635, 635, 636, 637, 638, 841, 832, 834, 620, 835, 836, 837, 838, 608, 607, 839] (by decide +kernel) (by decide +kernel)
theorem tg_X11_104_108 : ∀ w ∈ Cond.classLink RX11 104 "java/lang/IllegalArgumentException" :: Cond.initialized "java/lang/IllegalArgumentException" :: sm_atS RX11 108 "java/lang/IllegalArgumentException" 7 bxI "java/lang/RuntimeException" ["java/lang/Exception"], vx_ot w = true := by decide +kernel
theorem tg_X11_160_164 : ∀ w ∈ Cond.classLink RX11 160 "java/util/NoSuchElementException" :: Cond.initialized "java/util/NoSuchElementException" :: sm_atS RX11 164 "java/util/NoSuchElementException" 13 bxN "java/lang/RuntimeException" ["java/lang/Exception"], vx_ot w = true := by decide +kernel
