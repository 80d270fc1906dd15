/-! ===== PURE PART: numbers, loops, frames ===== -/
theorem zl_0 : (0 : Int32) = nI 0 := rfl
theorem zl_1 : (1 : Int32) = nI 1 := rfl
theorem zl_2 : (2 : Int32) = nI 2 := rfl
theorem zl_3 : (3 : Int32) = nI 3 := rfl
theorem zl_4 : (4 : Int32) = nI 4 := rfl
theorem zl_5 : (5 : Int32) = nI 5 := rfl
theorem zl_6 : (6 : Int32) = nI 6 := rfl
theorem zl_7 : (7 : Int32) = nI 7 := rfl
theorem zl_8 : (8 : Int32) = nI 8 := rfl
theorem zl_9 : (9 : Int32) = nI 9 := rfl
theorem zl_10 : (10 : Int32) = nI 10 := rfl
theorem zl_12 : (12 : Int32) = nI 12 := rfl
theorem zl_14 : (14 : Int32) = nI 14 := rfl
theorem zl_16 : (16 : Int32) = nI 16 := rfl
theorem zl_20 : (20 : Int32) = nI 20 := rfl
theorem zl_21 : (21 : Int32) = nI 21 := rfl
theorem zl_28 : (28 : Int32) = nI 28 := rfl
theorem zl_30 : (30 : Int32) = nI 30 := rfl
theorem zl_32 : (32 : Int32) = nI 32 := rfl
theorem zl_37 : (37 : Int32) = nI 37 := rfl
theorem zl_40 : (40 : Int32) = nI 40 := rfl
theorem zl_60 : (60 : Int32) = nI 60 := rfl
theorem zl_64 : (64 : Int32) = nI 64 := rfl
theorem zl_99 : (99 : Int32) = nI 99 := rfl
theorem zl_100 : (100 : Int32) = nI 100 := rfl
theorem zl_680 : (680 : Int32) = nI 680 := rfl
theorem zl_700 : (700 : Int32) = nI 700 := rfl
theorem zl_999 : (999 : Int32) = nI 999 := rfl
theorem zl_9999 : (9999 : Int32) = nI 9999 := rfl
theorem zl_10000 : (10000 : Int32) = nI 10000 := rfl
theorem zl_20000 : (20000 : Int32) = nI 20000 := rfl
theorem zl_20001 : (20001 : Int32) = nI 20001 := rfl
theorem zl_20002 : (20002 : Int32) = nI 20002 := rfl
theorem zl_20003 : (20003 : Int32) = nI 20003 := rfl
theorem zl_20004 : (20004 : Int32) = nI 20004 := rfl
theorem zl_20005 : (20005 : Int32) = nI 20005 := rfl
theorem zl_20006 : (20006 : Int32) = nI 20006 := rfl
theorem zl_20007 : (20007 : Int32) = nI 20007 := rfl
theorem zl_ofNat (n : Nat) : Int32.ofNat n = nI n := rfl
theorem gd_pos {α : Type} {p : Prop} [Decidable p] {x : Option α} (h : p) : sm_gd p x = x := if_pos h
theorem gd_t {α : Type} {h : Decidable True} {x : Option α} : @sm_gd α True h x = x := if_pos trivial
theorem lt_eq {α β : Type} (x : α) (f : α → β) : sm_lt x f = f x := rfl
theorem tb_l {α β γ : Type} (r : α) (J : γ) (k : α → γ → Option ((β ⊕ String) × γ)) : sm_tb (some (.inl r, J)) k = k r J := rfl
theorem tb_r {α β γ : Type} (E : String) (J : γ) (k : α → γ → Option ((β ⊕ String) × γ)) : sm_tb (some (.inr E, J)) k = some (.inr E, J) := rfl
theorem up_s {α : Type} (f : Nat → α) (k : Nat) (v : α) : sm_up f k v k = v := if_pos rfl
theorem up_n {α : Type} (f : Nat → α) {k j : Nat} (v : α) (h : ¬ j = k) : sm_up f k v j = f j := if_neg h
theorem up_uu {α : Type} (f : Nat → α) (k : Nat) (v w : α) : sm_up (sm_up f k v) k w = sm_up f k w := by
  funext j
  unfold sm_up
  by_cases h : j = k <;> simp [h]
theorem up_id {α : Type} (f : Nat → α) (k : Nat) : sm_up f k (f k) = f := by
  funext j
  unfold sm_up
  by_cases h : j = k
  · rw [if_pos h, h]
  · rw [if_neg h]
theorem mx_nI {a b : Nat} (ha : a < 2 ^ 31) (hb : b < 2 ^ 31) : sm_mx (nI a) (nI b) = nI (max a b) := by
  unfold sm_mx
  by_cases h : a < b
  · rw [if_pos ((nI_ltI ha hb).mpr h), Nat.max_eq_right (by omega)]
  · rw [if_neg (fun q => h ((nI_ltI ha hb).mp q)), Nat.max_eq_left (by omega)]
theorem mn_nI {a b : Nat} (ha : a < 2 ^ 31) (hb : b < 2 ^ 31) : sm_mn (nI a) (nI b) = nI (min a b) := by
  unfold sm_mn
  by_cases h : b < a
  · rw [if_pos ((nI_ltI hb ha).mpr h), Nat.min_eq_right (by omega)]
  · rw [if_neg (fun q => h ((nI_ltI hb ha).mp q)), Nat.min_eq_left (by omega)]
theorem zz_m1 {h l : Nat} (hh : l ≤ h) : nI h + -nI l = nI (h - l) := by
  have e : nI h + -nI l = nI h - nI l := (Int32.sub_eq_add_neg _ _).symm
  rw [e, pk_sub hh]
/-- a number of the machine as an Int -/
theorem zz_le {x y : Int32} : x ≤ y ↔ x.toInt ≤ y.toInt := Int32.le_iff_toInt_le
theorem zz_lt {x y : Int32} : x < y ↔ x.toInt < y.toInt := Int32.lt_iff_toInt_lt
theorem zz_sub {a b : Nat} (ha : a < 2 ^ 30) (hb : b < 2 ^ 30) : (nI a - nI b).toInt = (a : Int) - b := pk_sub_toInt ha hb
/-- kept to 0 .. m, as a Nat -/
def zz_cl (m : Nat) (x : Int32) : Nat := if x.toInt < 0 then 0 else if (m : Int) < x.toInt then m else x.toInt.toNat
theorem zz_cl_le (m : Nat) (x : Int32) : zz_cl m x ≤ m := by
  unfold zz_cl
  split
  · omega
  · split <;> omega
theorem zz_ofInt {x : Int32} {n : Nat} (h : x.toInt = n) : x = nI n := by
  rw [← Int32.ofInt_toInt x, h]
  rfl
theorem mxmn {m : Nat} (hm : m < 2 ^ 31) (x : Int32) : sm_mx (nI 0) (sm_mn (nI m) x) = nI (zz_cl m x) := by
  have h0 : (nI 0).toInt = 0 := nI_toInt (by omega)
  have h1 : (nI m).toInt = m := nI_toInt hm
  unfold sm_mx sm_mn zz_cl
  by_cases hx : x < nI m
  · rw [if_pos hx]
    have hx1 := zz_lt.mp hx
    rw [h1] at hx1
    by_cases hy : nI 0 < x
    · have hy1 := zz_lt.mp hy
      rw [h0] at hy1
      rw [if_pos hy, if_neg (by omega), if_neg (by omega)]
      exact zz_ofInt (by omega)
    · have hy1 : ¬ (nI 0).toInt < x.toInt := fun q => hy (zz_lt.mpr q)
      rw [h0] at hy1
      rw [if_neg hy]
      by_cases hz : x.toInt < 0
      · rw [if_pos hz]
      · rw [if_neg hz, if_neg (by omega), show x.toInt.toNat = 0 by omega]
  · have hx1 : ¬ x.toInt < (nI m).toInt := fun q => hx (zz_lt.mpr q)
    rw [h1] at hx1
    rw [if_neg hx]
    by_cases hm0 : m = 0
    · subst hm0
      rw [if_neg (by rw [zz_lt]; omega), if_neg (by omega)]
      by_cases hz : ((0 : Nat) : Int) < x.toInt
      · rw [if_pos hz]
      · rw [if_neg hz, show x.toInt.toNat = 0 by omega]
    · rw [if_pos (by rw [zz_lt, h0, h1]; omega), if_neg (by omega)]
      by_cases hz : (m : Int) < x.toInt
      · rw [if_pos hz]
      · rw [if_neg hz, show x.toInt.toNat = m by omega]
/-! loops -/
def zf {α : Type} (g : Nat → α → α) : Nat → Nat → α → α
  | 0, _, a => a
  | d + 1, i, a => zf g d (i + 1) (g i a)
theorem zf_eq {α β : Type} (F : Nat → Nat → α → Option β) (g : Nat → α → α) (ret : α → β) (e : Nat) (hx : ∀ n a, F (n + 1) e a = some (ret a)) (hs : ∀ n i a, i < e → F (n + 1) i a = F n (i + 1) (g i a)) : ∀ d i a n, i + d = e → d < n → F n i a = some (ret (zf g d i a))
  | 0, i, a, n + 1, h1, _ => by
    obtain rfl : i = e := by omega
    exact hx n a
  | d + 1, i, a, n + 1, h1, h2 => by
    rw [hs n i a (by omega), zf_eq F g ret e hx hs d (i + 1) (g i a) n (by omega) (by omega)]
    rfl
  | _, _, _, 0, _, h2 => absurd h2 (Nat.not_lt_zero _)
/-- a loop with an invariant; a step may end it -/
def zw {β : Type} (x : Option β) (Q : β → Prop) : Prop := ∃ y, x = some y ∧ Q y
theorem zw_some {β : Type} {y : β} {Q : β → Prop} (h : Q y) : zw (some y) Q := ⟨y, rfl, h⟩
theorem zw_loop {σ β : Type} (F : Nat → Nat → σ → Option β) (Q : β → Prop) (Inv : Nat → σ → Prop) (e : Nat) (hx : ∀ n s, Inv e s → zw (F (n + 1) e s) Q) (hs : ∀ n i s, i < e → Inv i s → (∀ s', Inv (i + 1) s' → zw (F n (i + 1) s') Q) → zw (F (n + 1) i s) Q) : ∀ d i s n, i + d = e → d < n → Inv i s → zw (F n i s) Q
  | 0, i, s, n + 1, h1, _, hi => by
    obtain rfl : i = e := by omega
    exact hx n s hi
  | d + 1, i, s, n + 1, h1, h2, hi => hs n i s (by omega) hi (fun s' hs' => zw_loop F Q Inv e hx hs d (i + 1) s' n (by omega) (by omega) hs')
  | _, _, _, 0, _, h2, _ => absurd h2 (Nat.not_lt_zero _)
/-- the first i at which g has an answer -/
def zx {β : Type} (g : Nat → Option β) : Nat → Nat → Option β
  | 0, _ => none
  | d + 1, i => match g i with
    | some b => some b
    | none => zx g d (i + 1)
/-! frames -/
def zfr (L : List Nat) (I J : Nat → Nat → Int32) : Prop := ∀ k, k ∉ L → J k = I k
theorem zfr_refl (L : List Nat) (I : Nat → Nat → Int32) : zfr L I I := fun _ _ => rfl
theorem zfr_trans {L : List Nat} {I J K : Nat → Nat → Int32} (h : zfr L I J) (h2 : zfr L J K) : zfr L I K := fun k hk => (h2 k hk).trans (h k hk)
theorem zfr_mono {L M : List Nat} {I J : Nat → Nat → Int32} (h : zfr L I J) (hs : ∀ x, x ∈ L → x ∈ M) : zfr M I J := fun k hk => h k (fun q => hk (hs k q))
theorem zfr_up {L : List Nat} {I J : Nat → Nat → Int32} (h : zfr L I J) {k : Nat} (hk : k ∈ L) (g : Nat → Int32) : zfr L I (sm_up J k g) := fun j hj => by
  rw [up_n J g (fun q : j = k => hj (q ▸ hk))]
  exact h j hj
/-- the model's frame: cells of L, fields of F of the cell 80 -/
def zfm (L F : List Nat) (I J : Nat → Nat → Int32) : Prop := (∀ k, k ≠ 80 → k ∉ L → J k = I k) ∧ ∀ j, j ∉ F → J 80 j = I 80 j
theorem zfm_refl (L F : List Nat) (I : Nat → Nat → Int32) : zfm L F I I := ⟨fun _ _ _ => rfl, fun _ _ => rfl⟩
theorem zfm_trans {L F : List Nat} {I J K : Nat → Nat → Int32} (h : zfm L F I J) (h2 : zfm L F J K) : zfm L F I K := ⟨fun k h0 hk => (h2.1 k h0 hk).trans (h.1 k h0 hk), fun j hj => (h2.2 j hj).trans (h.2 j hj)⟩
theorem zfm_mono {L F M E : List Nat} {I J : Nat → Nat → Int32} (h : zfm L F I J) (hs : ∀ x, x ∈ L → x ∈ M) (hf : ∀ x, x ∈ F → x ∈ E) : zfm M E I J := ⟨fun k h0 hk => h.1 k h0 (fun q => hk (hs k q)), fun j hj => h.2 j (fun q => hj (hf j q))⟩
theorem zfm_up {L F : List Nat} {I J : Nat → Nat → Int32} (h : zfm L F I J) {k : Nat} (hk : k ∈ L) (h8 : k ≠ 80) (g : Nat → Int32) : zfm L F I (sm_up J k g) := ⟨fun j h0 hj => by
  rw [up_n J g (fun q : j = k => hj (q ▸ hk))]
  exact h.1 j h0 hj, fun j hj => by
  rw [up_n J g (Ne.symm h8)]
  exact h.2 j hj⟩
theorem zfm_f {L F : List Nat} {I J : Nat → Nat → Int32} (h : zfm L F I J) {i : Nat} (hi : i ∈ F) (v : Int32) : zfm L F I (sm_up J 80 (sm_up (J 80) i v)) := ⟨fun j h0 hj => by
  rw [up_n J _ h0]
  exact h.1 j h0 hj, fun j hj => by
  rw [up_s, up_n (J 80) v (fun q : j = i => hj (q ▸ hi))]
  exact h.2 j hj⟩
