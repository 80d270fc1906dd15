/-! ===== PURE PART: bits ===== -/
theorem zb_sl : ∀ n, n < 32 → ((nI n &&& 31).toBitVec.smod 32).toNat = n := by decide +kernel
theorem zb_su : ∀ n, n < 32 → (((nI n).toUInt32 &&& Int32.toUInt32 31).toBitVec % 32).toNat = n := by decide +kernel
theorem zb_or (a b : Nat) : nI a ||| nI b = nI (a ||| b) := by
  apply Int32.toBitVec_inj.1
  show BitVec.ofNat 32 a ||| BitVec.ofNat 32 b = BitVec.ofNat 32 (a ||| b)
  apply BitVec.eq_of_getLsbD_eq
  intro i hi
  simp [hi]
theorem zb_and (a b : Nat) : nI a &&& nI b = nI (a &&& b) := by
  apply Int32.toBitVec_inj.1
  show BitVec.ofNat 32 a &&& BitVec.ofNat 32 b = BitVec.ofNat 32 (a &&& b)
  apply BitVec.eq_of_getLsbD_eq
  intro i hi
  simp [hi]
theorem zb_us {n k : Nat} (hn : n < 2 ^ 32) (hk : k < 32) : sm_us (nI n) (nI k) = nI (n / 2 ^ k) := pk_ushrN hn (nI k) k (zb_su k hk)
theorem zb_bit {n j : Nat} (hn : n < 2 ^ 31) (hj : j < 32) : (nI n >>> (nI j &&& 31)) &&& nI 1 = nI (n / 2 ^ j % 2) := by
  rw [pk_shrN hn _ j (zb_sl j hj)]
  have h : n / 2 ^ j < 2 ^ 32 := Nat.lt_of_le_of_lt (Nat.div_le_self _ _) (by omega)
  exact pk_andN h 1 (by decide)
theorem zb_shl {j : Nat} (hj : j < 32) : nI 1 <<< (nI j &&& 31) = nI (2 ^ j) := by
  rw [pk_shlN (n := 1) _ j (zb_sl j hj) (by rw [Nat.one_mul]; exact Nat.pow_lt_pow_right (by omega) hj), Nat.one_mul]
theorem zb_shr {n : Nat} (hn : n < 2 ^ 31) {j : Nat} (hj : j < 32) : nI n >>> (nI j &&& 31) = nI (n / 2 ^ j) := pk_shrN hn _ j (zb_sl j hj)
theorem zb_split {k a c : Nat} (b d : Nat) (ha : a < 2 ^ k) (hc : c < 2 ^ k) : (2 ^ k * b + a) &&& (2 ^ k * d + c) = 2 ^ k * (b &&& d) + (a &&& c) := by
  have h : a &&& c < 2 ^ k := Nat.lt_of_le_of_lt Nat.and_le_left ha
  apply Nat.eq_of_testBit_eq
  intro i
  rw [Nat.testBit_and, Nat.testBit_two_pow_mul_add _ ha, Nat.testBit_two_pow_mul_add _ hc, Nat.testBit_two_pow_mul_add _ h]
  by_cases hi : i < k
  · simp [hi]
  · simp [hi]
/-- four bytes, masked byte by byte -/
theorem zb_4 {a b c d : Nat} (m : Nat) (ha : a < 256) (hb : b < 256) (hc : c < 256) (hm : m < 256) : (a + 256 * b + 65536 * c + 16777216 * d) &&& (m + 256 * m + 65536 * m + 16777216 * m) = (a &&& m) + 256 * (b &&& m) + 65536 * (c &&& m) + 16777216 * (d &&& m) := by
  have e1 := zb_split (k := 8) (b + 256 * c + 65536 * d) (m + 256 * m + 65536 * m) ha hm
  have e2 := zb_split (k := 8) (c + 256 * d) (m + 256 * m) hb hm
  have e3 := zb_split (k := 8) d m hc hm
  have q1 : a + 256 * b + 65536 * c + 16777216 * d = 2 ^ 8 * (b + 256 * c + 65536 * d) + a := by omega
  have q2 : m + 256 * m + 65536 * m + 16777216 * m = 2 ^ 8 * (m + 256 * m + 65536 * m) + m := by omega
  have q3 : b + 256 * c + 65536 * d = 2 ^ 8 * (c + 256 * d) + b := by omega
  have q4 : m + 256 * m + 65536 * m = 2 ^ 8 * (m + 256 * m) + m := by omega
  have q5 : c + 256 * d = 2 ^ 8 * d + c := by omega
  have q6 : m + 256 * m = 2 ^ 8 * m + m := by omega
  rw [q1, q2, e1, q3, q4, e2, q5, q6, e3]
  omega
def zb_f1 (b : Nat) : Nat := b - (b / 2 &&& 85)
def zb_f2 (b : Nat) : Nat := (zb_f1 b &&& 51) + (zb_f1 b / 4 &&& 51)
def zb_f3 (b : Nat) : Nat := (zb_f2 b + zb_f2 b / 16) % 16
theorem zb_t1 : ∀ b, b < 256 → ∀ c, c < 2 → (b / 2 + 128 * c) &&& 85 = b / 2 &&& 85 := by decide +kernel
theorem zb_t1l : ∀ b, b < 256 → (b / 2 &&& 85) ≤ b ∧ zb_f1 b < 256 := by decide +kernel
theorem zb_t2 : ∀ b, b < 256 → ∀ c, c < 4 → (b / 4 + 64 * c) &&& 51 = b / 4 &&& 51 := by decide +kernel
theorem zb_t2l : ∀ b, b < 256 → zb_f2 b ≤ 68 ∧ zb_f2 b % 16 ≤ 4 := by decide +kernel
theorem zb_t3 : ∀ b, b < 256 → b &&& 15 = b % 16 := by decide +kernel
theorem zb_t3l : ∀ b, b < 256 → zb_f3 b = z_pc 8 b ∧ zb_f3 b ≤ 8 := by decide +kernel
theorem z_pc_add : ∀ (a b n : Nat), z_pc (a + b) n = z_pc a (n % 2 ^ a) + z_pc b (n / 2 ^ a)
  | 0, b, n => by
    rw [Nat.zero_add, Nat.pow_zero, Nat.div_one]
    show z_pc b n = 0 + z_pc b n
    omega
  | a + 1, b, n => by
    rw [Nat.add_right_comm]
    show n % 2 + z_pc (a + b) (n / 2) = n % 2 ^ (a + 1) % 2 + z_pc a (n % 2 ^ (a + 1) / 2) + z_pc b (n / 2 ^ (a + 1))
    rw [z_pc_add a b (n / 2), Nat.div_div_eq_div_mul, ← Nat.pow_succ', Nat.pow_succ', Nat.mod_mul_right_div_self, Nat.mod_mul_right_mod]
    omega
theorem z_pc_4 (n : Nat) : z_pc 32 n = z_pc 8 (n % 256) + z_pc 8 (n / 256 % 256) + z_pc 8 (n / 65536 % 256) + z_pc 8 (n / 16777216 % 256) := by
  rw [show (32 : Nat) = 8 + 24 from rfl, z_pc_add 8 24, show (24 : Nat) = 8 + 16 from rfl, z_pc_add 8 16, show (16 : Nat) = 8 + 8 from rfl, z_pc_add 8 8, Nat.div_div_eq_div_mul, Nat.div_div_eq_div_mul]
  have e : z_pc 8 (n / (2 ^ 8 * 2 ^ 8 * 2 ^ 8)) = z_pc 8 (n / 16777216 % 256) := by
    rw [show (8 : Nat) = 8 + 0 from rfl, z_pc_add 8 0]
    rfl
  rw [e, ← Nat.add_assoc, ← Nat.add_assoc]
/-- the JDK's bitCount, by Nats -/
def zb_sw (n : Nat) : Nat :=
  let x1 := n - (n / 2 &&& 1431655765)
  let x2 := (x1 &&& 858993459) + (x1 / 4 &&& 858993459)
  let x3 := (x2 + x2 / 16) &&& 252645135
  let x4 := x3 + x3 / 256
  let x5 := x4 + x4 / 65536
  x5 &&& 63
theorem zb_sw_pc {n : Nat} (hn : n < 2 ^ 32) : zb_sw n = z_pc 32 n := by
  obtain ⟨a, b, c, d, ha, hb, hc, hd, rfl⟩ : ∃ a b c d, a < 256 ∧ b < 256 ∧ c < 256 ∧ d < 256 ∧ n = a + 256 * b + 65536 * c + 16777216 * d := ⟨n % 256, n / 256 % 256, n / 65536 % 256, n / 16777216, by omega, by omega, by omega, by omega, by omega⟩
  rw [z_pc_4]
  rw [show (a + 256 * b + 65536 * c + 16777216 * d) % 256 = a by omega, show (a + 256 * b + 65536 * c + 16777216 * d) / 256 % 256 = b by omega, show (a + 256 * b + 65536 * c + 16777216 * d) / 65536 % 256 = c by omega, show (a + 256 * b + 65536 * c + 16777216 * d) / 16777216 % 256 = d by omega]
  obtain ⟨a1, a2⟩ := zb_t1l a ha
  obtain ⟨b1, b2⟩ := zb_t1l b hb
  obtain ⟨c1, c2⟩ := zb_t1l c hc
  obtain ⟨d1, d2⟩ := zb_t1l d hd
  have h1 : (a + 256 * b + 65536 * c + 16777216 * d) / 2 &&& 1431655765 = (a / 2 &&& 85) + 256 * (b / 2 &&& 85) + 65536 * (c / 2 &&& 85) + 16777216 * (d / 2 &&& 85) := by
    rw [show (1431655765 : Nat) = 85 + 256 * 85 + 65536 * 85 + 16777216 * 85 from rfl, show (a + 256 * b + 65536 * c + 16777216 * d) / 2 = (a / 2 + 128 * (b % 2)) + 256 * (b / 2 + 128 * (c % 2)) + 65536 * (c / 2 + 128 * (d % 2)) + 16777216 * (d / 2) by omega]
    rw [zb_4 85 (by omega) (by omega) (by omega) (by omega), zb_t1 a ha _ (by omega), zb_t1 b hb _ (by omega), zb_t1 c hc _ (by omega)]
  have e1 : (a + 256 * b + 65536 * c + 16777216 * d) - ((a + 256 * b + 65536 * c + 16777216 * d) / 2 &&& 1431655765) = zb_f1 a + 256 * zb_f1 b + 65536 * zb_f1 c + 16777216 * zb_f1 d := by
    rw [h1]
    unfold zb_f1
    omega
  have h2 : ∀ x y z w : Nat, x < 256 → y < 256 → z < 256 → w < 256 → ((x + 256 * y + 65536 * z + 16777216 * w) &&& 858993459) + ((x + 256 * y + 65536 * z + 16777216 * w) / 4 &&& 858993459) = ((x &&& 51) + (x / 4 &&& 51)) + 256 * ((y &&& 51) + (y / 4 &&& 51)) + 65536 * ((z &&& 51) + (z / 4 &&& 51)) + 16777216 * ((w &&& 51) + (w / 4 &&& 51)) := by
    intro x y z w hx hy hz hw
    rw [show (858993459 : Nat) = 51 + 256 * 51 + 65536 * 51 + 16777216 * 51 from rfl, show (x + 256 * y + 65536 * z + 16777216 * w) / 4 = (x / 4 + 64 * (y % 4)) + 256 * (y / 4 + 64 * (z % 4)) + 65536 * (z / 4 + 64 * (w % 4)) + 16777216 * (w / 4) by omega]
    rw [zb_4 51 hx hy hz (by omega), zb_4 51 (by omega) (by omega) (by omega) (by omega), zb_t2 x hx _ (by omega), zb_t2 y hy _ (by omega), zb_t2 z hz _ (by omega)]
    omega
  have h3 : ∀ x y z w : Nat, x ≤ 68 → y ≤ 68 → z ≤ 68 → w ≤ 68 → x % 16 ≤ 4 → y % 16 ≤ 4 → z % 16 ≤ 4 → w % 16 ≤ 4 → ((x + 256 * y + 65536 * z + 16777216 * w) + (x + 256 * y + 65536 * z + 16777216 * w) / 16) &&& 252645135 = (x + x / 16) % 16 + 256 * ((y + y / 16) % 16) + 65536 * ((z + z / 16) % 16) + 16777216 * ((w + w / 16) % 16) := by
    intro x y z w hx hy hz hw kx ky kz kw
    rw [show (252645135 : Nat) = 15 + 256 * 15 + 65536 * 15 + 16777216 * 15 from rfl, show (x + 256 * y + 65536 * z + 16777216 * w) + (x + 256 * y + 65536 * z + 16777216 * w) / 16 = (x + x / 16 + 16 * (y % 16)) + 256 * (y + y / 16 + 16 * (z % 16)) + 65536 * (z + z / 16 + 16 * (w % 16)) + 16777216 * (w + w / 16) by omega]
    rw [zb_4 15 (by omega) (by omega) (by omega) (by omega), zb_t3 _ (by omega), zb_t3 _ (by omega), zb_t3 _ (by omega), zb_t3 _ (by omega)]
    omega
  obtain ⟨p1, p2⟩ := zb_t2l a ha
  obtain ⟨p3, p4⟩ := zb_t2l b hb
  obtain ⟨p5, p6⟩ := zb_t2l c hc
  obtain ⟨p7, p8⟩ := zb_t2l d hd
  obtain ⟨s1, s2⟩ := zb_t3l a ha
  obtain ⟨s3, s4⟩ := zb_t3l b hb
  obtain ⟨s5, s6⟩ := zb_t3l c hc
  obtain ⟨s7, s8⟩ := zb_t3l d hd
  have g2 := h2 _ _ _ _ a2 b2 c2 d2
  have g3 := h3 _ _ _ _ p1 p3 p5 p7 p2 p4 p6 p8
  unfold zb_f2 at g3
  unfold zb_f3 zb_f2 at s1 s2 s3 s4 s5 s6 s7 s8
  unfold zb_sw
  dsimp only
  rw [e1, g2, g3, s1, s3, s5, s7]
  rw [s1] at s2
  rw [s3] at s4
  rw [s5] at s6
  rw [s7] at s8
  generalize z_pc 8 a = A at *
  generalize z_pc 8 b = B at *
  generalize z_pc 8 c = C at *
  generalize z_pc 8 d = D at *
  clear g2 g3 h2 h3 e1 h1 s1 s3 s5 s7 p1 p2 p3 p4 p5 p6 p7 p8 a1 a2 b1 b2 c1 c2 d1 d2
  rw [show (A + 256 * B + 65536 * C + 16777216 * D) / 256 = B + 256 * C + 65536 * D by omega, show A + 256 * B + 65536 * C + 16777216 * D + (B + 256 * C + 65536 * D) = (A + B) + 256 * (B + C) + 65536 * (C + D) + 16777216 * D by omega, show ((A + B) + 256 * (B + C) + 65536 * (C + D) + 16777216 * D) / 65536 = (C + D) + 256 * D by omega]
  rw [show (63 : Nat) = 2 ^ 6 - 1 from rfl, Nat.and_two_pow_sub_one_eq_mod]
  omega
theorem c_bitCount {N : Nat} {R : Nat → Nat → Nat} {I : Nat → Nat → Int32} {n : Nat} (hn : n < 2 ^ 30) : f_J6_bitCount_0f7a4 N R (nI n) I = some (nI (z_pc 32 n), I) := by
  rw [← zb_sw_pc (by omega)]
  unfold f_J6_bitCount_0f7a4 zb_sw
  dsimp only
  have m1 : (1431655765 : Int32) = nI 1431655765 := rfl
  have m2 : (858993459 : Int32) = nI 858993459 := rfl
  have m3 : (252645135 : Int32) = nI 252645135 := rfl
  have m4 : (63 : Int32) = nI 63 := rfl
  have b1 : n / 2 &&& 1431655765 ≤ n := Nat.le_trans Nat.and_le_left (by omega)
  have s1 : sm_us (nI n) (nI 1) = nI (n / 2) := zb_us (k := 1) (by omega) (by omega)
  rw [m1, m2, m3, m4, zl_1, zl_2, zl_4, zl_8, zl_16, s1, zb_and, pk_sub b1]
  have q1 : n - (n / 2 &&& 1431655765) < 2 ^ 30 := by omega
  generalize n - (n / 2 &&& 1431655765) = x1 at *
  have s2 : sm_us (nI x1) (nI 2) = nI (x1 / 4) := zb_us (k := 2) (by omega) (by omega)
  have q2 : (x1 &&& 858993459) + (x1 / 4 &&& 858993459) < 2 ^ 31 := by
    have a1 : x1 &&& 858993459 ≤ 858993459 := Nat.and_le_right
    have a2 : x1 / 4 &&& 858993459 ≤ 858993459 := Nat.and_le_right
    omega
  rw [s2, zb_and, zb_and, nI_add]
  generalize (x1 &&& 858993459) + (x1 / 4 &&& 858993459) = x2 at *
  have s3 : sm_us (nI x2) (nI 4) = nI (x2 / 16) := zb_us (k := 4) (by omega) (by omega)
  have q3 : (x2 + x2 / 16) &&& 252645135 ≤ 252645135 := Nat.and_le_right
  rw [s3, nI_add, zb_and]
  generalize (x2 + x2 / 16) &&& 252645135 = x3 at *
  have s4 : sm_us (nI x3) (nI 8) = nI (x3 / 256) := zb_us (k := 8) (by omega) (by omega)
  rw [s4, nI_add]
  have s5 : sm_us (nI (x3 + x3 / 256)) (nI 16) = nI ((x3 + x3 / 256) / 65536) := zb_us (k := 16) (by omega) (by omega)
  rw [s5, nI_add, zb_and]
/-! the lowest bit taken away -/
theorem zb_low : ∀ (k n : Nat), 0 < n → n < 2 ^ k → (n &&& (n - 1)) < n ∧ z_pc k n = z_pc k (n &&& (n - 1)) + 1
  | 0, n, h0, h1 => by omega
  | k + 1, n, h0, h1 => by
    have d1 := Nat.div_add_mod n 2
    by_cases ho : n % 2 = 1
    · have e : n &&& (n - 1) = 2 * (n / 2) := by
        have := zb_split (k := 1) (a := 1) (c := 0) (n / 2) (n / 2) (by omega) (by omega)
        rw [Nat.and_self] at this
        rw [show n &&& (n - 1) = (2 ^ 1 * (n / 2) + 1) &&& (2 ^ 1 * (n / 2) + 0) by congr 1 <;> omega, this]
        rfl
      rw [e]
      refine ⟨by omega, ?_⟩
      unfold z_pc
      rw [show 2 * (n / 2) % 2 = 0 by omega, show 2 * (n / 2) / 2 = n / 2 by omega]
      omega
    · have hp : 0 < n / 2 := by omega
      obtain ⟨i1, i2⟩ := zb_low k (n / 2) hp (by rw [Nat.pow_succ] at h1; omega)
      have e : n &&& (n - 1) = 2 * (n / 2 &&& (n / 2 - 1)) := by
        have := zb_split (k := 1) (a := 0) (c := 1) (n / 2) (n / 2 - 1) (by omega) (by omega)
        rw [show n &&& (n - 1) = (2 ^ 1 * (n / 2) + 0) &&& (2 ^ 1 * (n / 2 - 1) + 1) by congr 1 <;> omega, this]
        rfl
      rw [e]
      refine ⟨by omega, ?_⟩
      unfold z_pc
      rw [show 2 * (n / 2 &&& (n / 2 - 1)) % 2 = 0 by omega, show 2 * (n / 2 &&& (n / 2 - 1)) / 2 = (n / 2 &&& (n / 2 - 1)) by omega, i2]
      omega
theorem z_pc_le : ∀ k n, z_pc k n ≤ k
  | 0, _ => Nat.le_refl 0
  | k + 1, n => by
    have := z_pc_le k (n / 2)
    unfold z_pc
    omega
theorem z_pc_0 : ∀ k, z_pc k 0 = 0
  | 0 => rfl
  | k + 1 => by
    unfold z_pc
    rw [z_pc_0 k]
theorem m_bitsOf_4 {N : Nat} {R : Nat → Nat → Nat} {I : Nat → Nat → Int32} (m : Nat) : ∀ (a n : Nat), a < 2 ^ 31 → z_pc 32 a < m → f_X12_bitsOf_4 N R m (nI n) (nI a) I = some (nI (n + z_pc 32 a), I) := by
  induction m with
  | zero => exact fun a n _ h => absurd h (Nat.not_lt_zero _)
  | succ m ih =>
    intro a n h1 h2
    unfold f_X12_bitsOf_4
    by_cases ha : a = 0
    · subst ha
      rw [if_pos nI_0, z_pc_0, Nat.add_zero]
    · obtain ⟨l1, l2⟩ := zb_low 32 a (by omega) (by omega)
      rw [if_neg (nI_ne0 (by omega) h1), zl_1, pk_sub (by omega), zb_and, nI_add, ih _ _ (by omega) (by omega), l2, Nat.add_assoc, Nat.add_comm 1]
theorem m_bitsOf {N : Nat} {R : Nat → Nat → Nat} {I : Nat → Nat → Int32} (hN : 5000 ≤ N) {a : Nat} (ha : a < 2 ^ 31) : f_X12_bitsOf N R (nI a) I = some (nI (z_pc 32 a), I) := by
  have h := m_bitsOf_4 (N := N) (R := R) (I := I) N a 0 ha (by have := z_pc_le 32 a; omega)
  rw [Nat.zero_add] at h
  exact h
