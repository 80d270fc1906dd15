/-! ===== PURE PART: years: drawing ===== -/
theorem zl_32767 : (32767 : Int32) = nI 32767 := rfl
theorem nI_div {a b : Nat} (ha : a < 2 ^ 31) (hb : b < 2 ^ 31) : nI a / nI b = nI (a / b) := by
  apply Int32.toInt_inj.mp
  have h2 : a / b < 2 ^ 31 := Nat.lt_of_le_of_lt (Nat.div_le_self a b) ha
  rw [Int32.toInt_div_of_ne_left _ _ (fun h => by
    have := congrArg Int32.toInt h
    rw [nI_toInt ha] at this
    have h3 : (Int32.minValue).toInt = -2147483648 := by decide
    omega), nI_toInt ha, nI_toInt hb, nI_toInt h2]
  rfl
def z_dw (x : Int32) : Nat := zX x / 65536 % 32768
theorem z_dw_lt (x : Int32) : z_dw x < 32768 := Nat.mod_lt _ (by omega)
theorem z_and15 (n : Nat) : nI n &&& nI 32767 = nI (n % 32768) := by
  rw [zb_and]
  congr 1
  rw [show (32767 : Nat) = 2 ^ 15 - 1 from rfl, Nat.and_two_pow_sub_one_eq_mod]
theorem z_dwc (x : Int32) : sm_us x (nI 16) &&& nI 32767 = nI (z_dw x) := by
  have := zb_us (n := zX x) (k := 16) (zX_lt x) (by omega)
  rw [← zX_eq x] at this
  rw [this, z_and15]
  rfl
theorem z_dwm (x : Int32) : (x >>> (nI 16 &&& 31)) &&& nI 32767 = nI (z_dw x) := by
  have e : x >>> (nI 16 &&& 31) = nI ((x.toBitVec.sshiftRight 16).toNat) := by
    apply Int32.toBitVec_inj.1
    rw [Int32.toBitVec_shiftRight]
    show x.toBitVec.sshiftRight ((nI 16 &&& 31).toBitVec.smod 32).toNat = BitVec.ofNat 32 _
    rw [zb_sl 16 (by omega)]
    apply BitVec.eq_of_toNat_eq
    rw [BitVec.toNat_ofNat, Nat.mod_eq_of_lt (BitVec.isLt _)]
  rw [e, z_and15]
  congr 1
  unfold z_dw zX
  rw [show (32768 : Nat) = 2 ^ 15 from rfl]
  apply Nat.eq_of_testBit_eq
  intro i
  rw [Nat.testBit_mod_two_pow, Nat.testBit_mod_two_pow, show (65536 : Nat) = 2 ^ 16 from rfl, Nat.testBit_div_two_pow]
  by_cases hi : i < 15
  · rw [decide_eq_true hi, Bool.true_and, Bool.true_and]
    have h1 := BitVec.getLsbD_sshiftRight x.toBitVec 16 i
    rw [if_pos (show 16 + i < 32 by omega), decide_eq_false (show ¬ 32 ≤ i by omega)] at h1
    simp only [Bool.not_false, Bool.true_and] at h1
    rw [show i + 16 = 16 + i by omega]
    exact h1
  · rw [decide_eq_false hi, Bool.false_and, Bool.false_and]
def z_nx (x : Int32) : Int32 := x * 1103515245 + 12345
theorem z_md {d m : Nat} (hd : d < 32768) (hm : m < 2 ^ 31) : nI d - nI d / nI m * nI m = nI (d % m) := by
  have h1 := Nat.div_mul_le_self d m
  have h2 := Nat.mod_add_div d m
  rw [nI_div (by omega) hm, pk_mul, pk_sub h1]
  congr 1
  rw [Nat.mul_comm] at h2
  omega
section ZC
variable {N : Nat} {R : Nat → Nat → Nat} {q : Nat} {I : Nat → Nat → Int32}
theorem c_draw {m : Nat} (h1 : 1 ≤ m) (h2 : m < 2 ^ 31) : f_X11_draw N R 0 (nI m) I = some (nI (z_dw (z_nx (I 0 15)) % m), sm_up I 0 (sm_up (I 0) 15 (z_nx (I 0 15)))) := by
  have e1 := z_dwc (z_nx (I 0 15))
  have e2 := z_md (z_dw_lt (z_nx (I 0 15))) h2
  have e3 : I 0 15 * 1103515245 + 12345 = z_nx (I 0 15) := rfl
  simp (disch := omega) only [f_X11_draw, kd_0, e3, zl_16, zl_32767, zl_0, zl_1, nI_leI, nI_eq, up_s, e1, e2, gd_t, gd_pos, lt_eq, not_false_iff, if_pos]
theorem m_draw {m : Nat} (h1 : 1 ≤ m) (h2 : m < 2 ^ 31) : f_X12_drawOf N R 80 (nI m) I = some (nI (z_dw (z_nx (I 80 49)) % m), sm_up I 80 (sm_up (I 80) 49 (z_nx (I 80 49)))) := by
  have e1 := z_dwm (z_nx (I 80 49))
  have e2 := z_md (z_dw_lt (z_nx (I 80 49))) h2
  have e3 : I 80 49 * 1103515245 + 12345 = z_nx (I 80 49) := rfl
  simp (disch := omega) only [f_X12_drawOf, kd_80, e3, zl_16, zl_32767, zl_0, nI_eq, up_s, e1, e2, gd_t, gd_pos, lt_eq, not_false_iff]
end ZC
