/-! ===== PURE PART: the class: a term ===== -/
def zCV (nu : Nat) (V : Nat → zP) (t : Nat) (I : Nat → Nat → Int32) : Prop := I t 1 = nI nu ∧ ∀ p, p < nu → zPl (V p) (I (t + 2 + p))
def z_in (pl : zP) (k : Nat) : Bool := decide (pl 4 / 2 ^ (k - 1) % 2 = 1)
def z_awi (nu : Nat) (V : Nat → zP) (k : Nat) : Nat := zbt (fun p => z_in (V p) k) nu
def z_may (nu : Nat) (V : Nat → zP) (pn : Nat) (pl : zP) (k : Nat) : Bool := !z_in pl k && decide (z_pc 32 (z_awi nu V k) < pn)
def z_fr (nu : Nat) (V : Nat → zP) (pn : Nat) (pl : zP) : Nat := zbt (fun j => z_may nu V pn pl (j + 1)) 30
def z_dn (S : zS) (pl : zP) : Bool := decide (¬ pl 3 < z_bn S (pl 2))
def z_ald (S : zS) (nu : Nat) (V : Nat → zP) : Nat := zbt (fun p => z_dn S (V p)) nu
theorem z_awi_lt (nu : Nat) (V : Nat → zP) (k : Nat) (h : nu ≤ 7) : z_awi nu V k < 128 := Nat.lt_of_lt_of_le (zbt_lt _ nu) (Nat.pow_le_pow_right (by omega) h)
theorem z_in_t {pl : zP} {k : Nat} (h : pl 4 / 2 ^ (k - 1) % 2 = 1) : z_in pl k = true := decide_eq_true h
theorem z_in_f {pl : zP} {k : Nat} (h : ¬ pl 4 / 2 ^ (k - 1) % 2 = 1) : ¬ z_in pl k = true := fun q => h (of_decide_eq_true q)
theorem z_may_f1 {nu pn k : Nat} {V : Nat → zP} {pl : zP} (h : z_in pl k = true) : ¬ z_may nu V pn pl k = true := by
  unfold z_may
  rw [h]
  simp
theorem z_may_f2 {nu pn k : Nat} {V : Nat → zP} {pl : zP} (h : ¬ z_pc 32 (z_awi nu V k) < pn) : ¬ z_may nu V pn pl k = true := by
  unfold z_may
  rw [decide_eq_false h]
  simp
theorem z_may_t {nu pn k : Nat} {V : Nat → zP} {pl : zP} (h1 : ¬ z_in pl k = true) (h : z_pc 32 (z_awi nu V k) < pn) : z_may nu V pn pl k = true := by
  unfold z_may
  rw [decide_eq_true h, Bool.eq_false_iff.mpr h1]
  rfl
section ZC
variable {N : Nat} {R : Nat → Nat → Nat} {t q k nu pn : Nat} {S : zS} {I : Nat → Nat → Int32} {V : Nat → zP} {pl : zP}
theorem c_awayIn (hN : 5000 ≤ N) (ht : tR R t) (hV : zCV nu V t I) (h7 : nu ≤ 7) (ho : ∀ p, p < nu → V p 4 < 2 ^ 30) {k : Nat} (h1 : 1 ≤ k) (h2 : k ≤ 31) : f_X10_awayIn N R t (nI k) I = some (nI (z_awi nu V k), I) := by
  obtain ⟨t0, t1, t2, t3, t4⟩ := ht
  have hn := hV.1
  exact zu_loop (fun n i a => f_X10_awayIn_4 N R n t (nI k) a (nI i) I) (fun i => nI (z_awi i V k)) (nI (z_awi nu V k), I) nu
    (fun n => by simp (disch := omega) only [f_X10_awayIn_4, t0, hn, gd_t, gd_pos, lt_eq, Option.bind_some, true_and, and_true, not_true, not_false_iff, false_or, or_false, if_true, if_false, if_pos, if_neg, nI_leI])
    (fun n i hi => by
      have e := c_isAwayIn (N := N) (R := R) (t4 i (by omega)) (hV.2 i hi) (ho i hi) h1 h2
      by_cases hc : V i 4 / 2 ^ (k - 1) % 2 = 1
      · rw [if_pos hc] at e
        have e2 : z_awi (i + 1) V k = z_awi i V k ||| 2 ^ i := zbt_t (z_in_t hc)
        simp (disch := omega) only [f_X10_awayIn_4, t0, t1, t2, t3, t4, hn, e, e2, gd_t, gd_pos, lt_eq, Option.bind_some, true_and, and_true, not_true, not_false_iff, false_or, or_false, if_true, if_false, if_pos, if_neg, zl_0, zl_1, zl_2, zl_3, zl_4, zl_5, zl_6, zl_7, zl_8, zl_9, zl_10, zl_12, zl_14, zl_16, zl_20, zl_21, zl_28, zl_30, zl_32, zl_37, zl_40, zl_60, zl_64, zl_99, zl_100, zl_680, zl_700, zl_999, zl_9999, zl_10000, zl_20000, zl_20001, zl_20002, zl_20003, zl_20004, zl_20005, zl_20006, zl_20007, zl_ofNat, nI_add, pk_mul, nI_leI, nI_ltI, nI_eq, nI_clamp, mx_nI, mn_nI, pk_sub, zz_m1, zb_shl, zb_or]
      · rw [if_neg hc] at e
        have e2 : z_awi (i + 1) V k = z_awi i V k := zbt_f (z_in_f hc)
        simp (disch := omega) only [f_X10_awayIn_4, t0, t1, t2, t3, t4, hn, e, e2, gd_t, gd_pos, lt_eq, Option.bind_some, true_and, and_true, not_true, not_false_iff, false_or, or_false, if_true, if_false, if_pos, if_neg, zl_0, zl_1, zl_2, zl_3, zl_4, zl_5, zl_6, zl_7, zl_8, zl_9, zl_10, zl_12, zl_14, zl_16, zl_20, zl_21, zl_28, zl_30, zl_32, zl_37, zl_40, zl_60, zl_64, zl_99, zl_100, zl_680, zl_700, zl_999, zl_9999, zl_10000, zl_20000, zl_20001, zl_20002, zl_20003, zl_20004, zl_20005, zl_20006, zl_20007, zl_ofNat, nI_add, pk_mul, nI_leI, nI_ltI, nI_eq, nI_clamp, mx_nI, mn_nI, pk_sub, zz_m1]) nu 0 N (by omega) (by omega)
theorem c_left (hN : 5000 ≤ N) (ht : tR R t) (hV : zCV nu V t I) (h7 : nu ≤ 7) (ho : ∀ p, p < nu → V p 4 < 2 ^ 30) (hp : I t 3 = nI pn) {k : Nat} (h1 : 1 ≤ k) (h2 : k ≤ 31) : f_X10_pianosLeftIn N R t (nI k) I = some (nI pn - nI (z_pc 32 (z_awi nu V k)), I) := by
  have e := c_awayIn hN ht hV h7 ho h1 h2
  have e2 := c_bitCount (N := N) (R := R) (I := I) (n := z_awi nu V k) (Nat.lt_of_lt_of_le (z_awi_lt nu V k h7) (by decide))
  simp (disch := omega) only [f_X10_pianosLeftIn, ht.1, e, e2, hp, gd_t, gd_pos, lt_eq, Option.bind_some, true_and, and_true, not_true, not_false_iff, false_or, or_false, if_true, if_false, if_pos, if_neg]
theorem c_could (hN : 5000 ≤ N) (ht : tR R t) (hV : zCV nu V t I) (h7 : nu ≤ 7) (ho : ∀ p, p < nu → V p 4 < 2 ^ 30) (hp : I t 3 = nI pn) (hp4 : pn ≤ 4) (hk : sm_kd k = (4, 6)) (hpl : zPl pl (I k)) (hpo : pl 4 < 2 ^ 30) {j : Nat} (h1 : 1 ≤ j) (h2 : j ≤ 30) : f_X10_couldGo N R t k (nI j) I = some ((if z_may nu V pn pl j = true then 1 else 0), I) := by
  have e := c_isAwayIn (N := N) (R := R) hk hpl hpo h1 (by omega)
  have e2 := c_left hN ht hV h7 ho hp h1 (by omega)
  have hz := z_pc_le 32 (z_awi nu V j)
  have hs := zz_sub (a := pn) (b := z_pc 32 (z_awi nu V j)) (by omega) (by omega)
  have t0 := ht.1
  by_cases hc : pl 4 / 2 ^ (j - 1) % 2 = 1
  · rw [if_pos hc] at e
    have h9 : ¬ z_may nu V pn pl j = true := z_may_f1 (z_in_t hc)
    rw [if_neg h9]
    simp (disch := omega) only [f_X10_couldGo, hk, e, gd_t, gd_pos, lt_eq, Option.bind_some, true_and, and_true, not_true, not_false_iff, false_or, or_false, if_true, if_false, if_pos, if_neg, zl_0, zl_1, zl_30, nI_ltI, nI_leI, nI_eq]
  · rw [if_neg hc] at e
    by_cases hd : z_pc 32 (z_awi nu V j) < pn
    · have h9 : z_may nu V pn pl j = true := z_may_t (z_in_f hc) hd
      rw [if_pos h9]
      simp (disch := omega) only [f_X10_couldGo, hk, t0, e, e2, gd_t, gd_pos, lt_eq, Option.bind_some, true_and, and_true, not_true, not_false_iff, false_or, or_false, if_true, if_false, if_pos, if_neg, zl_0, zl_1, zl_30, nI_ltI, nI_leI, nI_eq, zle_l, hs]
    · have h9 : ¬ z_may nu V pn pl j = true := z_may_f2 hd
      rw [if_neg h9]
      simp (disch := omega) only [f_X10_couldGo, hk, t0, e, e2, gd_t, gd_pos, lt_eq, Option.bind_some, true_and, and_true, not_true, not_false_iff, false_or, or_false, if_true, if_false, if_pos, if_neg, zl_0, zl_1, zl_30, nI_ltI, nI_leI, nI_eq, zle_l, hs]
theorem c_could_out {x : Int32} (h : x.toInt < (1 : Nat) ∨ ((30 : Nat) : Int) < x.toInt) : f_X10_couldGo N R t k x I = some (0, I) := by
  by_cases h1 : x.toInt < (1 : Nat)
  · simp (disch := omega) only [f_X10_couldGo, zl_0, zl_1, zl_30, zlt_l, zlt_r, gd_t, gd_pos, lt_eq, Option.bind_some, true_and, and_true, not_true, not_false_iff, false_or, or_false, if_true, if_false, if_pos, if_neg]
  · simp (disch := omega) only [f_X10_couldGo, zl_0, zl_1, zl_30, zlt_l, zlt_r, gd_t, gd_pos, lt_eq, Option.bind_some, true_and, and_true, not_true, not_false_iff, false_or, or_false, if_true, if_false, if_pos, if_neg]
theorem c_openTo (hN : 5000 ≤ N) (ht : tR R t) (hV : zCV nu V t I) (h7 : nu ≤ 7) (ho : ∀ p, p < nu → V p 4 < 2 ^ 30) (hp : I t 3 = nI pn) (hp4 : pn ≤ 4) (hk : sm_kd k = (4, 6)) (hpl : zPl pl (I k)) (hpo : pl 4 < 2 ^ 30) : f_X10_openTo N R t k I = some (nI (z_fr nu V pn pl), I) := by
  have t0 := ht.1
  exact zu_loop (fun n i a => f_X10_openTo_4 N R n t k a (nI (i + 1)) I) (fun i => nI (zbt (fun j => z_may nu V pn pl (j + 1)) i)) (nI (z_fr nu V pn pl), I) 30
    (fun n => by simp (disch := omega) only [f_X10_openTo_4, t0, gd_t, gd_pos, lt_eq, Option.bind_some, true_and, and_true, not_true, not_false_iff, false_or, or_false, if_true, if_false, if_pos, if_neg, zl_30, nI_ltI, z_fr])
    (fun n i hi => by
      have e := c_could hN ht hV h7 ho hp hp4 hk hpl hpo (j := i + 1) (by omega) (by omega)
      by_cases hc : z_may nu V pn pl (i + 1) = true
      · rw [if_pos hc] at e
        have e2 : zbt (fun j => z_may nu V pn pl (j + 1)) (i + 1) = zbt (fun j => z_may nu V pn pl (j + 1)) i ||| 2 ^ i := zbt_t hc
        simp (disch := omega) only [f_X10_openTo_4, t0, e, e2, gd_t, gd_pos, lt_eq, Option.bind_some, true_and, and_true, not_true, not_false_iff, false_or, or_false, if_true, if_false, if_pos, if_neg, zl_0, zl_1, zl_2, zl_3, zl_4, zl_5, zl_6, zl_7, zl_8, zl_9, zl_10, zl_12, zl_14, zl_16, zl_20, zl_21, zl_28, zl_30, zl_32, zl_37, zl_40, zl_60, zl_64, zl_99, zl_100, zl_680, zl_700, zl_999, zl_9999, zl_10000, zl_20000, zl_20001, zl_20002, zl_20003, zl_20004, zl_20005, zl_20006, zl_20007, zl_ofNat, nI_add, pk_mul, nI_leI, nI_ltI, nI_eq, nI_clamp, mx_nI, mn_nI, pk_sub, zz_m1, Nat.add_sub_cancel, zb_shl, zb_or]
      · rw [if_neg hc] at e
        have e2 : zbt (fun j => z_may nu V pn pl (j + 1)) (i + 1) = zbt (fun j => z_may nu V pn pl (j + 1)) i := zbt_f hc
        simp (disch := omega) only [f_X10_openTo_4, t0, e, e2, gd_t, gd_pos, lt_eq, Option.bind_some, true_and, and_true, not_true, not_false_iff, false_or, or_false, if_true, if_false, if_pos, if_neg, zl_0, zl_1, zl_2, zl_3, zl_4, zl_5, zl_6, zl_7, zl_8, zl_9, zl_10, zl_12, zl_14, zl_16, zl_20, zl_21, zl_28, zl_30, zl_32, zl_37, zl_40, zl_60, zl_64, zl_99, zl_100, zl_680, zl_700, zl_999, zl_9999, zl_10000, zl_20000, zl_20001, zl_20002, zl_20003, zl_20004, zl_20005, zl_20006, zl_20007, zl_ofNat, nI_add, pk_mul, nI_leI, nI_ltI, nI_eq, nI_clamp, mx_nI, mn_nI, pk_sub, zz_m1]) 30 0 N (by omega) (by omega)
theorem c_skillOfAll (hN : 5000 ≤ N) (ht : tR R t) (hV : zCV nu V t I) (h7 : nu ≤ 7) : f_X10_skillOfAll N R t I = some (nI (zsm (fun p => V p 0) nu), I) := by
  obtain ⟨t0, t1, t2, t3, t4⟩ := ht
  have hn := hV.1
  exact zu_loop (fun n i a => f_X10_skillOfAll_4 N R n t a (nI i) I) (fun i => nI (zsm (fun p => V p 0) i)) (nI (zsm (fun p => V p 0) nu), I) nu
    (fun n => by simp (disch := omega) only [f_X10_skillOfAll_4, t0, hn, gd_t, gd_pos, lt_eq, Option.bind_some, true_and, and_true, not_true, not_false_iff, false_or, or_false, if_true, if_false, if_pos, if_neg, nI_leI])
    (fun n i hi => by
      have e := hV.2 i hi 0 (by omega)
      have e2 : zsm (fun p => V p 0) (i + 1) = zsm (fun p => V p 0) i + V i 0 := rfl
      simp (disch := omega) only [f_X10_skillOfAll_4, t0, t1, t2, t3, t4, hn, e, e2, gd_t, gd_pos, lt_eq, Option.bind_some, true_and, and_true, not_true, not_false_iff, false_or, or_false, if_true, if_false, if_pos, if_neg, zl_0, zl_1, zl_2, zl_3, zl_4, zl_5, zl_6, zl_7, zl_8, zl_9, zl_10, zl_12, zl_14, zl_16, zl_20, zl_21, zl_28, zl_30, zl_32, zl_37, zl_40, zl_60, zl_64, zl_99, zl_100, zl_680, zl_700, zl_999, zl_9999, zl_10000, zl_20000, zl_20001, zl_20002, zl_20003, zl_20004, zl_20005, zl_20006, zl_20007, zl_ofNat, nI_add, pk_mul, nI_leI, nI_ltI, nI_eq, nI_clamp, mx_nI, mn_nI, pk_sub, zz_m1]) nu 0 N (by omega) (by omega)
theorem c_barsOfAll (hN : 5000 ≤ N) (ht : tR R t) (hV : zCV nu V t I) (h7 : nu ≤ 7) : f_X10_barsOfAll N R t I = some (nI (zsm (fun p => V p 3) nu), I) := by
  obtain ⟨t0, t1, t2, t3, t4⟩ := ht
  have hn := hV.1
  exact zu_loop (fun n i a => f_X10_barsOfAll_4 N R n t a (nI i) I) (fun i => nI (zsm (fun p => V p 3) i)) (nI (zsm (fun p => V p 3) nu), I) nu
    (fun n => by simp (disch := omega) only [f_X10_barsOfAll_4, t0, hn, gd_t, gd_pos, lt_eq, Option.bind_some, true_and, and_true, not_true, not_false_iff, false_or, or_false, if_true, if_false, if_pos, if_neg, nI_leI])
    (fun n i hi => by
      have e := hV.2 i hi 3 (by omega)
      have e2 : zsm (fun p => V p 3) (i + 1) = zsm (fun p => V p 3) i + V i 3 := rfl
      simp (disch := omega) only [f_X10_barsOfAll_4, t0, t1, t2, t3, t4, hn, e, e2, gd_t, gd_pos, lt_eq, Option.bind_some, true_and, and_true, not_true, not_false_iff, false_or, or_false, if_true, if_false, if_pos, if_neg, zl_0, zl_1, zl_2, zl_3, zl_4, zl_5, zl_6, zl_7, zl_8, zl_9, zl_10, zl_12, zl_14, zl_16, zl_20, zl_21, zl_28, zl_30, zl_32, zl_37, zl_40, zl_60, zl_64, zl_99, zl_100, zl_680, zl_700, zl_999, zl_9999, zl_10000, zl_20000, zl_20001, zl_20002, zl_20003, zl_20004, zl_20005, zl_20006, zl_20007, zl_ofNat, nI_add, pk_mul, nI_leI, nI_ltI, nI_eq, nI_clamp, mx_nI, mn_nI, pk_sub, zz_m1]) nu 0 N (by omega) (by omega)
/-! at the object -/
theorem c_whoseDone (hN : 5000 ≤ N) (hR : sR R q) (hso : z_sok S) (hS : zCS S q I) (hV : zCV nu V (q + 7) I) (h7 : nu ≤ 7) (ho : ∀ p, p < nu → z_pok S (V p)) : f_X11_whoseIsDone N R 0 I = some (nI (z_ald S nu V), I) := by
  have hq3 := hR.2.2.1
  have hq := hR.q
  obtain ⟨⟨k0, k1, k2, k3, k4, k5, k6, k16, k17, k18⟩, ⟨r0, r1, r2, r4, r5, r6, r7, r8, s0, s3⟩, ht⟩ := id hq
  obtain ⟨t0, t1, t2, t3, t4⟩ := ht
  have hn := hV.1
  exact zu_loop (fun n i a => f_X11_whoseIsDone_4 N R n 0 a (nI i) I) (fun i => nI (z_ald S i V)) (nI (z_ald S nu V), I) nu
    (fun n => by simp (disch := omega) only [f_X11_whoseIsDone_4, kd_0, hq3, k0, r5, t0, hn, gd_t, gd_pos, lt_eq, Option.bind_some, true_and, and_true, not_true, not_false_iff, false_or, or_false, if_true, if_false, if_pos, if_neg, nI_leI])
    (fun n i hi => by
      have e := c_isDone (N := N) hq hso hS (t4 i (by omega)) (hV.2 i hi) (ho i hi)
      by_cases hc : V i 3 < z_bn S (V i 2)
      · rw [if_pos hc] at e
        have e2 : z_ald S (i + 1) V = z_ald S i V := zbt_f (fun h => of_decide_eq_true h hc)
        simp (disch := omega) only [f_X11_whoseIsDone_4, kd_0, hq3, k0, r5, t0, t1, t2, t3, t4, hn, e, e2, gd_t, gd_pos, lt_eq, Option.bind_some, true_and, and_true, not_true, not_false_iff, false_or, or_false, if_true, if_false, if_pos, if_neg, zl_0, zl_1, zl_2, zl_3, zl_4, zl_5, zl_6, zl_7, zl_8, zl_9, zl_10, zl_12, zl_14, zl_16, zl_20, zl_21, zl_28, zl_30, zl_32, zl_37, zl_40, zl_60, zl_64, zl_99, zl_100, zl_680, zl_700, zl_999, zl_9999, zl_10000, zl_20000, zl_20001, zl_20002, zl_20003, zl_20004, zl_20005, zl_20006, zl_20007, zl_ofNat, nI_add, pk_mul, nI_leI, nI_ltI, nI_eq, nI_clamp, mx_nI, mn_nI, pk_sub, zz_m1]
      · rw [if_neg hc] at e
        have e2 : z_ald S (i + 1) V = z_ald S i V ||| 2 ^ i := zbt_t (decide_eq_true hc)
        simp (disch := omega) only [f_X11_whoseIsDone_4, kd_0, hq3, k0, r5, t0, t1, t2, t3, t4, hn, e, e2, gd_t, gd_pos, lt_eq, Option.bind_some, true_and, and_true, not_true, not_false_iff, false_or, or_false, if_true, if_false, if_pos, if_neg, zl_0, zl_1, zl_2, zl_3, zl_4, zl_5, zl_6, zl_7, zl_8, zl_9, zl_10, zl_12, zl_14, zl_16, zl_20, zl_21, zl_28, zl_30, zl_32, zl_37, zl_40, zl_60, zl_64, zl_99, zl_100, zl_680, zl_700, zl_999, zl_9999, zl_10000, zl_20000, zl_20001, zl_20002, zl_20003, zl_20004, zl_20005, zl_20006, zl_20007, zl_ofNat, nI_add, pk_mul, nI_leI, nI_ltI, nI_eq, nI_clamp, mx_nI, mn_nI, pk_sub, zz_m1, zb_shl, zb_or]) nu 0 N (by omega) (by omega)
theorem c_pupil_in (hR : sR R q) (hV : zCV nu V (q + 7) I) (h7 : nu ≤ 7) {p : Nat} (hp : p < nu) : f_X11_needPupil N R 0 (nI p) I = some (.inl (q + 9 + p), I) := by
  have hq3 := hR.2.2.1
  have hq := hR.q
  obtain ⟨⟨k0, k1, k2, k3, k4, k5, k6, k16, k17, k18⟩, ⟨r0, r1, r2, r4, r5, r6, r7, r8, s0, s3⟩, ht⟩ := id hq
  obtain ⟨t0, t1, t2, t3, t4⟩ := ht
  have hn := hV.1
  have e : q + 7 + 2 + p = q + 9 + p := by omega
  simp (disch := omega) only [f_X11_needPupil, kd_0, hq3, k0, r5, t0, t1, t2, t3, hn, gd_t, gd_pos, lt_eq, Option.bind_some, true_and, and_true, not_true, not_false_iff, false_or, or_false, if_true, if_false, if_pos, if_neg, zl_0, zl_1, zl_2, zl_3, zl_4, zl_5, zl_6, zl_7, zl_8, zl_9, zl_10, zl_12, zl_14, zl_16, zl_20, zl_21, zl_28, zl_30, zl_32, zl_37, zl_40, zl_60, zl_64, zl_99, zl_100, zl_680, zl_700, zl_999, zl_9999, zl_10000, zl_20000, zl_20001, zl_20002, zl_20003, zl_20004, zl_20005, zl_20006, zl_20007, zl_ofNat, nI_add, pk_mul, nI_leI, nI_ltI, nI_eq, nI_clamp, mx_nI, mn_nI, pk_sub, zz_m1, e]
theorem c_pupil_out (hR : sR R q) (hV : zCV nu V (q + 7) I) (h7 : nu ≤ 7) {x : Int32} (hx : x.toInt < 0 ∨ (nu : Int) ≤ x.toInt) : f_X11_needPupil N R 0 x I = some (.inr "java/util/NoSuchElementException", I) := by
  have hq3 := hR.2.2.1
  have hq := hR.q
  obtain ⟨⟨k0, k1, k2, k3, k4, k5, k6, k16, k17, k18⟩, ⟨r0, r1, r2, r4, r5, r6, r7, r8, s0, s3⟩, ht⟩ := id hq
  obtain ⟨t0, t1, t2, t3, t4⟩ := ht
  have hn := hV.1
  by_cases h1 : x.toInt < 0
  · simp (disch := omega) only [f_X11_needPupil, zl_0, zlt_l, gd_t, gd_pos, lt_eq, Option.bind_some, true_and, and_true, not_true, not_false_iff, false_or, or_false, if_true, if_false, if_pos, if_neg]
  · simp (disch := omega) only [f_X11_needPupil, kd_0, hq3, k0, r5, t0, t1, t2, t3, hn, zl_0, zlt_l, gd_t, gd_pos, lt_eq, Option.bind_some, true_and, and_true, not_true, not_false_iff, false_or, or_false, if_true, if_false, if_pos, if_neg]
theorem c_piece_in (hR : sR R q) (hso : z_sok S) (hS : zCS S q I) {w : Nat} (hw : w < z_np S) : f_X11_needPiece N R 0 (nI w) I = some (.inl (), I) := by
  have hq3 := hR.2.2.1
  have k0 := hR.q.1.1
  have c1 := hS.1
  have h6 := hso.1
  simp (disch := omega) only [f_X11_needPiece, kd_0, hq3, k0, c1, gd_t, gd_pos, lt_eq, Option.bind_some, true_and, and_true, not_true, not_false_iff, false_or, or_false, if_true, if_false, if_pos, if_neg, zl_0, zl_1, zl_2, zl_3, zl_4, zl_5, zl_6, zl_7, zl_8, zl_9, zl_10, zl_12, zl_14, zl_16, zl_20, zl_21, zl_28, zl_30, zl_32, zl_37, zl_40, zl_60, zl_64, zl_99, zl_100, zl_680, zl_700, zl_999, zl_9999, zl_10000, zl_20000, zl_20001, zl_20002, zl_20003, zl_20004, zl_20005, zl_20006, zl_20007, zl_ofNat, nI_add, pk_mul, nI_leI, nI_ltI, nI_eq, nI_clamp, mx_nI, mn_nI, pk_sub, zz_m1]
theorem c_piece_out (hR : sR R q) (hso : z_sok S) (hS : zCS S q I) {x : Int32} (hx : x.toInt < 0 ∨ (z_np S : Int) ≤ x.toInt) : f_X11_needPiece N R 0 x I = some (.inr "java/util/NoSuchElementException", I) := by
  have hq3 := hR.2.2.1
  have k0 := hR.q.1.1
  have c1 := hS.1
  have h6 := hso.1
  by_cases h1 : x.toInt < 0
  · simp (disch := omega) only [f_X11_needPiece, zl_0, zlt_l, gd_t, gd_pos, lt_eq, Option.bind_some, true_and, and_true, not_true, not_false_iff, false_or, or_false, if_true, if_false, if_pos, if_neg]
  · simp (disch := omega) only [f_X11_needPiece, kd_0, hq3, k0, c1, zl_0, zlt_l, gd_t, gd_pos, lt_eq, Option.bind_some, true_and, and_true, not_true, not_false_iff, false_or, or_false, if_true, if_false, if_pos, if_neg]
theorem c_what_in {k m : Nat} (hm : m < 2 ^ 30) (h : k ≤ m) : f_X11_needWhat N R (nI k) (nI m) I = some (.inl (), I) := by
  simp (disch := omega) only [f_X11_needWhat, zl_0, nI_ltI, nI_leI, gd_t, gd_pos, lt_eq, Option.bind_some, true_and, and_true, not_true, not_false_iff, false_or, or_false, if_true, if_false, if_pos, if_neg]
theorem c_what_out {x : Int32} {m : Nat} (hm : m < 2 ^ 30) (h : x.toInt < 0 ∨ (m : Int) < x.toInt) : f_X11_needWhat N R x (nI m) I = some (.inr "java/util/NoSuchElementException", I) := by
  by_cases h1 : x.toInt < 0
  · simp (disch := omega) only [f_X11_needWhat, zl_0, zlt_l, gd_t, gd_pos, lt_eq, Option.bind_some, true_and, and_true, not_true, not_false_iff, false_or, or_false, if_true, if_false, if_pos, if_neg]
  · simp (disch := omega) only [f_X11_needWhat, zl_0, zlt_l, zle_l, gd_t, gd_pos, lt_eq, Option.bind_some, true_and, and_true, not_true, not_false_iff, false_or, or_false, if_true, if_false, if_pos, if_neg]
theorem c_betw_in {k a m : Nat} (hm : m < 2 ^ 30) (h1 : a ≤ k) (h : k ≤ m) : f_X11_needBetween N R (nI k) (nI a) (nI m) I = some (.inl (), I) := by
  simp (disch := omega) only [f_X11_needBetween, nI_ltI, nI_leI, gd_t, gd_pos, lt_eq, Option.bind_some, true_and, and_true, not_true, not_false_iff, false_or, or_false, if_true, if_false, if_pos, if_neg]
theorem c_betw_out {x : Int32} {a m : Nat} (hm : m < 2 ^ 30) (ha : a ≤ m) (h : x.toInt < a ∨ (m : Int) < x.toInt) : f_X11_needBetween N R x (nI a) (nI m) I = some (.inr "java/lang/IllegalArgumentException", I) := by
  by_cases h1 : x.toInt < a
  · simp (disch := omega) only [f_X11_needBetween, zlt_l, gd_t, gd_pos, lt_eq, Option.bind_some, true_and, and_true, not_true, not_false_iff, false_or, or_false, if_true, if_false, if_pos, if_neg]
  · simp (disch := omega) only [f_X11_needBetween, zlt_l, zle_l, gd_t, gd_pos, lt_eq, Option.bind_some, true_and, and_true, not_true, not_false_iff, false_or, or_false, if_true, if_false, if_pos, if_neg]
theorem c_refuse (hR : sR R q) {j : Nat} (hj : j < 3) : f_X11_refuse N R 0 (nI j) I = some (-1, sm_up I 47 (sm_up (I 47) j (I 47 j + 1))) := by
  simp (disch := omega) only [f_X11_refuse, kd_0, r0_6 hR, kd_47, zl_0, nI_ltI, nI_leI, nI_clamp, gd_t, gd_pos, lt_eq, Option.bind_some, true_and, and_true, not_true, not_false_iff, false_or, or_false, if_true, if_false, if_pos, if_neg]
/-! pieces -/
/-- how many bars fit, from b on -/
def z_ft (S : zS) (w s : Nat) : Nat → Nat → Nat
  | 0, b => b
  | d + 1, b => if z_hd S w b ≤ s then z_ft S w s d (b + 1) else b
theorem c_fit (hN : 5000 ≤ N) (hq : qR R q) (hso : z_sok S) (hS : zCS S q I) {w s : Nat} (hw : w < z_np S) (hs : s ≤ 99) : f_X7_barsThatFit N R q (nI s) (nI w) I = some (nI (z_ft S w s (z_bn S w) 0), I) := by
  have k0 := hq.1.1
  have hb := c_barsOf (N := N) hq hso hS hw
  have h8 := (hso.2.1 _ hw).2.1
  have key : ∀ d b n, b + d = z_bn S w → d < n → f_X7_barsThatFit_2 N R n q (nI s) (nI w) (nI b) I = some (nI (z_ft S w s d b), I) := by
    intro d
    induction d with
    | zero =>
      intro b n h1 h2
      obtain ⟨n, rfl⟩ : ∃ m, n = m + 1 := ⟨n - 1, by omega⟩
      simp (disch := omega) only [f_X7_barsThatFit_2, k0, hb, gd_t, gd_pos, lt_eq, Option.bind_some, true_and, and_true, not_true, not_false_iff, false_or, or_false, if_true, if_false, if_pos, if_neg, nI_leI, z_ft]
    | succ d ih =>
      intro b n h1 h2
      obtain ⟨n, rfl⟩ : ∃ m, n = m + 1 := ⟨n - 1, by omega⟩
      have e := c_hardOf (N := N) hq hso hS hw (i := b) (by omega)
      rw [if_pos (by omega)] at e
      have h99 := (hso.2.1 _ hw).2.2.2 b (by omega)
      by_cases hc : z_hd S w b ≤ s
      · have e3 := ih (b + 1) n (by omega) (by omega)
        simp (disch := omega) only [f_X7_barsThatFit_2, k0, hb, e, e3, gd_t, gd_pos, lt_eq, Option.bind_some, true_and, and_true, not_true, not_false_iff, false_or, or_false, if_true, if_false, if_pos, if_neg, zl_0, zl_1, zl_2, zl_3, zl_4, zl_5, zl_6, zl_7, zl_8, zl_9, zl_10, zl_12, zl_14, zl_16, zl_20, zl_21, zl_28, zl_30, zl_32, zl_37, zl_40, zl_60, zl_64, zl_99, zl_100, zl_680, zl_700, zl_999, zl_9999, zl_10000, zl_20000, zl_20001, zl_20002, zl_20003, zl_20004, zl_20005, zl_20006, zl_20007, zl_ofNat, nI_add, pk_mul, nI_leI, nI_ltI, nI_eq, nI_clamp, mx_nI, mn_nI, pk_sub, zz_m1, z_ft]
      · simp (disch := omega) only [f_X7_barsThatFit_2, k0, hb, e, gd_t, gd_pos, lt_eq, Option.bind_some, true_and, and_true, not_true, not_false_iff, false_or, or_false, if_true, if_false, if_pos, if_neg, zl_0, zl_1, zl_2, zl_3, zl_4, zl_5, zl_6, zl_7, zl_8, zl_9, zl_10, zl_12, zl_14, zl_16, zl_20, zl_21, zl_28, zl_30, zl_32, zl_37, zl_40, zl_60, zl_64, zl_99, zl_100, zl_680, zl_700, zl_999, zl_9999, zl_10000, zl_20000, zl_20001, zl_20002, zl_20003, zl_20004, zl_20005, zl_20006, zl_20007, zl_ofNat, nI_add, pk_mul, nI_leI, nI_ltI, nI_eq, nI_clamp, mx_nI, mn_nI, pk_sub, zz_m1, z_ft]
  exact key (z_bn S w) 0 N (by omega) (by omega)
/-- the most by which a bar is harder than the one ahead -/
def z_step (S : zS) (w : Nat) : Nat → Int32
  | 0 => nI 0
  | n + 1 => sm_mx (z_step S w n) (nI (z_hd S w (n + 1)) - nI (z_hd S w n))
theorem c_steps (hN : 5000 ≤ N) (hq : qR R q) (hso : z_sok S) (hS : zCS S q I) {w : Nat} (hw : w < z_np S) : f_X7_steps N R q (nI w) I = some (z_step S w (z_bn S w - 1), I) := by
  have k0 := hq.1.1
  have hb := c_barsOf (N := N) hq hso hS hw
  have h8 := (hso.2.1 _ hw).2.1
  have h1 := (hso.2.1 _ hw).1
  exact zu_loop (fun n i a => f_X7_steps_4 N R n q (nI w) a (nI (i + 1)) I) (fun i => z_step S w i) (z_step S w (z_bn S w - 1), I) (z_bn S w - 1)
    (fun n => by
      rw [show z_bn S w - 1 + 1 = z_bn S w by omega]
      simp (disch := omega) only [f_X7_steps_4, k0, hb, gd_t, gd_pos, lt_eq, Option.bind_some, true_and, and_true, not_true, not_false_iff, false_or, or_false, if_true, if_false, if_pos, if_neg, nI_leI])
    (fun n i hi => by
      have e := c_hardOf (N := N) hq hso hS hw (i := i + 1) (by omega)
      have e1 := c_hardOf (N := N) hq hso hS hw (i := i) (by omega)
      rw [if_pos (by omega)] at e e1
      have e2 : z_step S w (i + 1) = sm_mx (z_step S w i) (nI (z_hd S w (i + 1)) - nI (z_hd S w i)) := rfl
      simp (disch := omega) only [f_X7_steps_4, k0, hb, e, zl_1, pk_sub, Nat.add_sub_cancel, e1, e2, gd_t, gd_pos, lt_eq, Option.bind_some, true_and, and_true, not_true, not_false_iff, false_or, or_false, if_true, if_false, if_pos, if_neg, nI_leI, nI_add]) (z_bn S w - 1) 0 N (by omega) (by omega)
end ZC
