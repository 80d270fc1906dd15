/-! ===== PURE PART: been: the class's search ===== -/
def zLk (q : Nat) : List Nat := [69, 70, 71, q + 6, q + 16]
section ZC
variable {N : Nat} {R : Nat → Nat → Nat} {q nu ns : Nat} {S : zS} {sn : Nat → Nat × Nat × Nat} {I : Nat → Nat → Int32} {V : Nat → zP}
theorem zLk_S (hR : sR R q) {J : Nat → Nat → Int32} (h : zCS S q I) (hJ : zfr (zLk q) I J) : zCS S q J := zCS_fr h (fun c h1 h2 => hJ c (by have := sR_q hR; unfold zLk; simp; omega))
theorem zLk_V (hR : sR R q) {J : Nat → Nat → Int32} (hJ : zfr (zLk q) I J) (h7 : nu ≤ 7) (h : zCV nu V (q + 7) I) : zCV nu V (q + 7) J := zCV_fr h h7 (fun c hc => hJ c (by have := sR_q hR; unfold zLk; simp; omega))
theorem zLk_N (hR : sR R q) {J : Nat → Nat → Int32} (hJ : zfr (zLk q) I J) (h : zCN ns sn 43 I) : zCN ns sn 43 J := zCN_fr h (fun c h1 h2 => hJ c (by have := sR_q hR; unfold zLk; simp; omega))
theorem zLk_m {J K : Nat → Nat → Int32} (hJ : zfr [71, q + 6, q + 16] J K) : zfr (zLk q) J K := zfr_mono hJ (fun x hx => by
  unfold zLk
  simp only [List.mem_cons, List.not_mem_nil, or_false] at hx ⊢
  omega)
theorem c_look1 (hN : 5000 ≤ N) (hR : sR R q) (hso : z_sok S) (hS : zCS S q I) (hV : zCV nu V (q + 7) I) (hn : zCN ns sn 43 I) (hk : zNok nu ns sn) (h7 : nu ≤ 7) (hpo : ∀ p, p < nu → z_pok S (V p)) : ∃ J, f_X8_look N R 69 q 43 I = f_X8_look_57 N R N 69 q 43 (nI 0) J ∧ J 69 1 = nI nu ∧ J 69 2 = nI (zbt (z_wr S ns sn V) nu) ∧ zfr (zLk q) I J := by
  have hq9 := sR_q hR
  have hv1 := hV.1
  obtain ⟨I0, hI0⟩ : ∃ J, J = sm_up I 69 (sm_up (sm_up (I 69) 1 (nI nu)) 2 (nI 0)) := ⟨_, rfl⟩
  have f0 : zfr (zLk q) I I0 := by rw [hI0]; exact zfr_up (zfr_refl _ _) (by unfold zLk; simp) _
  have L := zk_loop (fun n i s => f_X8_look_18 N R n 69 q 43 (nI i) s) (fun s => f_X8_look_57 N R N 69 q 43 (nI 0) s) (fun i s => s 69 1 = nI nu ∧ s 69 2 = nI (zbt (z_wr S ns sn V) i) ∧ zfr (zLk q) I s) nu
    (fun n s hs => by
      have h1 := hs.1
      simp (disch := omega) only [f_X8_look_18, kd_69, h1, zl_0, nI_leI, gd_t, gd_pos, if_pos])
    (fun n i s hi hs => by
      obtain ⟨h1, h2, h3⟩ := hs
      obtain ⟨J, j1, j2⟩ := c_agree hN hR hso (zLk_S hR hS h3) hk h7 (zLk_N hR h3 hn) hi ((zLk_V hR h3 h7 hV).2 i hi) (hpo i hi) (w := 0) (by omega)
      rw [z_ga_0] at j1
      have g69 : J 69 = s 69 := j2 69 (by simp; omega)
      have j3 := zfr_trans h3 (zLk_m j2)
      have k1 : J 69 1 = nI nu := by rw [g69]; exact h1
      have k2 : J 69 2 = nI (zbt (z_wr S ns sn V) i) := by rw [g69]; exact h2
      have hb : zbt (z_wr S ns sn V) i < 2 ^ i := zbt_lt _ i
      by_cases hc : z_agr S ns sn i (V i) = none
      · rw [if_pos hc] at j1
        have e8 : zbt (z_wr S ns sn V) (i + 1) = zbt (z_wr S ns sn V) i := zbt_f (fun h => of_decide_eq_true h hc)
        refine ⟨J, ?_, k1, by rw [e8]; exact k2, j3⟩
        simp (disch := omega) only [f_X8_look_18, kd_69, h1, j1, zl_0, zl_1, nI_leI, nI_eq, nI_add, gd_t, gd_pos, Option.bind_some, if_neg]
      · rw [if_neg hc] at j1
        have e8 : zbt (z_wr S ns sn V) (i + 1) = zbt (z_wr S ns sn V) i ||| 2 ^ i := zbt_t (decide_eq_true hc)
        refine ⟨sm_up J 69 (sm_up (J 69) 2 (nI (zbt (z_wr S ns sn V) (i + 1)))), ?_, by rw [up_s, up_n _ _ (by omega)]; exact k1, by rw [up_s, up_s], zfr_up j3 (by unfold zLk; simp) _⟩
        rw [e8]
        simp (disch := omega) only [f_X8_look_18, kd_69, h1, j1, k2, zb_shl, zb_or, zl_0, zl_1, nI_leI, nI_eq, nI_add, gd_t, gd_pos, lt_eq, Option.bind_some, if_neg, if_true]) nu 0 I0 N (by omega) (by omega) ⟨by rw [hI0, up_s, up_n _ _ (by omega), up_s], by rw [hI0, up_s, up_s]; rfl, f0⟩
  obtain ⟨J, l1, l2, l3, l4⟩ := L
  refine ⟨J, Eq.trans ?_ l1, l2, l3, l4⟩
  rw [hI0]
  simp (disch := omega) only [f_X8_look, kd_69, q_k0 hR, q_r5 hR, q_t0 hR, hv1, zl_0, up_s, up_n, up_uu, gd_t, gd_pos, lt_eq]
theorem c_look (hN : 5000 ≤ N) (hR : sR R q) (hso : z_sok S) (hS : zCS S q I) (hV : zCV nu V (q + 7) I) (hn : zCN ns sn 43 I) (hk : zNok nu ns sn) (h7 : nu ≤ 7) (hpo : ∀ p, p < nu → z_pok S (V p)) : ∃ J, f_X8_look N R 69 q 43 I = some ((), J) ∧ J 69 1 = nI nu ∧ J 69 2 = nI (zbt (z_wr S ns sn V) nu) ∧ (∀ p, p < nu → J 70 p = nI (zbt (z_fit S ns sn V p) 20)) ∧ zfr (zLk q) I J := by
  have hq9 := sR_q hR
  obtain ⟨J0, a1, a2, a3, a4⟩ := c_look1 (N := N) hN hR hso hS hV hn hk h7 hpo
  have L := zm_loop (fun n i s => f_X8_look_57 N R n 69 q 43 (nI i) s) (fun i s => s 69 1 = nI nu ∧ s 69 2 = nI (zbt (z_wr S ns sn V) nu) ∧ (∀ p, p < i → s 70 p = nI (zbt (z_fit S ns sn V p) 20)) ∧ zfr (zLk q) I s) (fun y => y.1 = () ∧ y.2 69 1 = nI nu ∧ y.2 69 2 = nI (zbt (z_wr S ns sn V) nu) ∧ (∀ p, p < nu → y.2 70 p = nI (zbt (z_fit S ns sn V p) 20)) ∧ zfr (zLk q) I y.2) nu
    (fun n s hs => by
      have h1 := hs.1
      exact ⟨((), s), by simp (disch := omega) only [f_X8_look_57, kd_69, h1, nI_leI, gd_t, gd_pos, if_pos], rfl, hs⟩)
    (fun n i s hi hs => by
      obtain ⟨h1, h2, h3, h4⟩ := hs
      have hm := z_clr2 (z_wr S ns sn V) (l := i) (n := nu) (by omega)
      have hlt := zbt_lt (fun j => z_wr S ns sn V j && !decide (j = i)) nu
      have hl2 : 2 ^ nu ≤ 2 ^ 7 := Nat.pow_le_pow_right (by omega) h7
      by_cases hc : zbt (fun j => z_wr S ns sn V j && !decide (j = i)) nu = 0
      · have hr : ∀ p', p' < nu → p' ≠ i → ¬ z_wr S ns sn V p' = true := fun p' h5 h6 h7' => by
          have := zbt_0.mp hc p' h5
          rw [h7', decide_eq_false h6] at this
          exact this rfl
        obtain ⟨J, j1, j2⟩ := c_wta hN hR hso (zLk_S hR hS h4) hk h7 (zLk_N hR h4 hn) hi ((zLk_V hR h4 h7 hV).2 i hi) (hpo i hi)
        rw [zbt_cong (d := z_fit S ns sn V i) 20 (fun j _ => z_fit_r hk hi hr j)] at j1
        have g69 : J 69 = s 69 := j2 69 (by simp; omega)
        have g70 : J 70 = s 70 := j2 70 (by simp; omega)
        refine ⟨sm_up J 70 (sm_up (J 70) i (nI (zbt (z_fit S ns sn V i) 20))), ?_, by rw [up_n _ _ (by omega), g69]; exact h1, by rw [up_n _ _ (by omega), g69]; exact h2, fun p hp => ?_, zfr_up (zfr_trans h4 (zLk_m j2)) (by unfold zLk; simp) _⟩
        · simp (disch := omega) only [f_X8_look_57, f_X8_look_83, kd_69, kd_70, r69_0 hR, h1, h2, zl_0, zl_1, zb_shl, hm, hc, j1, nI_leI, nI_ltI, nI_eq, nI_add, nI_clamp, gd_t, gd_pos, lt_eq, Option.bind_some, true_and, and_true, not_true, not_false_iff, false_or, or_false, if_true, if_false, if_pos, if_neg]
        · rw [up_s]
          by_cases e : p = i
          · rw [e, up_s]
          · rw [up_n _ _ e, g70]
            exact h3 p (by omega)
      · have hex : zbt (z_fit S ns sn V i) 20 = 0 := zbt_0.mpr (fun j _ hf => hc (zbt_0.mpr (fun p' h5 h6 => by
          rw [Bool.and_eq_true] at h6
          have h8 : ¬ p' = i := fun e => by
            rw [e, decide_eq_true rfl] at h6
            cases h6.2
          exact z_fit_w hk hi h5 h8 h6.1 j hf)))
        refine ⟨sm_up s 70 (sm_up (s 70) i (nI 0)), ?_, by rw [up_n _ _ (by omega)]; exact h1, by rw [up_n _ _ (by omega)]; exact h2, fun p hp => ?_, zfr_up h4 (by unfold zLk; simp) _⟩
        · simp (disch := omega) only [f_X8_look_57, f_X8_look_83, kd_69, kd_70, r69_0 hR, h1, h2, zl_0, zl_1, zb_shl, hm, nI_leI, nI_ltI, nI_eq, nI_add, nI_clamp, gd_t, gd_pos, lt_eq, Option.bind_some, true_and, and_true, not_true, not_false_iff, false_or, or_false, if_true, if_false, if_pos, if_neg]
        · rw [up_s]
          by_cases e : p = i
          · rw [e, up_s, hex]
          · rw [up_n _ _ e]
            exact h3 p (by omega)) nu 0 J0 N (by omega) (by omega) ⟨a2, a3, fun p hp => absurd hp (Nat.not_lt_zero p), a4⟩
  obtain ⟨⟨u, J⟩, l1, l2, l3⟩ := L
  exact ⟨J, a1.trans l1, l3⟩
theorem c_howMany (hN : 5000 ≤ N) (hR : sR R q) (h7 : nu ≤ 7) {B : Nat → Nat} (hB : ∀ p, p < nu → B p < 2 ^ 20) (h1 : I 69 1 = nI nu) (h2 : ∀ p, p < nu → I 70 p = nI (B p)) : f_X8_howMany N R 69 I = some (nI (zsm (fun p => z_pc 32 (B p)) nu), I) := by
  exact zu_loop (fun n i a => f_X8_howMany_4 N R n 69 a (nI i) I) (fun i => nI (zsm (fun p => z_pc 32 (B p)) i)) (nI (zsm (fun p => z_pc 32 (B p)) nu), I) nu
    (fun n => by simp (disch := omega) only [f_X8_howMany_4, kd_69, h1, nI_leI, gd_t, gd_pos, if_pos])
    (fun n i hi => by
      have g := h2 i hi
      have hb := hB i hi
      have e := c_bitCount (N := N) (R := R) (I := I) (n := B i) (Nat.lt_of_lt_of_le hb (by decide))
      have e2 : zsm (fun p => z_pc 32 (B p)) (i + 1) = zsm (fun p => z_pc 32 (B p)) i + z_pc 32 (B i) := rfl
      rw [e2]
      simp (disch := omega) only [f_X8_howMany_4, kd_69, kd_70, r69_0 hR, h1, g, e, zl_0, zl_1, nI_leI, nI_ltI, nI_add, nI_clamp, gd_t, gd_pos, lt_eq, Option.bind_some, true_and, and_true, not_true, not_false_iff, false_or, or_false, if_true, if_false, if_pos, if_neg]) nu 0 N (by omega) (by omega)
theorem j_low {n l : Nat} (hl : l < 30) (h1 : n % 2 ^ l = 0) (h2 : n / 2 ^ l % 2 = 1) : (nI n ^^^ (-nI 1)) &&& (nI n - nI 1) = nI (2 ^ l - 1) := by
  have hp : 0 < 2 ^ l := Nat.two_pow_pos l
  have hn : n = 2 ^ (l + 1) * (n / 2 ^ l / 2) + 2 ^ l := by
    have a := Nat.div_add_mod n (2 ^ l)
    have b := Nat.div_add_mod (n / 2 ^ l) 2
    rw [h2] at b
    rw [h1, Nat.add_zero] at a
    rw [Nat.pow_succ, Nat.mul_assoc]
    rw [← Nat.mul_succ, Nat.succ_eq_add_one, b, a]
  obtain ⟨m, hm⟩ : ∃ m, m = n / 2 ^ l / 2 := ⟨_, rfl⟩
  rw [← hm] at hn
  have hn1 : n - 1 = 2 ^ (l + 1) * m + (2 ^ l - 1) := by omega
  have lt1 : 2 ^ l < 2 ^ (l + 1) := Nat.pow_lt_pow_right (by omega) (by omega)
  rw [pk_sub (by omega), hn1]
  apply Int32.toBitVec_inj.1
  show (BitVec.ofNat 32 n ^^^ BitVec.allOnes 32) &&& BitVec.ofNat 32 (2 ^ (l + 1) * m + (2 ^ l - 1)) = BitVec.ofNat 32 (2 ^ l - 1)
  apply BitVec.eq_of_getLsbD_eq
  intro i hi
  rw [BitVec.getLsbD_and, BitVec.getLsbD_xor, BitVec.getLsbD_ofNat, BitVec.getLsbD_ofNat, BitVec.getLsbD_ofNat, BitVec.getLsbD_allOnes, hn, Nat.testBit_two_pow_mul_add _ lt1, Nat.testBit_two_pow_mul_add _ (by omega), Nat.testBit_two_pow_sub_one, Nat.testBit_two_pow]
  by_cases h3 : i < l
  · have h4 : ¬ l = i := by omega
    have h5 : i < l + 1 := by omega
    simp [h3, h4, h5, hi]
  · by_cases h4 : l = i
    · subst h4
      simp
    · have h5 : ¬ i < l + 1 := by omega
      simp [h3, h5, hi]
theorem j_ntz2 {n l : Nat} (hl : l < 30) (h1 : n % 2 ^ l = 0) (h2 : n / 2 ^ l % 2 = 1) : f_J6_numberOfTrailingZeros_0f7a4 N R (nI n) I = some (nI l, I) := by
  have e0 := j_ntz (N := N) (R := R) (I := I) l hl
  have hp : 0 < 2 ^ l := Nat.two_pow_pos l
  have e1 := j_low hl h1 h2
  have e2 := j_low (n := 2 ^ l) hl (Nat.mod_self _) (by rw [Nat.div_self hp])
  unfold f_J6_numberOfTrailingZeros_0f7a4 at e0 ⊢
  rw [zl_1] at e0 ⊢
  rw [e2] at e0
  rw [e1]
  exact e0
theorem c_first (hN : 5000 ≤ N) (hR : sR R q) (h7 : nu ≤ 7) {B t : Nat → Nat} (hB : ∀ p, p < nu → B p < 2 ^ 20) (ht : ∀ p, p < nu → ¬ B p = 0 → t p < 30 ∧ B p % 2 ^ t p = 0 ∧ B p / 2 ^ t p % 2 = 1) (h1 : I 69 1 = nI nu) (h2 : ∀ p, p < nu → I 70 p = nI (B p)) : f_X8_first N R 69 I = some (zn1 ((zfs (fun p => decide (¬ B p = 0)) nu 0).map (fun p => 100 * p + t p + 1)), I) := by
  have L := zfs_loop (fun n i (_ : Unit) => f_X8_first_2 N R n 69 (nI i) I) (fun p => decide (¬ B p = 0)) (fun _ _ => True) (fun o y => y = (zn1 (o.map (fun p => 100 * p + t p + 1)), I)) nu
    (fun n s _ => ⟨_, by simp (disch := omega) only [f_X8_first_2, kd_69, h1, nI_leI, gd_t, gd_pos, if_pos]; rfl, rfl⟩)
    (fun n i s hi _ hc => by
      have hc := of_decide_eq_true hc
      have g := h2 i hi
      have hb := hB i hi
      obtain ⟨t1, t2, t3⟩ := ht i hi hc
      have e := j_ntz2 (N := N) (R := R) (I := I) t1 t2 t3
      refine ⟨(nI (100 * i + t i + 1), I), ?_, rfl⟩
      simp (disch := omega) only [f_X8_first_2, kd_69, kd_70, r69_0 hR, h1, g, e, zl_0, zl_1, zl_100, pk_mul, nI_leI, nI_ltI, nI_eq, nI_add, nI_clamp, gd_t, gd_pos, lt_eq, Option.bind_some, true_and, and_true, not_true, not_false_iff, false_or, or_false, if_true, if_false, if_pos, if_neg])
    (fun n i s hi _ hc => by
      have hc : B i = 0 := Decidable.of_not_not (fun h => hc (decide_eq_true h))
      have g := h2 i hi
      rw [hc] at g
      refine ⟨(), ?_, trivial⟩
      simp (disch := omega) only [f_X8_first_2, kd_69, kd_70, r69_0 hR, h1, g, zl_0, zl_1, nI_leI, nI_ltI, nI_eq, nI_add, nI_clamp, gd_t, gd_pos, lt_eq, Option.bind_some, true_and, and_true, not_true, not_false_iff, false_or, or_false, if_true, if_false, if_pos, if_neg]) nu 0 () N (by omega) (by omega) trivial
  obtain ⟨y, l1, l2⟩ := L
  rw [l2] at l1
  exact l1
end ZC
