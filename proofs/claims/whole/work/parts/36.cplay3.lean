/-! ===== PURE PART: the class, one pupil: to practise, a lesson, weeks, the door ===== -/
theorem zz_cl_in {m n : Nat} (h : n ≤ m) (hn : m < 2 ^ 31) : zz_cl m (nI n) = n := by
  unfold zz_cl
  rw [nI_toInt (by omega), if_neg (by omega), if_neg (by omega)]
  rfl
theorem zz_cl_out {m n : Nat} (h : m < n) (hn : n < 2 ^ 31) : zz_cl m (nI n) = m := by
  unfold zz_cl
  rw [nI_toInt hn, if_neg (by omega), if_pos (by omega)]
theorem zz_cl_add {m n : Nat} (hm : m < 2 ^ 31) (hn : n < 2 ^ 31) : zz_cl m (nI n) = min m n := by
  by_cases h : n ≤ m
  · rw [zz_cl_in h hm, Nat.min_eq_right h]
  · rw [zz_cl_out (by omega) hn, Nat.min_eq_left (by omega)]
theorem zz_neg {a : Nat} (ha : a < 2 ^ 31) : (-(nI a)).toInt = -(a : Int) := by
  have h := nI_toInt ha
  rw [Int32.toInt_neg, h, Int.bmod_eq_of_le (by omega) (by omega)]
theorem zz_addneg {s l : Nat} (hs : s < 2 ^ 30) (hl : l < 2 ^ 30) : (nI s + (-(nI l))).toInt = (s : Int) - l := by
  rw [Int32.toInt_add, zz_neg (by omega), nI_toInt (by omega), Int.bmod_eq_of_le (by omega) (by omega)]
  omega
theorem zz_cl_less {s l : Nat} (hs : s ≤ 9) (hl : l < 2 ^ 30) : zz_cl 9 (nI s + (-(nI l))) = s - l := by
  unfold zz_cl
  rw [zz_addneg (by omega) hl]
  by_cases h : s < l
  · rw [if_pos (by omega)]
    omega
  · rw [if_neg (by omega), if_neg (by omega)]
    omega
section ZC
variable {N : Nat} {R : Nat → Nat → Nat} {q k : Nat} {S : zS} {I : Nat → Nat → Int32} {pl : zP}
theorem c_addSore (hk : sm_kd k = (4, 6)) (hp : zPl pl (I k)) {x : Int32} {v : Nat} (hv : zz_cl 9 (nI (pl 1) + x) = v) : f_X4_addSore N R k x I = some ((), sm_up I k (sm_up (I k) 1 (nI v))) := by
  have h1 := hp 1 (by omega)
  have e := mxmn (m := 9) (by omega) (nI (pl 1) + x)
  rw [hv] at e
  unfold f_X4_addSore
  rw [gd_pos hk, lt_eq, h1, zl_0, zl_9, e]
theorem c_isAwayIn (hk : sm_kd k = (4, 6)) (hp : zPl pl (I k)) (ho : pl 4 < 2 ^ 30) {j : Nat} (h1 : 1 ≤ j) (h2 : j ≤ 31) : f_X4_isAwayIn N R k (nI j) I = some ((if pl 4 / 2 ^ (j - 1) % 2 = 1 then 1 else 0), I) := by
  have h4 := hp 4 (by omega)
  have e := zb_bit (n := pl 4) (j := j - 1) (by omega) (by omega)
  by_cases hc : pl 4 / 2 ^ (j - 1) % 2 = 1
  · simp (disch := omega) only [f_X4_isAwayIn, hk, h4, gd_t, gd_pos, lt_eq, Option.bind_some, true_and, and_true, not_true, not_false_iff, false_or, or_false, if_true, if_false, if_pos, if_neg, zl_1, pk_sub, e, nI_eq]
  · simp (disch := omega) only [f_X4_isAwayIn, hk, h4, gd_t, gd_pos, lt_eq, Option.bind_some, true_and, and_true, not_true, not_false_iff, false_or, or_false, if_true, if_false, if_pos, if_neg, zl_1, pk_sub, e, nI_eq]
theorem c_pr118 (hk : sm_kd k = (4, 6)) (hp : zPl pl (I k)) (ho : z_pok S pl) {v : Nat} (hv : v ≤ 20) : f_X7_practise_118 N R k (nI v) I = some ((), sm_up I k (sm_up (I k) 0 (nI (pl 0 + min (99 - pl 0) (if pl 5 = 1 then 2 * v else v))))) := by
  have h0 := hp 0 (by omega)
  have h5 := hp 5 (by omega)
  obtain ⟨o0, o1, o2, o3, o4, o5⟩ := ho
  by_cases hc : pl 5 = 1
  · have e : min 99 (pl 0 + (v + v)) = pl 0 + min (99 - pl 0) (2 * v) := by omega
    simp (disch := omega) only [f_X7_practise_118, hk, h0, h5, gd_t, gd_pos, lt_eq, Option.bind_some, true_and, and_true, not_true, not_false_iff, false_or, or_false, if_true, if_false, if_pos, if_neg, zl_1, zl_99, nI_eq, nI_add, mn_nI, e]
  · have e : min 99 (pl 0 + v) = pl 0 + min (99 - pl 0) v := by omega
    simp (disch := omega) only [f_X7_practise_118, hk, h0, h5, gd_t, gd_pos, lt_eq, Option.bind_some, true_and, and_true, not_true, not_false_iff, false_or, or_false, if_true, if_false, if_pos, if_neg, zl_1, zl_99, nI_eq, nI_add, mn_nI, e]
set_option maxHeartbeats 4000000 in
theorem c_practise (hN : 5000 ≤ N) (hq : qR R q) (hso : z_sok S) (hS : zCS S q I) (hk : sm_kd k = (4, 6)) (hp : zPl pl (I k)) (ho : z_pok S pl) : ∃ J, f_X7_practise N R q k I = some ((), J) ∧ zPl (z_pr S pl) (J k) ∧ zfr [k, q + 6, q + 16] I J := by
  obtain ⟨n0, n1, n2, n3, n4, n5, n6, n16, n17, n18⟩ := qR_ne hq hk
  have h0 := hp 0 (by omega)
  have h1 := hp 1 (by omega)
  have h2 := hp 2 (by omega)
  have h3 := hp 3 (by omega)
  have h4 := hp 4 (by omega)
  obtain ⟨o0, o1, o2, o3, o4, o5⟩ := id ho
  obtain ⟨⟨k0, k1, k2, k3, k4, k5, k6, k16, k17, k18⟩, ⟨r0, r1, r2, r4, r5, r6, r7, r8, s0, s3⟩, ht⟩ := id hq
  obtain ⟨c1, c2, c3, c4⟩ := id hS
  by_cases h99 : pl 0 < 99
  · rcases hr : z_rl S with _ | ⟨m, cd⟩
    · have c3 := c3 hr
      have e := c_pr118 (N := N) (R := R) (v := 5 - pl 1 / 2) hk hp ho (by omega)
      have hf : f_X7_practise N R q k I = f_X7_practise_118 N R k (nI (5 - pl 1 / 2)) I := by
        simp (disch := omega) only [f_X7_practise, k0, k1, k2, k3, k4, k5, k6, k16, k17, k18, r0, r1, r2, r4, r5, r6, r7, r8, s0, s3, hk, h0, h1, c3, gd_t, gd_pos, lt_eq, Option.bind_some, true_and, and_true, not_true, not_false_iff, false_or, or_false, if_true, if_false, if_pos, if_neg, zl_99, zl_5, zl_2, nI_ltI, pk_div, pk_sub]
      refine ⟨_, hf.trans e, ?_, ?_⟩
      · rw [up_s]
        have e2 : z_pr S pl = sm_up pl 0 (pl 0 + min (99 - pl 0) (if pl 5 = 1 then 2 * (5 - pl 1 / 2) else 5 - pl 1 / 2)) := by
          unfold z_pr z_up z_v
          rw [hr]
          dsimp only
          rw [zz_cl_in (by omega) (by omega)]
        rw [e2]
        exact zPl_up hp _ _
      · exact zfr_up (zfr_refl _ _) (by simp) _
    · obtain ⟨c5, c6, c7⟩ := c4 _ hr
      obtain ⟨w1, w2⟩ := hso.2.2 _ hr
      have fr : ∀ g, zfr [k, q + 6, q + 16] I (sm_up I (q + 16) g) := fun g => zfr_up (zfr_refl _ _) (by simp) g
      have pk : ∀ g, zPl pl (sm_up I (q + 16) g k) := fun g => by
        rw [up_n I g n16]
        exact hp
      have e1 := fun g => c_nextHard (N := N) hq hso (zCS_k hq hk hS (fr g)) hk (pk g) ho
      have e2 := fun g => c_barsOf (N := N) hq hso (zCS_k hq hk hS (fr g)) o2
      have e3 := fun g => c_bitCount (N := N) (R := R) (I := sm_up I (q + 16) g) o4
      have hG : ∃ G, f_X7_practise N R q k I = (f_X6_value N R (q + 4) (q + 16) (sm_up I (q + 16) G)).bind (fun p => f_X7_practise_118 N R k (sm_mx (0 : Int32) (sm_mn (20 : Int32) p.1)) p.2) ∧ ∀ v, v < 6 → G v = z_ask S pl v := by
        refine ⟨sm_up (sm_up (sm_up (sm_up (sm_up (sm_up (I (q + 16)) 0 (nI (pl 0))) 1 (nI (pl 1))) 2 (nI (z_nh S pl))) 3 (nI (pl 3))) 4 (nI (z_bn S (pl 2)))) 5 (nI (z_pc 32 (pl 4))), ?_, ?_⟩
        · have c5' : ¬ I (q + 4) 2 = nI 0 := by
            rw [c5]
            decide
          simp (disch := omega) only [f_X7_practise, k0, k1, k2, k3, k4, k5, k6, k16, k17, k18, r0, r1, r2, r4, r5, r6, r7, r8, s0, s3, hk, h0, h1, h2, h3, h4, c5', e1, e2, e3, if_false, gd_t, gd_pos, lt_eq, Option.bind_some, true_and, and_true, not_true, not_false_iff, false_or, or_false, if_true, if_false, if_pos, if_neg, up_s, up_n, up_uu, zl_99, nI_ltI, zl_0, zl_1, zl_2, zl_3, zl_4, zl_5, nI_clamp]
        · intro v hv
          match v, hv with
          | 0, _ => rfl
          | 1, _ => rfl
          | 2, _ => rfl
          | 3, _ => rfl
          | 4, _ => rfl
          | 5, _ => rfl
      obtain ⟨G, hG1, hG2⟩ := hG
      have s1 : (sm_up I (q + 16) G) (q + 4) 1 = nI m := by
        rw [up_n I G (by omega)]
        exact c6
      have s2 : ∀ i, i < m → (sm_up I (q + 16) G) (q + 5) i = nI (cd i) := fun i hi => by
        rw [up_n I G (by omega)]
        exact c7 i hi
      obtain ⟨g, hg⟩ := c_value_4 (N := N) hq s1 w1 s2 m 0 0 (sm_up I (q + 16) G (q + 6)) N (by omega) (by omega) w2 (by omega)
      rw [up_id, up_s, z_ev_cong hG2 m 0 0 _ (fun _ => 0) w2 (fun j hj => absurd hj (Nat.not_lt_zero j))] at hg
      have ev : z_v S pl = z_ev (z_ask S pl) cd m 0 0 (fun _ => 0) := by
        unfold z_v
        rw [hr]
      rw [← ev] at hg
      have pk2 : zPl pl (sm_up (sm_up I (q + 16) G) (q + 6) g k) := by
        rw [up_n _ g n6]
        exact pk G
      have e := c_pr118 (N := N) (R := R) (S := S) (v := zz_cl 20 (z_v S pl)) hk pk2 ho (zz_cl_le _ _)
      have hf : f_X7_practise N R q k I = f_X7_practise_118 N R k (nI (zz_cl 20 (z_v S pl))) (sm_up (sm_up I (q + 16) G) (q + 6) g) := by
        rw [hG1, show f_X6_value N R (q + 4) (q + 16) (sm_up I (q + 16) G) = _ from hg, Option.bind_some]
        dsimp only
        rw [zl_0, zl_20, mxmn (by omega)]
      refine ⟨_, hf.trans e, ?_, ?_⟩
      · rw [up_s]
        exact zPl_up pk2 _ _
      · exact zfr_up (zfr_up (fr G) (by simp) g) (by simp) _
  · refine ⟨I, ?_, ?_, zfr_refl _ _⟩
    · simp (disch := omega) only [f_X7_practise, hk, h0, gd_t, gd_pos, lt_eq, Option.bind_some, true_and, and_true, not_true, not_false_iff, false_or, or_false, if_true, if_false, if_pos, if_neg, zl_99, nI_ltI]
    · have e : z_pr S pl = pl := by
        unfold z_pr z_up
        rw [show 99 - pl 0 = 0 by omega, Nat.zero_min, Nat.add_zero, up_id]
      rw [e]
      exact hp
end ZC
