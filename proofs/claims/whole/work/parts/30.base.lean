/-! ===== PURE PART: facts of references and kinds ===== -/
def zz_rt : List (Nat × Nat × Nat) := [(0, 0, 1), (0, 4, 41), (0, 5, 43), (0, 6, 47), (0, 7, 48), (0, 8, 57), (0, 9, 58), (0, 10, 59), (0, 11, 68), (0, 12, 69), (0, 13, 73), (0, 14, 76), (1, 0, 2), (3, 0, 4), (3, 1, 5), (3, 2, 6), (3, 4, 7), (3, 5, 10), (3, 6, 19), (3, 7, 20), (3, 8, 21), (7, 0, 8), (7, 3, 9), (10, 0, 11), (11, 0, 12), (11, 1, 13), (11, 2, 14), (11, 3, 15), (11, 4, 16), (11, 5, 17), (11, 6, 18), (22, 0, 23), (22, 1, 24), (22, 2, 25), (22, 4, 26), (22, 5, 29), (22, 6, 38), (22, 7, 39), (22, 8, 40), (26, 0, 27), (26, 3, 28), (29, 0, 30), (30, 0, 31), (30, 1, 32), (30, 2, 33), (30, 3, 34), (30, 4, 35), (30, 5, 36), (30, 6, 37), (41, 0, 42), (43, 0, 44), (43, 1, 45), (43, 2, 46), (48, 1, 49), (48, 2, 50), (48, 3, 52), (48, 4, 56), (50, 0, 51), (52, 0, 53), (52, 1, 54), (52, 2, 55), (59, 0, 60), (60, 0, 61), (60, 1, 62), (60, 2, 63), (60, 3, 64), (60, 4, 65), (60, 5, 66), (60, 6, 67), (69, 0, 70), (69, 3, 71), (69, 4, 72), (73, 0, 74), (73, 1, 75), (76, 0, 77), (76, 1, 78), (76, 2, 79), (80, 0, 81), (80, 1, 82), (80, 2, 83), (80, 4, 84), (80, 5, 85), (80, 6, 86), (80, 7, 87), (80, 8, 88), (80, 9, 89), (80, 10, 90), (80, 11, 91), (80, 12, 92), (80, 13, 93), (80, 14, 94), (80, 25, 95), (80, 26, 96), (80, 27, 97), (80, 28, 98), (80, 29, 99), (80, 30, 100), (80, 35, 101), (80, 36, 102), (80, 37, 103), (80, 38, 104), (80, 39, 105), (80, 40, 106), (80, 41, 107), (80, 42, 108), (80, 43, 109), (80, 44, 110), (80, 45, 111), (80, 46, 112), (80, 48, 113), (80, 53, 114), (80, 54, 115), (80, 55, 116), (80, 56, 117), (80, 57, 118), (80, 58, 119), (81, 0, 1001), (81, 1, 1002), (82, 0, 1003), (82, 1, 1004), (83, 0, 1007), (83, 1, 1008), (83, 2, 1009), (83, 3, 1010), (83, 4, 1011), (83, 5, 1012)]
/-- the references as they stand: q the school that holds, 25 - q the draft -/
def sR (R : Nat → Nat → Nat) (q : Nat) : Prop := (∀ x ∈ zz_rt, R x.1 x.2.1 = x.2.2) ∧ (q = 3 ∨ q = 22) ∧ R 0 3 = q ∧ R 1 2 = 25 - q
theorem r0_0 {R : Nat → Nat → Nat} {q : Nat} (h : sR R q) : R 0 0 = 1 := h.1 (0, 0, 1) (by decide +kernel)
theorem r0_4 {R : Nat → Nat → Nat} {q : Nat} (h : sR R q) : R 0 4 = 41 := h.1 (0, 4, 41) (by decide +kernel)
theorem r0_5 {R : Nat → Nat → Nat} {q : Nat} (h : sR R q) : R 0 5 = 43 := h.1 (0, 5, 43) (by decide +kernel)
theorem r0_6 {R : Nat → Nat → Nat} {q : Nat} (h : sR R q) : R 0 6 = 47 := h.1 (0, 6, 47) (by decide +kernel)
theorem r0_7 {R : Nat → Nat → Nat} {q : Nat} (h : sR R q) : R 0 7 = 48 := h.1 (0, 7, 48) (by decide +kernel)
theorem r0_8 {R : Nat → Nat → Nat} {q : Nat} (h : sR R q) : R 0 8 = 57 := h.1 (0, 8, 57) (by decide +kernel)
theorem r0_9 {R : Nat → Nat → Nat} {q : Nat} (h : sR R q) : R 0 9 = 58 := h.1 (0, 9, 58) (by decide +kernel)
theorem r0_10 {R : Nat → Nat → Nat} {q : Nat} (h : sR R q) : R 0 10 = 59 := h.1 (0, 10, 59) (by decide +kernel)
theorem r0_11 {R : Nat → Nat → Nat} {q : Nat} (h : sR R q) : R 0 11 = 68 := h.1 (0, 11, 68) (by decide +kernel)
theorem r0_12 {R : Nat → Nat → Nat} {q : Nat} (h : sR R q) : R 0 12 = 69 := h.1 (0, 12, 69) (by decide +kernel)
theorem r0_13 {R : Nat → Nat → Nat} {q : Nat} (h : sR R q) : R 0 13 = 73 := h.1 (0, 13, 73) (by decide +kernel)
theorem r0_14 {R : Nat → Nat → Nat} {q : Nat} (h : sR R q) : R 0 14 = 76 := h.1 (0, 14, 76) (by decide +kernel)
theorem r1_0 {R : Nat → Nat → Nat} {q : Nat} (h : sR R q) : R 1 0 = 2 := h.1 (1, 0, 2) (by decide +kernel)
theorem r41_0 {R : Nat → Nat → Nat} {q : Nat} (h : sR R q) : R 41 0 = 42 := h.1 (41, 0, 42) (by decide +kernel)
theorem r43_0 {R : Nat → Nat → Nat} {q : Nat} (h : sR R q) : R 43 0 = 44 := h.1 (43, 0, 44) (by decide +kernel)
theorem r43_1 {R : Nat → Nat → Nat} {q : Nat} (h : sR R q) : R 43 1 = 45 := h.1 (43, 1, 45) (by decide +kernel)
theorem r43_2 {R : Nat → Nat → Nat} {q : Nat} (h : sR R q) : R 43 2 = 46 := h.1 (43, 2, 46) (by decide +kernel)
theorem r48_1 {R : Nat → Nat → Nat} {q : Nat} (h : sR R q) : R 48 1 = 49 := h.1 (48, 1, 49) (by decide +kernel)
theorem r48_2 {R : Nat → Nat → Nat} {q : Nat} (h : sR R q) : R 48 2 = 50 := h.1 (48, 2, 50) (by decide +kernel)
theorem r48_3 {R : Nat → Nat → Nat} {q : Nat} (h : sR R q) : R 48 3 = 52 := h.1 (48, 3, 52) (by decide +kernel)
theorem r48_4 {R : Nat → Nat → Nat} {q : Nat} (h : sR R q) : R 48 4 = 56 := h.1 (48, 4, 56) (by decide +kernel)
theorem r50_0 {R : Nat → Nat → Nat} {q : Nat} (h : sR R q) : R 50 0 = 51 := h.1 (50, 0, 51) (by decide +kernel)
theorem r52_0 {R : Nat → Nat → Nat} {q : Nat} (h : sR R q) : R 52 0 = 53 := h.1 (52, 0, 53) (by decide +kernel)
theorem r52_1 {R : Nat → Nat → Nat} {q : Nat} (h : sR R q) : R 52 1 = 54 := h.1 (52, 1, 54) (by decide +kernel)
theorem r52_2 {R : Nat → Nat → Nat} {q : Nat} (h : sR R q) : R 52 2 = 55 := h.1 (52, 2, 55) (by decide +kernel)
theorem r59_0 {R : Nat → Nat → Nat} {q : Nat} (h : sR R q) : R 59 0 = 60 := h.1 (59, 0, 60) (by decide +kernel)
theorem r60_0 {R : Nat → Nat → Nat} {q : Nat} (h : sR R q) : R 60 0 = 61 := h.1 (60, 0, 61) (by decide +kernel)
theorem r60_1 {R : Nat → Nat → Nat} {q : Nat} (h : sR R q) : R 60 1 = 62 := h.1 (60, 1, 62) (by decide +kernel)
theorem r60_2 {R : Nat → Nat → Nat} {q : Nat} (h : sR R q) : R 60 2 = 63 := h.1 (60, 2, 63) (by decide +kernel)
theorem r60_3 {R : Nat → Nat → Nat} {q : Nat} (h : sR R q) : R 60 3 = 64 := h.1 (60, 3, 64) (by decide +kernel)
theorem r60_4 {R : Nat → Nat → Nat} {q : Nat} (h : sR R q) : R 60 4 = 65 := h.1 (60, 4, 65) (by decide +kernel)
theorem r60_5 {R : Nat → Nat → Nat} {q : Nat} (h : sR R q) : R 60 5 = 66 := h.1 (60, 5, 66) (by decide +kernel)
theorem r60_6 {R : Nat → Nat → Nat} {q : Nat} (h : sR R q) : R 60 6 = 67 := h.1 (60, 6, 67) (by decide +kernel)
theorem r69_0 {R : Nat → Nat → Nat} {q : Nat} (h : sR R q) : R 69 0 = 70 := h.1 (69, 0, 70) (by decide +kernel)
theorem r69_3 {R : Nat → Nat → Nat} {q : Nat} (h : sR R q) : R 69 3 = 71 := h.1 (69, 3, 71) (by decide +kernel)
theorem r69_4 {R : Nat → Nat → Nat} {q : Nat} (h : sR R q) : R 69 4 = 72 := h.1 (69, 4, 72) (by decide +kernel)
theorem r73_0 {R : Nat → Nat → Nat} {q : Nat} (h : sR R q) : R 73 0 = 74 := h.1 (73, 0, 74) (by decide +kernel)
theorem r73_1 {R : Nat → Nat → Nat} {q : Nat} (h : sR R q) : R 73 1 = 75 := h.1 (73, 1, 75) (by decide +kernel)
theorem r76_0 {R : Nat → Nat → Nat} {q : Nat} (h : sR R q) : R 76 0 = 77 := h.1 (76, 0, 77) (by decide +kernel)
theorem r76_1 {R : Nat → Nat → Nat} {q : Nat} (h : sR R q) : R 76 1 = 78 := h.1 (76, 1, 78) (by decide +kernel)
theorem r76_2 {R : Nat → Nat → Nat} {q : Nat} (h : sR R q) : R 76 2 = 79 := h.1 (76, 2, 79) (by decide +kernel)
theorem r80_0 {R : Nat → Nat → Nat} {q : Nat} (h : sR R q) : R 80 0 = 81 := h.1 (80, 0, 81) (by decide +kernel)
theorem r80_1 {R : Nat → Nat → Nat} {q : Nat} (h : sR R q) : R 80 1 = 82 := h.1 (80, 1, 82) (by decide +kernel)
theorem r80_2 {R : Nat → Nat → Nat} {q : Nat} (h : sR R q) : R 80 2 = 83 := h.1 (80, 2, 83) (by decide +kernel)
theorem r80_4 {R : Nat → Nat → Nat} {q : Nat} (h : sR R q) : R 80 4 = 84 := h.1 (80, 4, 84) (by decide +kernel)
theorem r80_5 {R : Nat → Nat → Nat} {q : Nat} (h : sR R q) : R 80 5 = 85 := h.1 (80, 5, 85) (by decide +kernel)
theorem r80_6 {R : Nat → Nat → Nat} {q : Nat} (h : sR R q) : R 80 6 = 86 := h.1 (80, 6, 86) (by decide +kernel)
theorem r80_7 {R : Nat → Nat → Nat} {q : Nat} (h : sR R q) : R 80 7 = 87 := h.1 (80, 7, 87) (by decide +kernel)
theorem r80_8 {R : Nat → Nat → Nat} {q : Nat} (h : sR R q) : R 80 8 = 88 := h.1 (80, 8, 88) (by decide +kernel)
theorem r80_9 {R : Nat → Nat → Nat} {q : Nat} (h : sR R q) : R 80 9 = 89 := h.1 (80, 9, 89) (by decide +kernel)
theorem r80_10 {R : Nat → Nat → Nat} {q : Nat} (h : sR R q) : R 80 10 = 90 := h.1 (80, 10, 90) (by decide +kernel)
theorem r80_11 {R : Nat → Nat → Nat} {q : Nat} (h : sR R q) : R 80 11 = 91 := h.1 (80, 11, 91) (by decide +kernel)
theorem r80_12 {R : Nat → Nat → Nat} {q : Nat} (h : sR R q) : R 80 12 = 92 := h.1 (80, 12, 92) (by decide +kernel)
theorem r80_13 {R : Nat → Nat → Nat} {q : Nat} (h : sR R q) : R 80 13 = 93 := h.1 (80, 13, 93) (by decide +kernel)
theorem r80_14 {R : Nat → Nat → Nat} {q : Nat} (h : sR R q) : R 80 14 = 94 := h.1 (80, 14, 94) (by decide +kernel)
theorem r80_25 {R : Nat → Nat → Nat} {q : Nat} (h : sR R q) : R 80 25 = 95 := h.1 (80, 25, 95) (by decide +kernel)
theorem r80_26 {R : Nat → Nat → Nat} {q : Nat} (h : sR R q) : R 80 26 = 96 := h.1 (80, 26, 96) (by decide +kernel)
theorem r80_27 {R : Nat → Nat → Nat} {q : Nat} (h : sR R q) : R 80 27 = 97 := h.1 (80, 27, 97) (by decide +kernel)
theorem r80_28 {R : Nat → Nat → Nat} {q : Nat} (h : sR R q) : R 80 28 = 98 := h.1 (80, 28, 98) (by decide +kernel)
theorem r80_29 {R : Nat → Nat → Nat} {q : Nat} (h : sR R q) : R 80 29 = 99 := h.1 (80, 29, 99) (by decide +kernel)
theorem r80_30 {R : Nat → Nat → Nat} {q : Nat} (h : sR R q) : R 80 30 = 100 := h.1 (80, 30, 100) (by decide +kernel)
theorem r80_35 {R : Nat → Nat → Nat} {q : Nat} (h : sR R q) : R 80 35 = 101 := h.1 (80, 35, 101) (by decide +kernel)
theorem r80_36 {R : Nat → Nat → Nat} {q : Nat} (h : sR R q) : R 80 36 = 102 := h.1 (80, 36, 102) (by decide +kernel)
theorem r80_37 {R : Nat → Nat → Nat} {q : Nat} (h : sR R q) : R 80 37 = 103 := h.1 (80, 37, 103) (by decide +kernel)
theorem r80_38 {R : Nat → Nat → Nat} {q : Nat} (h : sR R q) : R 80 38 = 104 := h.1 (80, 38, 104) (by decide +kernel)
theorem r80_39 {R : Nat → Nat → Nat} {q : Nat} (h : sR R q) : R 80 39 = 105 := h.1 (80, 39, 105) (by decide +kernel)
theorem r80_40 {R : Nat → Nat → Nat} {q : Nat} (h : sR R q) : R 80 40 = 106 := h.1 (80, 40, 106) (by decide +kernel)
theorem r80_41 {R : Nat → Nat → Nat} {q : Nat} (h : sR R q) : R 80 41 = 107 := h.1 (80, 41, 107) (by decide +kernel)
theorem r80_42 {R : Nat → Nat → Nat} {q : Nat} (h : sR R q) : R 80 42 = 108 := h.1 (80, 42, 108) (by decide +kernel)
theorem r80_43 {R : Nat → Nat → Nat} {q : Nat} (h : sR R q) : R 80 43 = 109 := h.1 (80, 43, 109) (by decide +kernel)
theorem r80_44 {R : Nat → Nat → Nat} {q : Nat} (h : sR R q) : R 80 44 = 110 := h.1 (80, 44, 110) (by decide +kernel)
theorem r80_45 {R : Nat → Nat → Nat} {q : Nat} (h : sR R q) : R 80 45 = 111 := h.1 (80, 45, 111) (by decide +kernel)
theorem r80_46 {R : Nat → Nat → Nat} {q : Nat} (h : sR R q) : R 80 46 = 112 := h.1 (80, 46, 112) (by decide +kernel)
theorem r80_48 {R : Nat → Nat → Nat} {q : Nat} (h : sR R q) : R 80 48 = 113 := h.1 (80, 48, 113) (by decide +kernel)
theorem r80_53 {R : Nat → Nat → Nat} {q : Nat} (h : sR R q) : R 80 53 = 114 := h.1 (80, 53, 114) (by decide +kernel)
theorem r80_54 {R : Nat → Nat → Nat} {q : Nat} (h : sR R q) : R 80 54 = 115 := h.1 (80, 54, 115) (by decide +kernel)
theorem r80_55 {R : Nat → Nat → Nat} {q : Nat} (h : sR R q) : R 80 55 = 116 := h.1 (80, 55, 116) (by decide +kernel)
theorem r80_56 {R : Nat → Nat → Nat} {q : Nat} (h : sR R q) : R 80 56 = 117 := h.1 (80, 56, 117) (by decide +kernel)
theorem r80_57 {R : Nat → Nat → Nat} {q : Nat} (h : sR R q) : R 80 57 = 118 := h.1 (80, 57, 118) (by decide +kernel)
theorem r80_58 {R : Nat → Nat → Nat} {q : Nat} (h : sR R q) : R 80 58 = 119 := h.1 (80, 58, 119) (by decide +kernel)
theorem r81_0 {R : Nat → Nat → Nat} {q : Nat} (h : sR R q) : R 81 0 = 1001 := h.1 (81, 0, 1001) (by decide +kernel)
theorem r81_1 {R : Nat → Nat → Nat} {q : Nat} (h : sR R q) : R 81 1 = 1002 := h.1 (81, 1, 1002) (by decide +kernel)
theorem r82_0 {R : Nat → Nat → Nat} {q : Nat} (h : sR R q) : R 82 0 = 1003 := h.1 (82, 0, 1003) (by decide +kernel)
theorem r82_1 {R : Nat → Nat → Nat} {q : Nat} (h : sR R q) : R 82 1 = 1004 := h.1 (82, 1, 1004) (by decide +kernel)
theorem r83_0 {R : Nat → Nat → Nat} {q : Nat} (h : sR R q) : R 83 0 = 1007 := h.1 (83, 0, 1007) (by decide +kernel)
theorem r83_1 {R : Nat → Nat → Nat} {q : Nat} (h : sR R q) : R 83 1 = 1008 := h.1 (83, 1, 1008) (by decide +kernel)
theorem r83_2 {R : Nat → Nat → Nat} {q : Nat} (h : sR R q) : R 83 2 = 1009 := h.1 (83, 2, 1009) (by decide +kernel)
theorem r83_3 {R : Nat → Nat → Nat} {q : Nat} (h : sR R q) : R 83 3 = 1010 := h.1 (83, 3, 1010) (by decide +kernel)
theorem r83_4 {R : Nat → Nat → Nat} {q : Nat} (h : sR R q) : R 83 4 = 1011 := h.1 (83, 4, 1011) (by decide +kernel)
theorem r83_5 {R : Nat → Nat → Nat} {q : Nat} (h : sR R q) : R 83 5 = 1012 := h.1 (83, 5, 1012) (by decide +kernel)
/-- a term at t, an acts row at a, what is seen at s, a school at q -/
def tR (R : Nat → Nat → Nat) (t : Nat) : Prop := sm_kd t = (10, 4) ∧ R t 0 = t + 1 ∧ sm_kd (t + 1) = (16, 7) ∧ (∀ p, p < 7 → R (t + 1) p = t + 2 + p) ∧ ∀ p, p < 7 → sm_kd (t + 2 + p) = (4, 6)
def aR (R : Nat → Nat → Nat) (a : Nat) : Prop := sm_kd a = (0, 3) ∧ R a 0 = a + 1 ∧ sm_kd (a + 1) = (13, 1480)
def nR (R : Nat → Nat → Nat) (s : Nat) : Prop := sm_kd s = (9, 4) ∧ R s 0 = s + 1 ∧ R s 1 = s + 2 ∧ R s 2 = s + 3 ∧ sm_kd (s + 1) = (13, 8) ∧ sm_kd (s + 2) = (13, 8) ∧ sm_kd (s + 3) = (13, 8)
def qR (R : Nat → Nat → Nat) (q : Nat) : Prop := (sm_kd q = (7, 9) ∧ sm_kd (q + 1) = (13, 6) ∧ sm_kd (q + 2) = (13, 6) ∧ sm_kd (q + 3) = (13, 48) ∧ sm_kd (q + 4) = (6, 4) ∧ sm_kd (q + 5) = (13, 700) ∧ sm_kd (q + 6) = (13, 64) ∧ sm_kd (q + 16) = (13, 6) ∧ sm_kd (q + 17) = (13, 9) ∧ sm_kd (q + 18) = (13, 9)) ∧ (R q 0 = q + 1 ∧ R q 1 = q + 2 ∧ R q 2 = q + 3 ∧ R q 4 = q + 4 ∧ R q 5 = q + 7 ∧ R q 6 = q + 16 ∧ R q 7 = q + 17 ∧ R q 8 = q + 18 ∧ R (q + 4) 0 = q + 5 ∧ R (q + 4) 3 = q + 6) ∧ tR R (q + 7)

theorem tR_10 {R : Nat → Nat → Nat} (h : ∀ x ∈ zz_rt, R x.1 x.2.1 = x.2.2) : tR R 10 := by
  refine ⟨kd_10, h (10, 0, 11) (by decide +kernel), kd_11, fun p hp => ?_, fun p hp => ?_⟩
  · match p, hp with
    | 0, _ => exact h (11, 0, 12) (by decide +kernel)
    | 1, _ => exact h (11, 1, 13) (by decide +kernel)
    | 2, _ => exact h (11, 2, 14) (by decide +kernel)
    | 3, _ => exact h (11, 3, 15) (by decide +kernel)
    | 4, _ => exact h (11, 4, 16) (by decide +kernel)
    | 5, _ => exact h (11, 5, 17) (by decide +kernel)
    | 6, _ => exact h (11, 6, 18) (by decide +kernel)
  · match p, hp with
    | 0, _ => exact kd_12
    | 1, _ => exact kd_13
    | 2, _ => exact kd_14
    | 3, _ => exact kd_15
    | 4, _ => exact kd_16
    | 5, _ => exact kd_17
    | 6, _ => exact kd_18
theorem tR_29 {R : Nat → Nat → Nat} (h : ∀ x ∈ zz_rt, R x.1 x.2.1 = x.2.2) : tR R 29 := by
  refine ⟨kd_29, h (29, 0, 30) (by decide +kernel), kd_30, fun p hp => ?_, fun p hp => ?_⟩
  · match p, hp with
    | 0, _ => exact h (30, 0, 31) (by decide +kernel)
    | 1, _ => exact h (30, 1, 32) (by decide +kernel)
    | 2, _ => exact h (30, 2, 33) (by decide +kernel)
    | 3, _ => exact h (30, 3, 34) (by decide +kernel)
    | 4, _ => exact h (30, 4, 35) (by decide +kernel)
    | 5, _ => exact h (30, 5, 36) (by decide +kernel)
    | 6, _ => exact h (30, 6, 37) (by decide +kernel)
  · match p, hp with
    | 0, _ => exact kd_31
    | 1, _ => exact kd_32
    | 2, _ => exact kd_33
    | 3, _ => exact kd_34
    | 4, _ => exact kd_35
    | 5, _ => exact kd_36
    | 6, _ => exact kd_37
theorem tR_59 {R : Nat → Nat → Nat} (h : ∀ x ∈ zz_rt, R x.1 x.2.1 = x.2.2) : tR R 59 := by
  refine ⟨kd_59, h (59, 0, 60) (by decide +kernel), kd_60, fun p hp => ?_, fun p hp => ?_⟩
  · match p, hp with
    | 0, _ => exact h (60, 0, 61) (by decide +kernel)
    | 1, _ => exact h (60, 1, 62) (by decide +kernel)
    | 2, _ => exact h (60, 2, 63) (by decide +kernel)
    | 3, _ => exact h (60, 3, 64) (by decide +kernel)
    | 4, _ => exact h (60, 4, 65) (by decide +kernel)
    | 5, _ => exact h (60, 5, 66) (by decide +kernel)
    | 6, _ => exact h (60, 6, 67) (by decide +kernel)
  · match p, hp with
    | 0, _ => exact kd_61
    | 1, _ => exact kd_62
    | 2, _ => exact kd_63
    | 3, _ => exact kd_64
    | 4, _ => exact kd_65
    | 5, _ => exact kd_66
    | 6, _ => exact kd_67
theorem aR_41 {R : Nat → Nat → Nat} (h : ∀ x ∈ zz_rt, R x.1 x.2.1 = x.2.2) : aR R 41 := ⟨kd_41, h (41, 0, 42) (by decide +kernel), kd_42⟩
theorem aR_50 {R : Nat → Nat → Nat} (h : ∀ x ∈ zz_rt, R x.1 x.2.1 = x.2.2) : aR R 50 := ⟨kd_50, h (50, 0, 51) (by decide +kernel), kd_51⟩
theorem nR_43 {R : Nat → Nat → Nat} (h : ∀ x ∈ zz_rt, R x.1 x.2.1 = x.2.2) : nR R 43 := ⟨kd_43, h (43, 0, 44) (by decide +kernel), h (43, 1, 45) (by decide +kernel), h (43, 2, 46) (by decide +kernel), kd_44, kd_45, kd_46⟩
theorem nR_52 {R : Nat → Nat → Nat} (h : ∀ x ∈ zz_rt, R x.1 x.2.1 = x.2.2) : nR R 52 := ⟨kd_52, h (52, 0, 53) (by decide +kernel), h (52, 1, 54) (by decide +kernel), h (52, 2, 55) (by decide +kernel), kd_53, kd_54, kd_55⟩
theorem qR_3 {R : Nat → Nat → Nat} (h : ∀ x ∈ zz_rt, R x.1 x.2.1 = x.2.2) : qR R 3 := ⟨⟨kd_3, kd_4, kd_5, kd_6, kd_7, kd_8, kd_9, kd_19, kd_20, kd_21⟩, ⟨h (3, 0, 4) (by decide +kernel), h (3, 1, 5) (by decide +kernel), h (3, 2, 6) (by decide +kernel), h (3, 4, 7) (by decide +kernel), h (3, 5, 10) (by decide +kernel), h (3, 6, 19) (by decide +kernel), h (3, 7, 20) (by decide +kernel), h (3, 8, 21) (by decide +kernel), h (7, 0, 8) (by decide +kernel), h (7, 3, 9) (by decide +kernel)⟩, tR_10 h⟩
theorem qR_22 {R : Nat → Nat → Nat} (h : ∀ x ∈ zz_rt, R x.1 x.2.1 = x.2.2) : qR R 22 := ⟨⟨kd_22, kd_23, kd_24, kd_25, kd_26, kd_27, kd_28, kd_38, kd_39, kd_40⟩, ⟨h (22, 0, 23) (by decide +kernel), h (22, 1, 24) (by decide +kernel), h (22, 2, 25) (by decide +kernel), h (22, 4, 26) (by decide +kernel), h (22, 5, 29) (by decide +kernel), h (22, 6, 38) (by decide +kernel), h (22, 7, 39) (by decide +kernel), h (22, 8, 40) (by decide +kernel), h (26, 0, 27) (by decide +kernel), h (26, 3, 28) (by decide +kernel)⟩, tR_29 h⟩
theorem sR.q {R : Nat → Nat → Nat} {q : Nat} (h : sR R q) : qR R q := by
  rcases h.2.1 with rfl | rfl
  · exact qR_3 h.1
  · exact qR_22 h.1
theorem sR.d {R : Nat → Nat → Nat} {q : Nat} (h : sR R q) : qR R (25 - q) := by
  rcases h.2.1 with rfl | rfl
  · exact qR_22 h.1
  · exact qR_3 h.1

