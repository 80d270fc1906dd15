/-! ===== PURE PART: the references by name ===== -/
section ZQ
variable {R : Nat → Nat → Nat} {q : Nat}
theorem q_k0 (h : sR R q) : sm_kd q = (7, 9) := h.q.1.1
theorem q_k1 (h : sR R q) : sm_kd (q + 1) = (13, 6) := h.q.1.2.1
theorem q_k2 (h : sR R q) : sm_kd (q + 2) = (13, 6) := h.q.1.2.2.1
theorem q_k3 (h : sR R q) : sm_kd (q + 3) = (13, 48) := h.q.1.2.2.2.1
theorem q_k17 (h : sR R q) : sm_kd (q + 17) = (13, 9) := h.q.1.2.2.2.2.2.2.2.2.1
theorem q_k18 (h : sR R q) : sm_kd (q + 18) = (13, 9) := h.q.1.2.2.2.2.2.2.2.2.2
theorem q_r0 (h : sR R q) : R q 0 = q + 1 := h.q.2.1.1
theorem q_r1 (h : sR R q) : R q 1 = q + 2 := h.q.2.1.2.1
theorem q_r5 (h : sR R q) : R q 5 = q + 7 := h.q.2.1.2.2.2.2.1
theorem q_r7 (h : sR R q) : R q 7 = q + 17 := h.q.2.1.2.2.2.2.2.2.1
theorem q_r8 (h : sR R q) : R q 8 = q + 18 := h.q.2.1.2.2.2.2.2.2.2.1
theorem q_t (h : sR R q) : tR R (q + 7) := h.q.2.2
theorem q_t0 (h : sR R q) : sm_kd (q + 7) = (10, 4) := (q_t h).1
theorem q_t1 (h : sR R q) : R (q + 7) 0 = q + 7 + 1 := (q_t h).2.1
theorem q_t2 (h : sR R q) : sm_kd (q + 7 + 1) = (16, 7) := (q_t h).2.2.1
theorem q_t3 (h : sR R q) : ∀ p, p < 7 → R (q + 7 + 1) p = q + 7 + 2 + p := (q_t h).2.2.2.1
theorem q_t4 (h : sR R q) : ∀ p, p < 7 → sm_kd (q + 7 + 2 + p) = (4, 6) := (q_t h).2.2.2.2
theorem q_t9 (h : sR R q) {p : Nat} (hp : p < 7) : sm_kd (q + 9 + p) = (4, 6) := by
  have := q_t4 h p hp
  rw [show q + 7 + 2 + p = q + 9 + p by omega] at this
  exact this
theorem zCV_9 {nu : Nat} {V : Nat → zP} {I : Nat → Nat → Int32} (h : zCV nu V (q + 7) I) {p : Nat} (hp : p < nu) : zPl (V p) (I (q + 9 + p)) := by
  have := h.2 p hp
  rw [show q + 7 + 2 + p = q + 9 + p by omega] at this
  exact this
end ZQ
