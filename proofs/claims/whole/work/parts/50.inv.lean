/-! ===== PURE PART: the invariant ===== -/
abbrev zIm : Type := zT × (Nat × (Nat → zT)) × (Nat × (Nat → Nat × Nat × Nat)) × (Nat → Int32)
def zCN (ns : Nat) (sn : Nat → Nat × Nat × Nat) (s : Nat) (I : Nat → Nat → Int32) : Prop := I s 3 = nI ns ∧ ∀ i, i < ns → I (s + 1) i = nI (sn i).1 ∧ I (s + 2) i = nI (sn i).2.1 ∧ I (s + 3) i = nI (sn i).2.2
def zMN (ns : Nat) (sn : Nat → Nat × Nat × Nat) (fl c : Nat) (I : Nat → Nat → Int32) : Prop := I 80 fl = nI ns ∧ ∀ i, i < ns → I c i = nI (sn i).1 ∧ I (c + 1) i = nI (sn i).2.1 ∧ I (c + 2) i = nI (sn i).2.2
def zCI (nu : Nat) (im : Option zIm) (I : Nat → Nat → Int32) : Prop := match im with
  | none => I 48 0 = 0
  | some x => I 48 0 = 1 ∧ zRow nu x.1 (I 49) 0 ∧ zCA nu x.2.1.1 x.2.1.2 50 I ∧ zCN x.2.2.1.1 x.2.2.1.2 52 I ∧ ∀ j, j < 3 → I 56 j = x.2.2.2 j
def zMI (nu : Nat) (im : Option zIm) (I : Nat → Nat → Int32) : Prop := match im with
  | none => I 80 50 = 0
  | some x => I 80 50 = 1 ∧ zMRow nu x.1 (I 114) 0 ∧ zMA nu x.2.1.1 x.2.1.2 51 115 I ∧ zMN x.2.2.1.1 x.2.2.1.2 52 116 I ∧ ∀ j, j < 3 → I 119 j = x.2.2.2 j
def zCi (q : Nat) (S : zS) (nu : Nat) (T : zT) (na : Nat) (A : Nat → zT) (ns : Nat) (sn : Nat → Nat × Nat × Nat) (st : Nat → Int32) (nt : Nat) (tp : Nat → Nat) (fp : Int32) (im : Option zIm) (I : Nat → Nat → Int32) : Prop :=
  zCS S q I ∧ zCV nu T.2.2 (q + 7) I ∧ I (q + 7) 2 = nI T.1 ∧ I (q + 7) 3 = nI T.2.1 ∧ zCA nu na A 41 I ∧ zCN ns sn 43 I ∧ (∀ j, j < 3 → I 47 j = st j) ∧ (I 0 1 = nI nt ∧ ∀ i, i < nt → I 2 i = sm_i8 (nI (tp i))) ∧ I 0 2 = fp ∧ zCI nu im I
def zMi (S : zS) (nu : Nat) (T : zT) (na : Nat) (A : Nat → zT) (ns : Nat) (sn : Nat → Nat × Nat × Nat) (st : Nat → Int32) (nt : Nat) (tp : Nat → Nat) (fp : Int32) (im : Option zIm) (I : Nat → Nat → Int32) : Prop :=
  zMS S I ∧ zMV nu T.2.2 I ∧ I 80 31 = nI T.1 ∧ I 80 32 = nI T.2.1 ∧ zMA nu na A 33 100 I ∧ zMN ns sn 34 107 I ∧ (∀ j, j < 3 → I 93 j = st j) ∧ (I 80 15 = nI nt ∧ ∀ i, i < nt → I 94 i = nI (tp i)) ∧ I 80 24 = fp ∧ zMI nu im I
def zTok (S : zS) (nu : Nat) (pr : Nat → Nat) (T : zT) : Prop := T.1 ≤ 999 ∧ 1 ≤ T.2.1 ∧ T.2.1 ≤ 4 ∧ ∀ p, p < nu → z_pok S (T.2.2 p) ∧ T.2.2 p 5 = pr p
def zNok (nu ns : Nat) (sn : Nat → Nat × Nat × Nat) : Prop := ns ≤ 8 ∧ ∀ i, i < ns → (sn i).1 < nu ∧ 1 ≤ (sn i).2.1 ∧ (sn i).2.1 ≤ 20 ∧ (sn i).2.2 ≤ 8
def zOk (S : zS) (nu : Nat) (pr : Nat → Nat) (T : zT) (na : Nat) (A : Nat → zT) (ns : Nat) (sn : Nat → Nat × Nat × Nat) (nt : Nat) (tp : Nat → Nat) (im : Option zIm) : Prop :=
  z_sok S ∧ nu ≤ 7 ∧ zTok S nu pr T ∧ (∀ i, i < na → zTok S nu pr (A i)) ∧ zNok nu ns sn ∧ (nt ≤ 700 ∧ ∀ i, i < nt → tp i < 256) ∧ ∀ x, im = some x → zTok S nu pr x.1 ∧ (∀ i, i < x.2.1.1 → zTok S nu pr (x.2.1.2 i)) ∧ zNok nu x.2.2.1.1 x.2.2.1.2
def zInv (σ : sm_M) : Prop := ∃ (q : Nat) (S : zS) (nu : Nat) (pr : Nat → Nat) (T : zT) (na : Nat) (A : Nat → zT) (ns : Nat) (sn : Nat → Nat × Nat × Nat) (st : Nat → Int32) (nt : Nat) (tp : Nat → Nat) (fp : Int32) (im : Option zIm), sR σ.2 q ∧ zOk S nu pr T na A ns sn nt tp im ∧ zCi q S nu T na A ns sn st nt tp fp im σ.1 ∧ zMi S nu T na A ns sn st nt tp fp im σ.1
/-- cells in which the class only works -/
def zScr (q : Nat) : List Nat := [57, 58, 59, 61, 62, 63, 64, 65, 66, 67, 68, 69, 70, 71, 72, 73, 74, 75, 76, 77, 78, 79, q + 6, q + 16, q + 17, q + 18]
section ZI
variable {N : Nat} {R : Nat → Nat → Nat} {q : Nat} {S : zS} {nu : Nat} {pr : Nat → Nat} {T : zT} {na : Nat} {A : Nat → zT} {ns : Nat} {sn : Nat → Nat × Nat × Nat} {st : Nat → Int32} {nt : Nat} {tp : Nat → Nat} {fp : Int32} {im : Option zIm} {I J K : Nat → Nat → Int32}
theorem zCV_fr {V : Nat → zP} {t : Nat} (h : zCV nu V t I) (h7 : nu ≤ 7) (he : ∀ c, c = t ∨ (t + 2 ≤ c ∧ c ≤ t + 8) → J c = I c) : zCV nu V t J := by
  refine ⟨by rw [he t (by omega)]; exact h.1, fun p hp => ?_⟩
  rw [he _ (by omega)]
  exact h.2 p hp
theorem zCN_fr {s : Nat} (h : zCN ns sn s I) (he : ∀ c, s ≤ c → c ≤ s + 3 → J c = I c) : zCN ns sn s J := by
  unfold zCN at h ⊢
  rw [he s (by omega) (by omega), he (s + 1) (by omega) (by omega), he (s + 2) (by omega) (by omega), he (s + 3) (by omega) (by omega)]
  exact h
theorem zCI_fr (h : zCI nu im I) (he : ∀ c, 48 ≤ c → c ≤ 56 → J c = I c) : zCI nu im J := by
  rcases im with _ | x
  · show J 48 0 = 0
    rw [he 48 (by omega) (by omega)]
    exact h
  · obtain ⟨h1, h2, h3, h4, h5⟩ := h
    refine ⟨by rw [he 48 (by omega) (by omega)]; exact h1, by rw [he 49 (by omega) (by omega)]; exact h2, zCA_fr h3 (he 50 (by omega) (by omega)) (he 51 (by omega) (by omega)), zCN_fr h4 (fun c h1 h2 => he c (by omega) (by omega)), fun j hj => ?_⟩
    rw [he 56 (by omega) (by omega)]
    exact h5 j hj
/-- all cells of the invariant alike -/
theorem zCi_eq (h7 : nu ≤ 7) (h : zCi q S nu T na A ns sn st nt tp fp im I) (he : ∀ c, (q ≤ c ∧ c ≤ q + 5) ∨ c = q + 7 ∨ (q + 9 ≤ c ∧ c ≤ q + 15) ∨ (41 ≤ c ∧ c ≤ 56) ∨ c = 2 → J c = I c) (h0 : J 0 1 = I 0 1 ∧ J 0 2 = I 0 2) : zCi q S nu T na A ns sn st nt tp fp im J := by
  obtain ⟨c1, c2, c3, c4, c5, c6, c7, c8, c9, c10⟩ := h
  refine ⟨zCS_fr c1 (fun c h1 h2 => he c (by omega)), zCV_fr c2 h7 (fun c hc => he c (by omega)), by rw [he (q + 7) (by omega)]; exact c3, by rw [he (q + 7) (by omega)]; exact c4, zCA_fr c5 (he 41 (by omega)) (he 42 (by omega)), zCN_fr c6 (fun c h1 h2 => he c (by omega)), fun j hj => by rw [he 47 (by omega)]; exact c7 j hj, ⟨by rw [h0.1]; exact c8.1, fun i hi => by rw [he 2 (by omega)]; exact c8.2 i hi⟩, by rw [h0.2]; exact c9, zCI_fr c10 (fun c h1 h2 => he c (by omega))⟩
theorem sR_q (hR : sR R q) : q = 3 ∨ q = 22 := hR.2.1
theorem zCi_fr (hR : sR R q) (h7 : nu ≤ 7) (h : zCi q S nu T na A ns sn st nt tp fp im I) (hf : zfr (zScr q) I J) : zCi q S nu T na A ns sn st nt tp fp im J := by
  have hq := sR_q hR
  have key : ∀ c, (q ≤ c ∧ c ≤ q + 5) ∨ c = q + 7 ∨ (q + 9 ≤ c ∧ c ≤ q + 15) ∨ (41 ≤ c ∧ c ≤ 56) ∨ c = 2 ∨ c = 0 → J c = I c := fun c hc => hf c (by
    unfold zScr
    simp only [List.mem_cons, List.not_mem_nil, or_false]
    omega)
  exact zCi_eq h7 h (fun c hc => key c (by omega)) ⟨by rw [key 0 (by omega)], by rw [key 0 (by omega)]⟩
theorem zCi_hi (hR : sR R q) (h7 : nu ≤ 7) (h : zCi q S nu T na A ns sn st nt tp fp im I) (hf : ∀ k, k < 80 → J k = I k) : zCi q S nu T na A ns sn st nt tp fp im J := by
  have hq := sR_q hR
  exact zCi_eq h7 h (fun c hc => hf c (by omega)) ⟨by rw [hf 0 (by omega)], by rw [hf 0 (by omega)]⟩
theorem zScr_lt (hR : sR R q) (hf : zfr (zScr q) I J) : ∀ k, 80 ≤ k → J k = I k := fun k hk => hf k (by
  have hq := sR_q hR
  unfold zScr
  simp only [List.mem_cons, List.not_mem_nil, or_false]
  omega)
/-! the model -/
theorem zMA_eq {fl cl : Nat} (h : zMA nu na A fl cl I) (h1 : J 80 fl = I 80 fl) (h2 : J cl = I cl) : zMA nu na A fl cl J := by
  unfold zMA at h ⊢
  rw [h1, h2]
  exact h
theorem zMN_eq {fl c : Nat} (h : zMN ns sn fl c I) (h1 : J 80 fl = I 80 fl) (h2 : J c = I c) (h3 : J (c + 1) = I (c + 1)) (h4 : J (c + 2) = I (c + 2)) : zMN ns sn fl c J := by
  unfold zMN at h ⊢
  rw [h1, h2, h3, h4]
  exact h
theorem zMS_eq (h : zMS S I) (he : ∀ c, 84 ≤ c → c ≤ 92 → J c = I c) : zMS S J := by
  unfold zMS at h ⊢
  rw [he 84 (by omega) (by omega), he 85 (by omega) (by omega), he 86 (by omega) (by omega), he 87 (by omega) (by omega), he 92 (by omega) (by omega)]
  exact h
theorem zMI_eq (h : zMI nu im I) (he : ∀ c, 114 ≤ c → c ≤ 119 → J c = I c) (h0 : J 80 50 = I 80 50) (h1 : J 80 51 = I 80 51) (h2 : J 80 52 = I 80 52) : zMI nu im J := by
  rcases im with _ | x
  · show J 80 50 = 0
    rw [h0]
    exact h
  · obtain ⟨g1, g2, g3, g4, g5⟩ := h
    refine ⟨by rw [h0]; exact g1, by rw [he 114 (by omega) (by omega)]; exact g2, zMA_eq g3 h1 (he 115 (by omega) (by omega)), zMN_eq g4 h2 (he 116 (by omega) (by omega)) (he 117 (by omega) (by omega)) (he 118 (by omega) (by omega)), fun j hj => ?_⟩
    rw [he 119 (by omega) (by omega)]
    exact g5 j hj
/-- the pupils, the week and the pianos may be others; all else alike -/
theorem zMi_nw {T' : zT} (h : zMi S nu T na A ns sn st nt tp fp im I) (hV : zMV nu T'.2.2 J) (hw : J 80 31 = nI T'.1) (hp : J 80 32 = nI T'.2.1) (he : ∀ c, (84 ≤ c ∧ c ≤ 94) ∨ c = 100 ∨ (107 ≤ c ∧ c ≤ 109) ∨ (114 ≤ c ∧ c ≤ 119) → J c = I c) (h0 : ∀ f, f = 15 ∨ f = 24 ∨ f = 33 ∨ f = 34 ∨ f = 50 ∨ f = 51 ∨ f = 52 → J 80 f = I 80 f) : zMi S nu T' na A ns sn st nt tp fp im J := by
  obtain ⟨c1, c2, c3, c4, c5, c6, c7, c8, c9, c10⟩ := h
  refine ⟨zMS_eq c1 (fun c h1 h2 => he c (by omega)), hV, hw, hp, zMA_eq c5 (h0 33 (by omega)) (he 100 (by omega)), zMN_eq c6 (h0 34 (by omega)) (he 107 (by omega)) (he 108 (by omega)) (he 109 (by omega)), fun j hj => by rw [he 93 (by omega)]; exact c7 j hj, ⟨by rw [h0 15 (by omega)]; exact c8.1, fun i hi => by rw [he 94 (by omega)]; exact c8.2 i hi⟩, by rw [h0 24 (by omega)]; exact c9, zMI_eq c10 (fun c h1 h2 => he c (by omega)) (h0 50 (by omega)) (h0 51 (by omega)) (h0 52 (by omega))⟩
def zMsc : List Nat := [95, 96, 97, 98, 99, 101, 102, 103, 104, 105, 106, 110, 111, 112, 113]
def zMsf : List Nat := [3, 31, 32, 47, 49]
theorem zMi_now {T' : zT} {L F : List Nat} (h : zMi S nu T na A ns sn st nt tp fp im I) (hf : zfm L F I J) (hL : ∀ x ∈ L, x ∈ zMsc) (hF : ∀ x ∈ F, x ∈ zMsf) (hV : zMV nu T'.2.2 J) (hw : J 80 31 = nI T'.1) (hp : J 80 32 = nI T'.2.1) : zMi S nu T' na A ns sn st nt tp fp im J :=
  zMi_nw h hV hw hp (fun c hc => hf.1 c (by omega) (fun hx => by
    have := hL c hx
    unfold zMsc at this
    simp only [List.mem_cons, List.not_mem_nil, or_false] at this
    omega)) (fun f hc => hf.2 f (fun hx => by
    have := hF f hx
    unfold zMsf at this
    simp only [List.mem_cons, List.not_mem_nil, or_false] at this
    omega))
theorem zMi_fr {L F : List Nat} (h : zMi S nu T na A ns sn st nt tp fp im I) (hf : zfm L F I J) (hL : ∀ x ∈ L, x ∈ zMsc ∧ 100 < x) (hF : ∀ x ∈ F, x ∈ zMsf ∧ x ≠ 31 ∧ x ≠ 32) : zMi S nu T na A ns sn st nt tp fp im J := by
  have e31 : J 80 31 = I 80 31 := hf.2 31 (fun hx => (hF 31 hx).2.1 rfl)
  have e32 : J 80 32 = I 80 32 := hf.2 32 (fun hx => (hF 32 hx).2.2 rfl)
  have g : ∀ c, c ≠ 80 → c ≤ 100 → J c = I c := fun c h8 hc => hf.1 c h8 (fun hx => by
    have := (hL c hx).2
    omega)
  refine zMi_now h hf (fun x hx => (hL x hx).1) (fun x hx => (hF x hx).1) ?_ (by rw [e31]; exact h.2.2.1) (by rw [e32]; exact h.2.2.2.1)
  have hV := h.2.1
  unfold zMV at hV ⊢
  rw [g 84 (by omega) (by omega), g 95 (by omega) (by omega), g 96 (by omega) (by omega), g 97 (by omega) (by omega), g 98 (by omega) (by omega), g 99 (by omega) (by omega), g 88 (by omega) (by omega)]
  exact hV
theorem zMi_lo (h : zMi S nu T na A ns sn st nt tp fp im I) (hf : ∀ k, 80 ≤ k → J k = I k) : zMi S nu T na A ns sn st nt tp fp im J := by
  have hV := h.2.1
  refine zMi_nw h ?_ (by rw [hf 80 (by omega)]; exact h.2.2.1) (by rw [hf 80 (by omega)]; exact h.2.2.2.1) (fun c hc => hf c (by omega)) (fun f _ => by rw [hf 80 (by omega)])
  unfold zMV at hV ⊢
  rw [hf 84 (by omega), hf 95 (by omega), hf 96 (by omega), hf 97 (by omega), hf 98 (by omega), hf 99 (by omega), hf 88 (by omega)]
  exact hV
theorem zfm_lo {L F : List Nat} (hf : zfm L F I J) (hL : ∀ x ∈ L, 80 < x) : ∀ k, k < 80 → J k = I k := fun k hk => hf.1 k (by omega) (fun hx => by
  have := hL k hx
  omega)
/-- behind a question -/
theorem zInv_q (hR : sR R q) (hO : zOk S nu pr T na A ns sn nt tp im) (hC : zCi q S nu T na A ns sn st nt tp fp im I) (hJ : zfr (zScr q) I J) (hM : zMi S nu T na A ns sn st nt tp fp im K) (hK : ∀ k, k < 80 → K k = J k) : zInv (K, R) :=
  ⟨q, S, nu, pr, T, na, A, ns, sn, st, nt, tp, fp, im, hR, hO, zCi_hi hR hO.2.1 (zCi_fr hR hO.2.1 hC hJ) hK, hM⟩
end ZI
