def f_X12_readNot_22 (N : Nat) (R : Nat → Nat → Nat) (rc_X12_readProduct : Nat → Int32 → (Nat → Nat → Int32) → Option (Unit × (Nat → Nat → Int32))) (rc_X12_readSum : Nat → Int32 → (Nat → Nat → Int32) → Option (Unit × (Nat → Nat → Int32))) (rc_X12_readNot : Nat → Int32 → (Nat → Nat → Int32) → Option (Unit × (Nat → Nat → Int32))) (rc_X12_readAnd : Nat → Int32 → (Nat → Nat → Int32) → Option (Unit × (Nat → Nat → Int32))) (rc_X12_readExpression : Nat → Int32 → (Nat → Nat → Int32) → Option (Unit × (Nat → Nat → Int32))) (rc_X12_readPart : Nat → Int32 → (Nat → Nat → Int32) → Option (Unit × (Nat → Nat → Int32))) (k_2 : Nat → Int32 → Int32 → (Nat → Nat → Int32) → Option (Unit × (Nat → Nat → Int32))) : Nat → Int32 → Int32 → (Nat → Nat → Int32) → Option (Unit × (Nat → Nat → Int32)) := fun a0 a1 a2 I =>
  sm_gd (sm_kd a0 = (12, 59)) <|
  if (I a0 22) = 0 then (
    (f_X12_stepOn N R a0 I).bind fun p3 =>
    k_2 a0 a1 (a2 + 1) p3.2)
  else (
    k_2 a0 a1 (a2 + 1) I)
def f_X12_readNot_78 (N : Nat) (R : Nat → Nat → Nat) (rc_X12_readProduct : Nat → Int32 → (Nat → Nat → Int32) → Option (Unit × (Nat → Nat → Int32))) (rc_X12_readSum : Nat → Int32 → (Nat → Nat → Int32) → Option (Unit × (Nat → Nat → Int32))) (rc_X12_readNot : Nat → Int32 → (Nat → Nat → Int32) → Option (Unit × (Nat → Nat → Int32))) (rc_X12_readAnd : Nat → Int32 → (Nat → Nat → Int32) → Option (Unit × (Nat → Nat → Int32))) (rc_X12_readExpression : Nat → Int32 → (Nat → Nat → Int32) → Option (Unit × (Nat → Nat → Int32))) (rc_X12_readPart : Nat → Int32 → (Nat → Nat → Int32) → Option (Unit × (Nat → Nat → Int32))) (k_95 : Nat → Int32 → Int32 → (Nat → Nat → Int32) → Option (Unit × (Nat → Nat → Int32))) : Nat → Int32 → Int32 → Int32 → (Nat → Nat → Int32) → Option (Unit × (Nat → Nat → Int32)) := fun a0 a1 a2 b0 I =>
  sm_gd (sm_kd a0 = (12, 59)) <|
  (f_X12_stepOn N R a0 I).bind fun p2 =>
  (rc_X12_readSum a0 a1 p2.2).bind fun p3 =>
  (f_X12_lay N R a0 b0 p3.2).bind fun p4 =>
  k_95 a0 a2 (0 : Int32) p4.2
def f_X12_readNot_62 (N : Nat) (R : Nat → Nat → Nat) (rc_X12_readProduct : Nat → Int32 → (Nat → Nat → Int32) → Option (Unit × (Nat → Nat → Int32))) (rc_X12_readSum : Nat → Int32 → (Nat → Nat → Int32) → Option (Unit × (Nat → Nat → Int32))) (rc_X12_readNot : Nat → Int32 → (Nat → Nat → Int32) → Option (Unit × (Nat → Nat → Int32))) (rc_X12_readAnd : Nat → Int32 → (Nat → Nat → Int32) → Option (Unit × (Nat → Nat → Int32))) (rc_X12_readExpression : Nat → Int32 → (Nat → Nat → Int32) → Option (Unit × (Nat → Nat → Int32))) (rc_X12_readPart : Nat → Int32 → (Nat → Nat → Int32) → Option (Unit × (Nat → Nat → Int32))) (k_95 : Nat → Int32 → Int32 → (Nat → Nat → Int32) → Option (Unit × (Nat → Nat → Int32))) : Nat → Int32 → Int32 → (Nat → Nat → Int32) → Option (Unit × (Nat → Nat → Int32)) := fun a0 a1 a2 I =>
  sm_gd (sm_kd a0 = (12, 59)) <|
  (f_X12_isMarked N R a0 (60 : Int32) I).bind fun p2 =>
  if p2.1 = 0 then (
    f_X12_readNot_78 N R rc_X12_readProduct rc_X12_readSum rc_X12_readNot rc_X12_readAnd rc_X12_readExpression rc_X12_readPart k_95 a0 a1 a2 (-25 : Int32) p2.2)
  else (
    f_X12_readNot_78 N R rc_X12_readProduct rc_X12_readSum rc_X12_readNot rc_X12_readAnd rc_X12_readExpression rc_X12_readPart k_95 a0 a1 a2 (-24 : Int32) p2.2)
def f_X12_readNot_95 (N : Nat) (R : Nat → Nat → Nat) (rc_X12_readProduct : Nat → Int32 → (Nat → Nat → Int32) → Option (Unit × (Nat → Nat → Int32))) (rc_X12_readSum : Nat → Int32 → (Nat → Nat → Int32) → Option (Unit × (Nat → Nat → Int32))) (rc_X12_readNot : Nat → Int32 → (Nat → Nat → Int32) → Option (Unit × (Nat → Nat → Int32))) (rc_X12_readAnd : Nat → Int32 → (Nat → Nat → Int32) → Option (Unit × (Nat → Nat → Int32))) (rc_X12_readExpression : Nat → Int32 → (Nat → Nat → Int32) → Option (Unit × (Nat → Nat → Int32))) (rc_X12_readPart : Nat → Int32 → (Nat → Nat → Int32) → Option (Unit × (Nat → Nat → Int32))) : Nat → Nat → Int32 → Int32 → (Nat → Nat → Int32) → Option (Unit × (Nat → Nat → Int32))
  | 0, _, _, _, _ => none
  | n + 1, a0, a2, a3, I =>
    if a2 ≤ a3 then (
      some ((), I))
    else (
      sm_gd (sm_kd a0 = (12, 59)) <|
      (f_X12_lay N R a0 (-28 : Int32) I).bind fun p3 =>
      f_X12_readNot_95 N R rc_X12_readProduct rc_X12_readSum rc_X12_readNot rc_X12_readAnd rc_X12_readExpression rc_X12_readPart n a0 a2 (a3 + 1) p3.2)
def f_X12_readNot_2 (N : Nat) (R : Nat → Nat → Nat) (rc_X12_readProduct : Nat → Int32 → (Nat → Nat → Int32) → Option (Unit × (Nat → Nat → Int32))) (rc_X12_readSum : Nat → Int32 → (Nat → Nat → Int32) → Option (Unit × (Nat → Nat → Int32))) (rc_X12_readNot : Nat → Int32 → (Nat → Nat → Int32) → Option (Unit × (Nat → Nat → Int32))) (rc_X12_readAnd : Nat → Int32 → (Nat → Nat → Int32) → Option (Unit × (Nat → Nat → Int32))) (rc_X12_readExpression : Nat → Int32 → (Nat → Nat → Int32) → Option (Unit × (Nat → Nat → Int32))) (rc_X12_readPart : Nat → Int32 → (Nat → Nat → Int32) → Option (Unit × (Nat → Nat → Int32))) : Nat → Nat → Int32 → Int32 → (Nat → Nat → Int32) → Option (Unit × (Nat → Nat → Int32))
  | 0, _, _, _, _ => none
  | n + 1, a0, a1, a2, I =>
    sm_gd (sm_kd a0 = (12, 59)) <|
    (f_X12_is N R a0 (1000 + 13) I).bind fun p2 =>
    if p2.1 = 0 then (
      (rc_X12_readSum a0 a1 p2.2).bind fun p4 =>
      (f_X12_isMarked N R a0 (60 : Int32) p4.2).bind fun p5 =>
      if p5.1 = 0 then (
        (f_X12_isMarked N R a0 (61 : Int32) p5.2).bind fun p7 =>
        if p7.1 = 0 then (
          f_X12_readNot_95 N R rc_X12_readProduct rc_X12_readSum rc_X12_readNot rc_X12_readAnd rc_X12_readExpression rc_X12_readPart N a0 a2 (0 : Int32) p7.2)
        else (
          f_X12_readNot_62 N R rc_X12_readProduct rc_X12_readSum rc_X12_readNot rc_X12_readAnd rc_X12_readExpression rc_X12_readPart (fun z0 z1 z2 J => f_X12_readNot_95 N R rc_X12_readProduct rc_X12_readSum rc_X12_readNot rc_X12_readAnd rc_X12_readExpression rc_X12_readPart N z0 z1 z2 J) a0 a1 a2 p7.2))
      else (
        f_X12_readNot_62 N R rc_X12_readProduct rc_X12_readSum rc_X12_readNot rc_X12_readAnd rc_X12_readExpression rc_X12_readPart (fun z0 z1 z2 J => f_X12_readNot_95 N R rc_X12_readProduct rc_X12_readSum rc_X12_readNot rc_X12_readAnd rc_X12_readExpression rc_X12_readPart N z0 z1 z2 J) a0 a1 a2 p5.2))
    else (
      if a2 = (6 : Int32) then (
        (f_X12_wrong N R a0 (2 : Int32) p2.2).bind fun p10 =>
        f_X12_readNot_22 N R rc_X12_readProduct rc_X12_readSum rc_X12_readNot rc_X12_readAnd rc_X12_readExpression rc_X12_readPart (fun z0 z1 z2 J => f_X12_readNot_2 N R rc_X12_readProduct rc_X12_readSum rc_X12_readNot rc_X12_readAnd rc_X12_readExpression rc_X12_readPart n z0 z1 z2 J) a0 a1 a2 p10.2)
      else (
        f_X12_readNot_22 N R rc_X12_readProduct rc_X12_readSum rc_X12_readNot rc_X12_readAnd rc_X12_readExpression rc_X12_readPart (fun z0 z1 z2 J => f_X12_readNot_2 N R rc_X12_readProduct rc_X12_readSum rc_X12_readNot rc_X12_readAnd rc_X12_readExpression rc_X12_readPart n z0 z1 z2 J) a0 a1 a2 p2.2))
def f_X12_readNot (N : Nat) (R : Nat → Nat → Nat) (rc_X12_readProduct : Nat → Int32 → (Nat → Nat → Int32) → Option (Unit × (Nat → Nat → Int32))) (rc_X12_readSum : Nat → Int32 → (Nat → Nat → Int32) → Option (Unit × (Nat → Nat → Int32))) (rc_X12_readNot : Nat → Int32 → (Nat → Nat → Int32) → Option (Unit × (Nat → Nat → Int32))) (rc_X12_readAnd : Nat → Int32 → (Nat → Nat → Int32) → Option (Unit × (Nat → Nat → Int32))) (rc_X12_readExpression : Nat → Int32 → (Nat → Nat → Int32) → Option (Unit × (Nat → Nat → Int32))) (rc_X12_readPart : Nat → Int32 → (Nat → Nat → Int32) → Option (Unit × (Nat → Nat → Int32))) : Nat → Int32 → (Nat → Nat → Int32) → Option (Unit × (Nat → Nat → Int32)) := fun a0 a1 I =>
  f_X12_readNot_2 N R rc_X12_readProduct rc_X12_readSum rc_X12_readNot rc_X12_readAnd rc_X12_readExpression rc_X12_readPart N a0 a1 (0 : Int32) I
set_option maxHeartbeats 4000000 in
set_option maxRecDepth 100000 in
theorem w_X12_readNot_22 {l : Launch} (N : Nat) (R : Nat → Nat → Nat) (rc_X12_readProduct : Nat → Int32 → (Nat → Nat → Int32) → Option (Unit × (Nat → Nat → Int32))) (rc_X12_readSum : Nat → Int32 → (Nat → Nat → Int32) → Option (Unit × (Nat → Nat → Int32))) (rc_X12_readNot : Nat → Int32 → (Nat → Nat → Int32) → Option (Unit × (Nat → Nat → Int32))) (rc_X12_readAnd : Nat → Int32 → (Nat → Nat → Int32) → Option (Unit × (Nat → Nat → Int32))) (rc_X12_readExpression : Nat → Int32 → (Nat → Nat → Int32) → Option (Unit × (Nat → Nat → Int32))) (rc_X12_readPart : Nat → Int32 → (Nat → Nat → Int32) → Option (Unit × (Nat → Nat → Int32))) (dd : Nat) (hdd : 6 ≤ dd) (hrc_X12_readProduct : ∀ (a0 : Nat) (a1 : Int32) (I : (Nat → Nat → Int32)) (y : (Unit × (Nat → Nat → Int32))), rc_X12_readProduct a0 a1 I = some y → sm_E l dd mX12_readProduct [.inr (.inl a0), .inl a1] (I, R) (.inl none) (y.2, R)) (hrc_X12_readSum : ∀ (a0 : Nat) (a1 : Int32) (I : (Nat → Nat → Int32)) (y : (Unit × (Nat → Nat → Int32))), rc_X12_readSum a0 a1 I = some y → sm_E l dd mX12_readSum [.inr (.inl a0), .inl a1] (I, R) (.inl none) (y.2, R)) (hrc_X12_readNot : ∀ (a0 : Nat) (a1 : Int32) (I : (Nat → Nat → Int32)) (y : (Unit × (Nat → Nat → Int32))), rc_X12_readNot a0 a1 I = some y → sm_E l dd mX12_readNot [.inr (.inl a0), .inl a1] (I, R) (.inl none) (y.2, R)) (hrc_X12_readAnd : ∀ (a0 : Nat) (a1 : Int32) (I : (Nat → Nat → Int32)) (y : (Unit × (Nat → Nat → Int32))), rc_X12_readAnd a0 a1 I = some y → sm_E l dd mX12_readAnd [.inr (.inl a0), .inl a1] (I, R) (.inl none) (y.2, R)) (hrc_X12_readExpression : ∀ (a0 : Nat) (a1 : Int32) (I : (Nat → Nat → Int32)) (y : (Unit × (Nat → Nat → Int32))), rc_X12_readExpression a0 a1 I = some y → sm_E l dd mX12_readExpression [.inr (.inl a0), .inl a1] (I, R) (.inl none) (y.2, R)) (hrc_X12_readPart : ∀ (a0 : Nat) (a1 : Int32) (I : (Nat → Nat → Int32)) (y : (Unit × (Nat → Nat → Int32))), rc_X12_readPart a0 a1 I = some y → sm_E l dd mX12_readPart [.inr (.inl a0), .inl a1] (I, R) (.inl none) (y.2, R)) (k_2 : Nat → Int32 → Int32 → (Nat → Nat → Int32) → Option (Unit × (Nat → Nat → Int32))) (hk_2 : ∀ (a0 : Nat) (a1 : Int32) (a2 : Int32) (I : (Nat → Nat → Int32)) (y : (Unit × (Nat → Nat → Int32))), k_2 a0 a1 a2 I = some y → sm_W l (dd + 1) mX12_readNot 2 [(0, .inr (.inl a0)), (1, .inl a1), (2, .inl a2)] [] (I, R) (.inl none) (y.2, R)) : ∀ (a0 : Nat) (a1 : Int32) (a2 : Int32) (I : (Nat → Nat → Int32)) (y : (Unit × (Nat → Nat → Int32))), f_X12_readNot_22 N R rc_X12_readProduct rc_X12_readSum rc_X12_readNot rc_X12_readAnd rc_X12_readExpression rc_X12_readPart k_2 a0 a1 a2 I = some y → sm_W l (dd + 1) mX12_readNot 22 [(0, .inr (.inl a0)), (1, .inl a1), (2, .inl a2)] [] (I, R) (.inl none) (y.2, R) := by
  intro a0 a1 a2 I y h
  unfold f_X12_readNot_22 at h
  refine sm_iinc (v := (a2 + 1)) (L' := [(2, .inl (a2 + 1)), (0, .inr (.inl a0)), (1, .inl a1)]) (q := 25) dX12_readNot_22 rfl 2 rfl rfl (by decide) rfl ?_
  refine sm_aload_n (q := 26) dX12_readNot_25 rfl rfl 1 rfl ?_
  obtain ⟨hc1, h⟩ := sm_gd_e h
  refine sm_getI (q := 29) dX12_readNot_26 rfl fk_X12_201 hc1 (by decide) (by decide) ?_
  rcases sm_if_e h with ⟨hb2, h⟩ | ⟨hb2, h⟩
  · refine sm_if_ne (tgt := 2) (q := 32) dX12_readNot_29 (by decide) rfl (fun hn => absurd hb2 hn) (fun _ => ?_)
    refine sm_aload_n (q := 33) dX12_readNot_32 rfl rfl 1 rfl ?_
    obtain ⟨p3, hc_p3, h⟩ := sm_bd_e h
    refine sm_callVv (q := 36) (As := []) (S := []) (e_X12_stepOn hc_p3) mv_X12_226 hc1 rfl (by omega) (Nat.le_of_ble_eq_true rfl) dX12_readNot_33 rfl ?_
    refine sm_goto (q := 2) dX12_readNot_36 (by decide) ?_
    refine sm_pick [1, 2, 0] rfl ?_
    exact hk_2 _ _ _ _ _ h
  · refine sm_if_ne (tgt := 2) (q := 32) dX12_readNot_29 (by decide) rfl (fun _ => ?_) (fun he => absurd he hb2)
    refine sm_pick [1, 2, 0] rfl ?_
    exact hk_2 _ _ _ _ _ h
set_option maxHeartbeats 4000000 in
set_option maxRecDepth 100000 in
theorem w_X12_readNot_78 {l : Launch} (N : Nat) (R : Nat → Nat → Nat) (rc_X12_readProduct : Nat → Int32 → (Nat → Nat → Int32) → Option (Unit × (Nat → Nat → Int32))) (rc_X12_readSum : Nat → Int32 → (Nat → Nat → Int32) → Option (Unit × (Nat → Nat → Int32))) (rc_X12_readNot : Nat → Int32 → (Nat → Nat → Int32) → Option (Unit × (Nat → Nat → Int32))) (rc_X12_readAnd : Nat → Int32 → (Nat → Nat → Int32) → Option (Unit × (Nat → Nat → Int32))) (rc_X12_readExpression : Nat → Int32 → (Nat → Nat → Int32) → Option (Unit × (Nat → Nat → Int32))) (rc_X12_readPart : Nat → Int32 → (Nat → Nat → Int32) → Option (Unit × (Nat → Nat → Int32))) (dd : Nat) (hdd : 6 ≤ dd) (hrc_X12_readProduct : ∀ (a0 : Nat) (a1 : Int32) (I : (Nat → Nat → Int32)) (y : (Unit × (Nat → Nat → Int32))), rc_X12_readProduct a0 a1 I = some y → sm_E l dd mX12_readProduct [.inr (.inl a0), .inl a1] (I, R) (.inl none) (y.2, R)) (hrc_X12_readSum : ∀ (a0 : Nat) (a1 : Int32) (I : (Nat → Nat → Int32)) (y : (Unit × (Nat → Nat → Int32))), rc_X12_readSum a0 a1 I = some y → sm_E l dd mX12_readSum [.inr (.inl a0), .inl a1] (I, R) (.inl none) (y.2, R)) (hrc_X12_readNot : ∀ (a0 : Nat) (a1 : Int32) (I : (Nat → Nat → Int32)) (y : (Unit × (Nat → Nat → Int32))), rc_X12_readNot a0 a1 I = some y → sm_E l dd mX12_readNot [.inr (.inl a0), .inl a1] (I, R) (.inl none) (y.2, R)) (hrc_X12_readAnd : ∀ (a0 : Nat) (a1 : Int32) (I : (Nat → Nat → Int32)) (y : (Unit × (Nat → Nat → Int32))), rc_X12_readAnd a0 a1 I = some y → sm_E l dd mX12_readAnd [.inr (.inl a0), .inl a1] (I, R) (.inl none) (y.2, R)) (hrc_X12_readExpression : ∀ (a0 : Nat) (a1 : Int32) (I : (Nat → Nat → Int32)) (y : (Unit × (Nat → Nat → Int32))), rc_X12_readExpression a0 a1 I = some y → sm_E l dd mX12_readExpression [.inr (.inl a0), .inl a1] (I, R) (.inl none) (y.2, R)) (hrc_X12_readPart : ∀ (a0 : Nat) (a1 : Int32) (I : (Nat → Nat → Int32)) (y : (Unit × (Nat → Nat → Int32))), rc_X12_readPart a0 a1 I = some y → sm_E l dd mX12_readPart [.inr (.inl a0), .inl a1] (I, R) (.inl none) (y.2, R)) (k_95 : Nat → Int32 → Int32 → (Nat → Nat → Int32) → Option (Unit × (Nat → Nat → Int32))) (hk_95 : ∀ (a0 : Nat) (a2 : Int32) (a3 : Int32) (I : (Nat → Nat → Int32)) (y : (Unit × (Nat → Nat → Int32))), k_95 a0 a2 a3 I = some y → sm_W l (dd + 1) mX12_readNot 95 [(0, .inr (.inl a0)), (2, .inl a2), (3, .inl a3)] [] (I, R) (.inl none) (y.2, R)) : ∀ (a0 : Nat) (a1 : Int32) (a2 : Int32) (b0 : Int32) (I : (Nat → Nat → Int32)) (y : (Unit × (Nat → Nat → Int32))), f_X12_readNot_78 N R rc_X12_readProduct rc_X12_readSum rc_X12_readNot rc_X12_readAnd rc_X12_readExpression rc_X12_readPart k_95 a0 a1 a2 b0 I = some y → sm_W l (dd + 1) mX12_readNot 78 [(0, .inr (.inl a0)), (1, .inl a1), (2, .inl a2)] [.inl b0] (I, R) (.inl none) (y.2, R) := by
  intro a0 a1 a2 b0 I y h
  unfold f_X12_readNot_78 at h
  refine sm_istore_n (L' := [(3, .inl b0), (0, .inr (.inl a0)), (1, .inl a1), (2, .inl a2)]) (q := 79) dX12_readNot_78 rfl rfl (by decide) rfl ?_
  refine sm_aload_n (q := 80) dX12_readNot_79 rfl rfl 1 rfl ?_
  obtain ⟨hc1, h⟩ := sm_gd_e h
  obtain ⟨p2, hc_p2, h⟩ := sm_bd_e h
  refine sm_callVv (q := 83) (As := []) (S := []) (e_X12_stepOn hc_p2) mv_X12_226 hc1 rfl (by omega) (Nat.le_of_ble_eq_true rfl) dX12_readNot_80 rfl ?_
  refine sm_aload_n (q := 84) dX12_readNot_83 rfl rfl 1 rfl ?_
  refine sm_iload_n (q := 85) dX12_readNot_84 rfl rfl 2 rfl ?_
  obtain ⟨p3, hc_p3, h⟩ := sm_bd_e h
  refine sm_callVv (q := 88) (As := [.inl a1]) (S := []) (hrc_X12_readSum _ _ _ _ hc_p3) mv_X12_256 hc1 rfl (by omega) (Nat.le_of_ble_eq_true rfl) dX12_readNot_85 rfl ?_
  refine sm_aload_n (q := 89) dX12_readNot_88 rfl rfl 1 rfl ?_
  refine sm_iload_n (q := 90) dX12_readNot_89 rfl rfl 0 rfl ?_
  obtain ⟨p4, hc_p4, h⟩ := sm_bd_e h
  refine sm_callVv (q := 93) (As := [.inl b0]) (S := []) (e_X12_lay hc_p4) mv_X12_235 hc1 rfl (by omega) (Nat.le_of_ble_eq_true rfl) dX12_readNot_90 rfl ?_
  refine sm_iconst (v := 0) (q := 94) dX12_readNot_93 rfl (by decide) ?_
  refine sm_istore_n (L' := [(3, .inl (0 : Int32)), (0, .inr (.inl a0)), (1, .inl a1), (2, .inl a2)]) (q := 95) dX12_readNot_94 rfl rfl (by decide) rfl ?_
  refine sm_pick [1, 3, 0] rfl ?_
  exact hk_95 _ _ _ _ _ h
set_option maxHeartbeats 4000000 in
set_option maxRecDepth 100000 in
theorem w_X12_readNot_62 {l : Launch} (N : Nat) (R : Nat → Nat → Nat) (rc_X12_readProduct : Nat → Int32 → (Nat → Nat → Int32) → Option (Unit × (Nat → Nat → Int32))) (rc_X12_readSum : Nat → Int32 → (Nat → Nat → Int32) → Option (Unit × (Nat → Nat → Int32))) (rc_X12_readNot : Nat → Int32 → (Nat → Nat → Int32) → Option (Unit × (Nat → Nat → Int32))) (rc_X12_readAnd : Nat → Int32 → (Nat → Nat → Int32) → Option (Unit × (Nat → Nat → Int32))) (rc_X12_readExpression : Nat → Int32 → (Nat → Nat → Int32) → Option (Unit × (Nat → Nat → Int32))) (rc_X12_readPart : Nat → Int32 → (Nat → Nat → Int32) → Option (Unit × (Nat → Nat → Int32))) (dd : Nat) (hdd : 6 ≤ dd) (hrc_X12_readProduct : ∀ (a0 : Nat) (a1 : Int32) (I : (Nat → Nat → Int32)) (y : (Unit × (Nat → Nat → Int32))), rc_X12_readProduct a0 a1 I = some y → sm_E l dd mX12_readProduct [.inr (.inl a0), .inl a1] (I, R) (.inl none) (y.2, R)) (hrc_X12_readSum : ∀ (a0 : Nat) (a1 : Int32) (I : (Nat → Nat → Int32)) (y : (Unit × (Nat → Nat → Int32))), rc_X12_readSum a0 a1 I = some y → sm_E l dd mX12_readSum [.inr (.inl a0), .inl a1] (I, R) (.inl none) (y.2, R)) (hrc_X12_readNot : ∀ (a0 : Nat) (a1 : Int32) (I : (Nat → Nat → Int32)) (y : (Unit × (Nat → Nat → Int32))), rc_X12_readNot a0 a1 I = some y → sm_E l dd mX12_readNot [.inr (.inl a0), .inl a1] (I, R) (.inl none) (y.2, R)) (hrc_X12_readAnd : ∀ (a0 : Nat) (a1 : Int32) (I : (Nat → Nat → Int32)) (y : (Unit × (Nat → Nat → Int32))), rc_X12_readAnd a0 a1 I = some y → sm_E l dd mX12_readAnd [.inr (.inl a0), .inl a1] (I, R) (.inl none) (y.2, R)) (hrc_X12_readExpression : ∀ (a0 : Nat) (a1 : Int32) (I : (Nat → Nat → Int32)) (y : (Unit × (Nat → Nat → Int32))), rc_X12_readExpression a0 a1 I = some y → sm_E l dd mX12_readExpression [.inr (.inl a0), .inl a1] (I, R) (.inl none) (y.2, R)) (hrc_X12_readPart : ∀ (a0 : Nat) (a1 : Int32) (I : (Nat → Nat → Int32)) (y : (Unit × (Nat → Nat → Int32))), rc_X12_readPart a0 a1 I = some y → sm_E l dd mX12_readPart [.inr (.inl a0), .inl a1] (I, R) (.inl none) (y.2, R)) (k_95 : Nat → Int32 → Int32 → (Nat → Nat → Int32) → Option (Unit × (Nat → Nat → Int32))) (hk_95 : ∀ (a0 : Nat) (a2 : Int32) (a3 : Int32) (I : (Nat → Nat → Int32)) (y : (Unit × (Nat → Nat → Int32))), k_95 a0 a2 a3 I = some y → sm_W l (dd + 1) mX12_readNot 95 [(0, .inr (.inl a0)), (2, .inl a2), (3, .inl a3)] [] (I, R) (.inl none) (y.2, R)) : ∀ (a0 : Nat) (a1 : Int32) (a2 : Int32) (I : (Nat → Nat → Int32)) (y : (Unit × (Nat → Nat → Int32))), f_X12_readNot_62 N R rc_X12_readProduct rc_X12_readSum rc_X12_readNot rc_X12_readAnd rc_X12_readExpression rc_X12_readPart k_95 a0 a1 a2 I = some y → sm_W l (dd + 1) mX12_readNot 62 [(0, .inr (.inl a0)), (1, .inl a1), (2, .inl a2)] [] (I, R) (.inl none) (y.2, R) := by
  intro a0 a1 a2 I y h
  unfold f_X12_readNot_62 at h
  refine sm_aload_n (q := 63) dX12_readNot_62 rfl rfl 0 rfl ?_
  refine sm_bipush (v := 60) (q := 65) dX12_readNot_63 rfl (by decide) ?_
  obtain ⟨hc1, h⟩ := sm_gd_e h
  obtain ⟨p2, hc_p2, h⟩ := sm_bd_e h
  refine sm_callVi (q := 68) (As := [.inl (60 : Int32)]) (S := []) (e_X12_isMarked hc_p2) mv_X12_219 hc1 rfl (by omega) (Nat.le_of_ble_eq_true rfl) dX12_readNot_65 rfl ?_
  rcases sm_if_e h with ⟨hb3, h⟩ | ⟨hb3, h⟩
  · refine sm_if_eq (tgt := 76) (q := 71) dX12_readNot_68 (by decide) rfl (fun _ => ?_) (fun hn => absurd hb3 hn)
    refine sm_bipush (v := -25) (q := 78) dX12_readNot_76 rfl (by decide) ?_
    refine sm_pick [0, 1, 2] rfl ?_
    exact w_X12_readNot_78 N R rc_X12_readProduct rc_X12_readSum rc_X12_readNot rc_X12_readAnd rc_X12_readExpression rc_X12_readPart dd hdd hrc_X12_readProduct hrc_X12_readSum hrc_X12_readNot hrc_X12_readAnd hrc_X12_readExpression hrc_X12_readPart k_95 hk_95 _ _ _ _ _ _ h
  · refine sm_if_eq (tgt := 76) (q := 71) dX12_readNot_68 (by decide) rfl (fun ht => absurd ht hb3) (fun _ => ?_)
    refine sm_bipush (v := -24) (q := 73) dX12_readNot_71 rfl (by decide) ?_
    refine sm_goto (q := 78) dX12_readNot_73 (by decide) ?_
    refine sm_pick [0, 1, 2] rfl ?_
    exact w_X12_readNot_78 N R rc_X12_readProduct rc_X12_readSum rc_X12_readNot rc_X12_readAnd rc_X12_readExpression rc_X12_readPart dd hdd hrc_X12_readProduct hrc_X12_readSum hrc_X12_readNot hrc_X12_readAnd hrc_X12_readExpression hrc_X12_readPart k_95 hk_95 _ _ _ _ _ _ h
set_option maxHeartbeats 4000000 in
set_option maxRecDepth 100000 in
theorem w_X12_readNot_95 {l : Launch} (N : Nat) (R : Nat → Nat → Nat) (rc_X12_readProduct : Nat → Int32 → (Nat → Nat → Int32) → Option (Unit × (Nat → Nat → Int32))) (rc_X12_readSum : Nat → Int32 → (Nat → Nat → Int32) → Option (Unit × (Nat → Nat → Int32))) (rc_X12_readNot : Nat → Int32 → (Nat → Nat → Int32) → Option (Unit × (Nat → Nat → Int32))) (rc_X12_readAnd : Nat → Int32 → (Nat → Nat → Int32) → Option (Unit × (Nat → Nat → Int32))) (rc_X12_readExpression : Nat → Int32 → (Nat → Nat → Int32) → Option (Unit × (Nat → Nat → Int32))) (rc_X12_readPart : Nat → Int32 → (Nat → Nat → Int32) → Option (Unit × (Nat → Nat → Int32))) (dd : Nat) (hdd : 6 ≤ dd) (hrc_X12_readProduct : ∀ (a0 : Nat) (a1 : Int32) (I : (Nat → Nat → Int32)) (y : (Unit × (Nat → Nat → Int32))), rc_X12_readProduct a0 a1 I = some y → sm_E l dd mX12_readProduct [.inr (.inl a0), .inl a1] (I, R) (.inl none) (y.2, R)) (hrc_X12_readSum : ∀ (a0 : Nat) (a1 : Int32) (I : (Nat → Nat → Int32)) (y : (Unit × (Nat → Nat → Int32))), rc_X12_readSum a0 a1 I = some y → sm_E l dd mX12_readSum [.inr (.inl a0), .inl a1] (I, R) (.inl none) (y.2, R)) (hrc_X12_readNot : ∀ (a0 : Nat) (a1 : Int32) (I : (Nat → Nat → Int32)) (y : (Unit × (Nat → Nat → Int32))), rc_X12_readNot a0 a1 I = some y → sm_E l dd mX12_readNot [.inr (.inl a0), .inl a1] (I, R) (.inl none) (y.2, R)) (hrc_X12_readAnd : ∀ (a0 : Nat) (a1 : Int32) (I : (Nat → Nat → Int32)) (y : (Unit × (Nat → Nat → Int32))), rc_X12_readAnd a0 a1 I = some y → sm_E l dd mX12_readAnd [.inr (.inl a0), .inl a1] (I, R) (.inl none) (y.2, R)) (hrc_X12_readExpression : ∀ (a0 : Nat) (a1 : Int32) (I : (Nat → Nat → Int32)) (y : (Unit × (Nat → Nat → Int32))), rc_X12_readExpression a0 a1 I = some y → sm_E l dd mX12_readExpression [.inr (.inl a0), .inl a1] (I, R) (.inl none) (y.2, R)) (hrc_X12_readPart : ∀ (a0 : Nat) (a1 : Int32) (I : (Nat → Nat → Int32)) (y : (Unit × (Nat → Nat → Int32))), rc_X12_readPart a0 a1 I = some y → sm_E l dd mX12_readPart [.inr (.inl a0), .inl a1] (I, R) (.inl none) (y.2, R)) : ∀ (n : Nat) (a0 : Nat) (a2 : Int32) (a3 : Int32) (I : (Nat → Nat → Int32)) (y : (Unit × (Nat → Nat → Int32))), f_X12_readNot_95 N R rc_X12_readProduct rc_X12_readSum rc_X12_readNot rc_X12_readAnd rc_X12_readExpression rc_X12_readPart n a0 a2 a3 I = some y → sm_W l (dd + 1) mX12_readNot 95 [(0, .inr (.inl a0)), (2, .inl a2), (3, .inl a3)] [] (I, R) (.inl none) (y.2, R) := by
  intro n
  induction n with
  | zero => intro a0 a2 a3 I y h; cases h
  | succ n ih =>
    intro a0 a2 a3 I y h
    rw [f_X12_readNot_95] at h
    refine sm_iload_n (q := 96) dX12_readNot_95 rfl rfl 2 rfl ?_
    refine sm_iload_n (q := 97) dX12_readNot_96 rfl rfl 1 rfl ?_
    rcases sm_if_e h with ⟨hb1, h⟩ | ⟨hb1, h⟩
    · refine sm_icmp_ge (tgt := 112) (q := 100) dX12_readNot_97 (by decide) rfl (fun _ => ?_) (fun hn => absurd hb1 hn)
      obtain rfl := Option.some.inj h
      exact sm_vret dX12_readNot_112 rfl
    · refine sm_icmp_ge (tgt := 112) (q := 100) dX12_readNot_97 (by decide) rfl (fun ht => absurd ht hb1) (fun _ => ?_)
      refine sm_aload_n (q := 101) dX12_readNot_100 rfl rfl 0 rfl ?_
      refine sm_bipush (v := -28) (q := 103) dX12_readNot_101 rfl (by decide) ?_
      obtain ⟨hc2, h⟩ := sm_gd_e h
      obtain ⟨p3, hc_p3, h⟩ := sm_bd_e h
      refine sm_callVv (q := 106) (As := [.inl (-28 : Int32)]) (S := []) (e_X12_lay hc_p3) mv_X12_235 hc2 rfl (by omega) (Nat.le_of_ble_eq_true rfl) dX12_readNot_103 rfl ?_
      refine sm_iinc (v := (a3 + 1)) (L' := [(3, .inl (a3 + 1)), (0, .inr (.inl a0)), (2, .inl a2)]) (q := 109) dX12_readNot_106 rfl 2 rfl rfl (by decide) rfl ?_
      refine sm_goto (q := 95) dX12_readNot_109 (by decide) ?_
      refine sm_pick [1, 2, 0] rfl ?_
      exact ih _ _ _ _ _ h
set_option maxHeartbeats 4000000 in
set_option maxRecDepth 100000 in
theorem w_X12_readNot_2 {l : Launch} (N : Nat) (R : Nat → Nat → Nat) (rc_X12_readProduct : Nat → Int32 → (Nat → Nat → Int32) → Option (Unit × (Nat → Nat → Int32))) (rc_X12_readSum : Nat → Int32 → (Nat → Nat → Int32) → Option (Unit × (Nat → Nat → Int32))) (rc_X12_readNot : Nat → Int32 → (Nat → Nat → Int32) → Option (Unit × (Nat → Nat → Int32))) (rc_X12_readAnd : Nat → Int32 → (Nat → Nat → Int32) → Option (Unit × (Nat → Nat → Int32))) (rc_X12_readExpression : Nat → Int32 → (Nat → Nat → Int32) → Option (Unit × (Nat → Nat → Int32))) (rc_X12_readPart : Nat → Int32 → (Nat → Nat → Int32) → Option (Unit × (Nat → Nat → Int32))) (dd : Nat) (hdd : 6 ≤ dd) (hrc_X12_readProduct : ∀ (a0 : Nat) (a1 : Int32) (I : (Nat → Nat → Int32)) (y : (Unit × (Nat → Nat → Int32))), rc_X12_readProduct a0 a1 I = some y → sm_E l dd mX12_readProduct [.inr (.inl a0), .inl a1] (I, R) (.inl none) (y.2, R)) (hrc_X12_readSum : ∀ (a0 : Nat) (a1 : Int32) (I : (Nat → Nat → Int32)) (y : (Unit × (Nat → Nat → Int32))), rc_X12_readSum a0 a1 I = some y → sm_E l dd mX12_readSum [.inr (.inl a0), .inl a1] (I, R) (.inl none) (y.2, R)) (hrc_X12_readNot : ∀ (a0 : Nat) (a1 : Int32) (I : (Nat → Nat → Int32)) (y : (Unit × (Nat → Nat → Int32))), rc_X12_readNot a0 a1 I = some y → sm_E l dd mX12_readNot [.inr (.inl a0), .inl a1] (I, R) (.inl none) (y.2, R)) (hrc_X12_readAnd : ∀ (a0 : Nat) (a1 : Int32) (I : (Nat → Nat → Int32)) (y : (Unit × (Nat → Nat → Int32))), rc_X12_readAnd a0 a1 I = some y → sm_E l dd mX12_readAnd [.inr (.inl a0), .inl a1] (I, R) (.inl none) (y.2, R)) (hrc_X12_readExpression : ∀ (a0 : Nat) (a1 : Int32) (I : (Nat → Nat → Int32)) (y : (Unit × (Nat → Nat → Int32))), rc_X12_readExpression a0 a1 I = some y → sm_E l dd mX12_readExpression [.inr (.inl a0), .inl a1] (I, R) (.inl none) (y.2, R)) (hrc_X12_readPart : ∀ (a0 : Nat) (a1 : Int32) (I : (Nat → Nat → Int32)) (y : (Unit × (Nat → Nat → Int32))), rc_X12_readPart a0 a1 I = some y → sm_E l dd mX12_readPart [.inr (.inl a0), .inl a1] (I, R) (.inl none) (y.2, R)) : ∀ (n : Nat) (a0 : Nat) (a1 : Int32) (a2 : Int32) (I : (Nat → Nat → Int32)) (y : (Unit × (Nat → Nat → Int32))), f_X12_readNot_2 N R rc_X12_readProduct rc_X12_readSum rc_X12_readNot rc_X12_readAnd rc_X12_readExpression rc_X12_readPart n a0 a1 a2 I = some y → sm_W l (dd + 1) mX12_readNot 2 [(0, .inr (.inl a0)), (1, .inl a1), (2, .inl a2)] [] (I, R) (.inl none) (y.2, R) := by
  intro n
  induction n with
  | zero => intro a0 a1 a2 I y h; cases h
  | succ n ih =>
    intro a0 a1 a2 I y h
    rw [f_X12_readNot_2] at h
    refine sm_aload_n (q := 3) dX12_readNot_2 rfl rfl 0 rfl ?_
    refine sm_ldcS (tx := "not") (q := 5) dX12_readNot_3 rfl (List.mem_of_getElem? (i := 38) rfl) ?_
    obtain ⟨hc1, h⟩ := sm_gd_e h
    obtain ⟨p2, hc_p2, h⟩ := sm_bd_e h
    refine sm_callVi (q := 8) (As := [.inr (.inl (1000 + 13))]) (S := []) (e_X12_is hc_p2) mv_X12_215 hc1 rfl (by omega) (Nat.le_of_ble_eq_true rfl) dX12_readNot_5 rfl ?_
    rcases sm_if_e h with ⟨hb3, h⟩ | ⟨hb3, h⟩
    · refine sm_if_eq (tgt := 39) (q := 11) dX12_readNot_8 (by decide) rfl (fun _ => ?_) (fun hn => absurd hb3 hn)
      refine sm_aload_n (q := 40) dX12_readNot_39 rfl rfl 0 rfl ?_
      refine sm_iload_n (q := 41) dX12_readNot_40 rfl rfl 1 rfl ?_
      obtain ⟨p4, hc_p4, h⟩ := sm_bd_e h
      refine sm_callVv (q := 44) (As := [.inl a1]) (S := []) (hrc_X12_readSum _ _ _ _ hc_p4) mv_X12_256 hc1 rfl (by omega) (Nat.le_of_ble_eq_true rfl) dX12_readNot_41 rfl ?_
      refine sm_aload_n (q := 45) dX12_readNot_44 rfl rfl 0 rfl ?_
      refine sm_bipush (v := 60) (q := 47) dX12_readNot_45 rfl (by decide) ?_
      obtain ⟨p5, hc_p5, h⟩ := sm_bd_e h
      refine sm_callVi (q := 50) (As := [.inl (60 : Int32)]) (S := []) (e_X12_isMarked hc_p5) mv_X12_219 hc1 rfl (by omega) (Nat.le_of_ble_eq_true rfl) dX12_readNot_47 rfl ?_
      rcases sm_if_e h with ⟨hb6, h⟩ | ⟨hb6, h⟩
      · refine sm_if_ne (tgt := 62) (q := 53) dX12_readNot_50 (by decide) rfl (fun hn => absurd hb6 hn) (fun _ => ?_)
        refine sm_aload_n (q := 54) dX12_readNot_53 rfl rfl 0 rfl ?_
        refine sm_bipush (v := 61) (q := 56) dX12_readNot_54 rfl (by decide) ?_
        obtain ⟨p7, hc_p7, h⟩ := sm_bd_e h
        refine sm_callVi (q := 59) (As := [.inl (61 : Int32)]) (S := []) (e_X12_isMarked hc_p7) mv_X12_219 hc1 rfl (by omega) (Nat.le_of_ble_eq_true rfl) dX12_readNot_56 rfl ?_
        rcases sm_if_e h with ⟨hb8, h⟩ | ⟨hb8, h⟩
        · refine sm_if_eq (tgt := 93) (q := 62) dX12_readNot_59 (by decide) rfl (fun _ => ?_) (fun hn => absurd hb8 hn)
          refine sm_iconst (v := 0) (q := 94) dX12_readNot_93 rfl (by decide) ?_
          refine sm_istore_n (L' := [(3, .inl (0 : Int32)), (0, .inr (.inl a0)), (1, .inl a1), (2, .inl a2)]) (q := 95) dX12_readNot_94 rfl rfl (by decide) rfl ?_
          refine sm_pick [1, 3, 0] rfl ?_
          exact w_X12_readNot_95 N R rc_X12_readProduct rc_X12_readSum rc_X12_readNot rc_X12_readAnd rc_X12_readExpression rc_X12_readPart dd hdd hrc_X12_readProduct hrc_X12_readSum hrc_X12_readNot hrc_X12_readAnd hrc_X12_readExpression hrc_X12_readPart N _ _ _ _ _ h
        · refine sm_if_eq (tgt := 93) (q := 62) dX12_readNot_59 (by decide) rfl (fun ht => absurd ht hb8) (fun _ => ?_)
          refine sm_pick [0, 1, 2] rfl ?_
          exact w_X12_readNot_62 N R rc_X12_readProduct rc_X12_readSum rc_X12_readNot rc_X12_readAnd rc_X12_readExpression rc_X12_readPart dd hdd hrc_X12_readProduct hrc_X12_readSum hrc_X12_readNot hrc_X12_readAnd hrc_X12_readExpression hrc_X12_readPart (fun z0 z1 z2 J => f_X12_readNot_95 N R rc_X12_readProduct rc_X12_readSum rc_X12_readNot rc_X12_readAnd rc_X12_readExpression rc_X12_readPart N z0 z1 z2 J) (fun z0 z1 z2 J y h => w_X12_readNot_95 N R rc_X12_readProduct rc_X12_readSum rc_X12_readNot rc_X12_readAnd rc_X12_readExpression rc_X12_readPart dd hdd hrc_X12_readProduct hrc_X12_readSum hrc_X12_readNot hrc_X12_readAnd hrc_X12_readExpression hrc_X12_readPart N z0 z1 z2 J y h) _ _ _ _ _ h
      · refine sm_if_ne (tgt := 62) (q := 53) dX12_readNot_50 (by decide) rfl (fun _ => ?_) (fun he => absurd he hb6)
        refine sm_pick [0, 1, 2] rfl ?_
        exact w_X12_readNot_62 N R rc_X12_readProduct rc_X12_readSum rc_X12_readNot rc_X12_readAnd rc_X12_readExpression rc_X12_readPart dd hdd hrc_X12_readProduct hrc_X12_readSum hrc_X12_readNot hrc_X12_readAnd hrc_X12_readExpression hrc_X12_readPart (fun z0 z1 z2 J => f_X12_readNot_95 N R rc_X12_readProduct rc_X12_readSum rc_X12_readNot rc_X12_readAnd rc_X12_readExpression rc_X12_readPart N z0 z1 z2 J) (fun z0 z1 z2 J y h => w_X12_readNot_95 N R rc_X12_readProduct rc_X12_readSum rc_X12_readNot rc_X12_readAnd rc_X12_readExpression rc_X12_readPart dd hdd hrc_X12_readProduct hrc_X12_readSum hrc_X12_readNot hrc_X12_readAnd hrc_X12_readExpression hrc_X12_readPart N z0 z1 z2 J y h) _ _ _ _ _ h
    · refine sm_if_eq (tgt := 39) (q := 11) dX12_readNot_8 (by decide) rfl (fun ht => absurd ht hb3) (fun _ => ?_)
      refine sm_iload_n (q := 12) dX12_readNot_11 rfl rfl 2 rfl ?_
      refine sm_bipush (v := 6) (q := 14) dX12_readNot_12 rfl (by decide) ?_
      rcases sm_if_e h with ⟨hb9, h⟩ | ⟨hb9, h⟩
      · refine sm_icmp_ne (tgt := 22) (q := 17) dX12_readNot_14 (by decide) rfl (fun hn => absurd hb9 hn) (fun _ => ?_)
        refine sm_aload_n (q := 18) dX12_readNot_17 rfl rfl 0 rfl ?_
        refine sm_iconst (v := 2) (q := 19) dX12_readNot_18 rfl (by decide) ?_
        obtain ⟨p10, hc_p10, h⟩ := sm_bd_e h
        refine sm_callVv (q := 22) (As := [.inl (2 : Int32)]) (S := []) (e_X12_wrong hc_p10) mv_X12_222 hc1 rfl (by omega) (Nat.le_of_ble_eq_true rfl) dX12_readNot_19 rfl ?_
        refine sm_pick [0, 1, 2] rfl ?_
        exact w_X12_readNot_22 N R rc_X12_readProduct rc_X12_readSum rc_X12_readNot rc_X12_readAnd rc_X12_readExpression rc_X12_readPart dd hdd hrc_X12_readProduct hrc_X12_readSum hrc_X12_readNot hrc_X12_readAnd hrc_X12_readExpression hrc_X12_readPart (fun z0 z1 z2 J => f_X12_readNot_2 N R rc_X12_readProduct rc_X12_readSum rc_X12_readNot rc_X12_readAnd rc_X12_readExpression rc_X12_readPart n z0 z1 z2 J) (fun z0 z1 z2 J y h => ih z0 z1 z2 J y h) _ _ _ _ _ h
      · refine sm_icmp_ne (tgt := 22) (q := 17) dX12_readNot_14 (by decide) rfl (fun _ => ?_) (fun he => absurd he hb9)
        refine sm_pick [0, 1, 2] rfl ?_
        exact w_X12_readNot_22 N R rc_X12_readProduct rc_X12_readSum rc_X12_readNot rc_X12_readAnd rc_X12_readExpression rc_X12_readPart dd hdd hrc_X12_readProduct hrc_X12_readSum hrc_X12_readNot hrc_X12_readAnd hrc_X12_readExpression hrc_X12_readPart (fun z0 z1 z2 J => f_X12_readNot_2 N R rc_X12_readProduct rc_X12_readSum rc_X12_readNot rc_X12_readAnd rc_X12_readExpression rc_X12_readPart n z0 z1 z2 J) (fun z0 z1 z2 J y h => ih z0 z1 z2 J y h) _ _ _ _ _ h
set_option maxHeartbeats 4000000 in
set_option maxRecDepth 100000 in
theorem w_X12_readNot {l : Launch} (N : Nat) (R : Nat → Nat → Nat) (rc_X12_readProduct : Nat → Int32 → (Nat → Nat → Int32) → Option (Unit × (Nat → Nat → Int32))) (rc_X12_readSum : Nat → Int32 → (Nat → Nat → Int32) → Option (Unit × (Nat → Nat → Int32))) (rc_X12_readNot : Nat → Int32 → (Nat → Nat → Int32) → Option (Unit × (Nat → Nat → Int32))) (rc_X12_readAnd : Nat → Int32 → (Nat → Nat → Int32) → Option (Unit × (Nat → Nat → Int32))) (rc_X12_readExpression : Nat → Int32 → (Nat → Nat → Int32) → Option (Unit × (Nat → Nat → Int32))) (rc_X12_readPart : Nat → Int32 → (Nat → Nat → Int32) → Option (Unit × (Nat → Nat → Int32))) (dd : Nat) (hdd : 6 ≤ dd) (hrc_X12_readProduct : ∀ (a0 : Nat) (a1 : Int32) (I : (Nat → Nat → Int32)) (y : (Unit × (Nat → Nat → Int32))), rc_X12_readProduct a0 a1 I = some y → sm_E l dd mX12_readProduct [.inr (.inl a0), .inl a1] (I, R) (.inl none) (y.2, R)) (hrc_X12_readSum : ∀ (a0 : Nat) (a1 : Int32) (I : (Nat → Nat → Int32)) (y : (Unit × (Nat → Nat → Int32))), rc_X12_readSum a0 a1 I = some y → sm_E l dd mX12_readSum [.inr (.inl a0), .inl a1] (I, R) (.inl none) (y.2, R)) (hrc_X12_readNot : ∀ (a0 : Nat) (a1 : Int32) (I : (Nat → Nat → Int32)) (y : (Unit × (Nat → Nat → Int32))), rc_X12_readNot a0 a1 I = some y → sm_E l dd mX12_readNot [.inr (.inl a0), .inl a1] (I, R) (.inl none) (y.2, R)) (hrc_X12_readAnd : ∀ (a0 : Nat) (a1 : Int32) (I : (Nat → Nat → Int32)) (y : (Unit × (Nat → Nat → Int32))), rc_X12_readAnd a0 a1 I = some y → sm_E l dd mX12_readAnd [.inr (.inl a0), .inl a1] (I, R) (.inl none) (y.2, R)) (hrc_X12_readExpression : ∀ (a0 : Nat) (a1 : Int32) (I : (Nat → Nat → Int32)) (y : (Unit × (Nat → Nat → Int32))), rc_X12_readExpression a0 a1 I = some y → sm_E l dd mX12_readExpression [.inr (.inl a0), .inl a1] (I, R) (.inl none) (y.2, R)) (hrc_X12_readPart : ∀ (a0 : Nat) (a1 : Int32) (I : (Nat → Nat → Int32)) (y : (Unit × (Nat → Nat → Int32))), rc_X12_readPart a0 a1 I = some y → sm_E l dd mX12_readPart [.inr (.inl a0), .inl a1] (I, R) (.inl none) (y.2, R)) : ∀ (a0 : Nat) (a1 : Int32) (I : (Nat → Nat → Int32)) (y : (Unit × (Nat → Nat → Int32))), f_X12_readNot N R rc_X12_readProduct rc_X12_readSum rc_X12_readNot rc_X12_readAnd rc_X12_readExpression rc_X12_readPart a0 a1 I = some y → sm_W l (dd + 1) mX12_readNot 0 [(0, .inr (.inl a0)), (1, .inl a1)] [] (I, R) (.inl none) (y.2, R) := by
  intro a0 a1 I y h
  unfold f_X12_readNot at h
  refine sm_iconst (v := 0) (q := 1) dX12_readNot_0 rfl (by decide) ?_
  refine sm_istore_n (L' := [(2, .inl (0 : Int32)), (0, .inr (.inl a0)), (1, .inl a1)]) (q := 2) dX12_readNot_1 rfl rfl (by decide) rfl ?_
  refine sm_pick [1, 2, 0] rfl ?_
  exact w_X12_readNot_2 N R rc_X12_readProduct rc_X12_readSum rc_X12_readNot rc_X12_readAnd rc_X12_readExpression rc_X12_readPart dd hdd hrc_X12_readProduct hrc_X12_readSum hrc_X12_readNot hrc_X12_readAnd hrc_X12_readExpression hrc_X12_readPart N _ _ _ _ _ h
def f_X12_readAnd_5 (N : Nat) (R : Nat → Nat → Nat) (rc_X12_readProduct : Nat → Int32 → (Nat → Nat → Int32) → Option (Unit × (Nat → Nat → Int32))) (rc_X12_readSum : Nat → Int32 → (Nat → Nat → Int32) → Option (Unit × (Nat → Nat → Int32))) (rc_X12_readNot : Nat → Int32 → (Nat → Nat → Int32) → Option (Unit × (Nat → Nat → Int32))) (rc_X12_readAnd : Nat → Int32 → (Nat → Nat → Int32) → Option (Unit × (Nat → Nat → Int32))) (rc_X12_readExpression : Nat → Int32 → (Nat → Nat → Int32) → Option (Unit × (Nat → Nat → Int32))) (rc_X12_readPart : Nat → Int32 → (Nat → Nat → Int32) → Option (Unit × (Nat → Nat → Int32))) : Nat → Nat → Int32 → (Nat → Nat → Int32) → Option (Unit × (Nat → Nat → Int32))
  | 0, _, _, _ => none
  | n + 1, a0, a1, I =>
    sm_gd (sm_kd a0 = (12, 59)) <|
    (f_X12_is N R a0 (1000 + 15) I).bind fun p2 =>
    if p2.1 = 0 then (
      some ((), p2.2))
    else (
      (f_X12_stepOn N R a0 p2.2).bind fun p4 =>
      (rc_X12_readNot a0 a1 p4.2).bind fun p5 =>
      (f_X12_lay N R a0 (-26 : Int32) p5.2).bind fun p6 =>
      f_X12_readAnd_5 N R rc_X12_readProduct rc_X12_readSum rc_X12_readNot rc_X12_readAnd rc_X12_readExpression rc_X12_readPart n a0 a1 p6.2)
def f_X12_readAnd (N : Nat) (R : Nat → Nat → Nat) (rc_X12_readProduct : Nat → Int32 → (Nat → Nat → Int32) → Option (Unit × (Nat → Nat → Int32))) (rc_X12_readSum : Nat → Int32 → (Nat → Nat → Int32) → Option (Unit × (Nat → Nat → Int32))) (rc_X12_readNot : Nat → Int32 → (Nat → Nat → Int32) → Option (Unit × (Nat → Nat → Int32))) (rc_X12_readAnd : Nat → Int32 → (Nat → Nat → Int32) → Option (Unit × (Nat → Nat → Int32))) (rc_X12_readExpression : Nat → Int32 → (Nat → Nat → Int32) → Option (Unit × (Nat → Nat → Int32))) (rc_X12_readPart : Nat → Int32 → (Nat → Nat → Int32) → Option (Unit × (Nat → Nat → Int32))) : Nat → Int32 → (Nat → Nat → Int32) → Option (Unit × (Nat → Nat → Int32)) := fun a0 a1 I =>
  sm_gd (sm_kd a0 = (12, 59)) <|
  (rc_X12_readNot a0 a1 I).bind fun p2 =>
  f_X12_readAnd_5 N R rc_X12_readProduct rc_X12_readSum rc_X12_readNot rc_X12_readAnd rc_X12_readExpression rc_X12_readPart N a0 a1 p2.2
set_option maxHeartbeats 4000000 in
set_option maxRecDepth 100000 in
theorem w_X12_readAnd_5 {l : Launch} (N : Nat) (R : Nat → Nat → Nat) (rc_X12_readProduct : Nat → Int32 → (Nat → Nat → Int32) → Option (Unit × (Nat → Nat → Int32))) (rc_X12_readSum : Nat → Int32 → (Nat → Nat → Int32) → Option (Unit × (Nat → Nat → Int32))) (rc_X12_readNot : Nat → Int32 → (Nat → Nat → Int32) → Option (Unit × (Nat → Nat → Int32))) (rc_X12_readAnd : Nat → Int32 → (Nat → Nat → Int32) → Option (Unit × (Nat → Nat → Int32))) (rc_X12_readExpression : Nat → Int32 → (Nat → Nat → Int32) → Option (Unit × (Nat → Nat → Int32))) (rc_X12_readPart : Nat → Int32 → (Nat → Nat → Int32) → Option (Unit × (Nat → Nat → Int32))) (dd : Nat) (hdd : 6 ≤ dd) (hrc_X12_readProduct : ∀ (a0 : Nat) (a1 : Int32) (I : (Nat → Nat → Int32)) (y : (Unit × (Nat → Nat → Int32))), rc_X12_readProduct a0 a1 I = some y → sm_E l dd mX12_readProduct [.inr (.inl a0), .inl a1] (I, R) (.inl none) (y.2, R)) (hrc_X12_readSum : ∀ (a0 : Nat) (a1 : Int32) (I : (Nat → Nat → Int32)) (y : (Unit × (Nat → Nat → Int32))), rc_X12_readSum a0 a1 I = some y → sm_E l dd mX12_readSum [.inr (.inl a0), .inl a1] (I, R) (.inl none) (y.2, R)) (hrc_X12_readNot : ∀ (a0 : Nat) (a1 : Int32) (I : (Nat → Nat → Int32)) (y : (Unit × (Nat → Nat → Int32))), rc_X12_readNot a0 a1 I = some y → sm_E l dd mX12_readNot [.inr (.inl a0), .inl a1] (I, R) (.inl none) (y.2, R)) (hrc_X12_readAnd : ∀ (a0 : Nat) (a1 : Int32) (I : (Nat → Nat → Int32)) (y : (Unit × (Nat → Nat → Int32))), rc_X12_readAnd a0 a1 I = some y → sm_E l dd mX12_readAnd [.inr (.inl a0), .inl a1] (I, R) (.inl none) (y.2, R)) (hrc_X12_readExpression : ∀ (a0 : Nat) (a1 : Int32) (I : (Nat → Nat → Int32)) (y : (Unit × (Nat → Nat → Int32))), rc_X12_readExpression a0 a1 I = some y → sm_E l dd mX12_readExpression [.inr (.inl a0), .inl a1] (I, R) (.inl none) (y.2, R)) (hrc_X12_readPart : ∀ (a0 : Nat) (a1 : Int32) (I : (Nat → Nat → Int32)) (y : (Unit × (Nat → Nat → Int32))), rc_X12_readPart a0 a1 I = some y → sm_E l dd mX12_readPart [.inr (.inl a0), .inl a1] (I, R) (.inl none) (y.2, R)) : ∀ (n : Nat) (a0 : Nat) (a1 : Int32) (I : (Nat → Nat → Int32)) (y : (Unit × (Nat → Nat → Int32))), f_X12_readAnd_5 N R rc_X12_readProduct rc_X12_readSum rc_X12_readNot rc_X12_readAnd rc_X12_readExpression rc_X12_readPart n a0 a1 I = some y → sm_W l (dd + 1) mX12_readAnd 5 [(0, .inr (.inl a0)), (1, .inl a1)] [] (I, R) (.inl none) (y.2, R) := by
  intro n
  induction n with
  | zero => intro a0 a1 I y h; cases h
  | succ n ih =>
    intro a0 a1 I y h
    rw [f_X12_readAnd_5] at h
    refine sm_aload_n (q := 6) dX12_readAnd_5 rfl rfl 0 rfl ?_
    refine sm_ldcSw (tx := "and") (q := 9) dX12_readAnd_6 rfl (List.mem_of_getElem? (i := 39) rfl) ?_
    obtain ⟨hc1, h⟩ := sm_gd_e h
    obtain ⟨p2, hc_p2, h⟩ := sm_bd_e h
    refine sm_callVi (q := 12) (As := [.inr (.inl (1000 + 15))]) (S := []) (e_X12_is hc_p2) mv_X12_215 hc1 rfl (by omega) (Nat.le_of_ble_eq_true rfl) dX12_readAnd_9 rfl ?_
    rcases sm_if_e h with ⟨hb3, h⟩ | ⟨hb3, h⟩
    · refine sm_if_eq (tgt := 33) (q := 15) dX12_readAnd_12 (by decide) rfl (fun _ => ?_) (fun hn => absurd hb3 hn)
      obtain rfl := Option.some.inj h
      exact sm_vret dX12_readAnd_33 rfl
    · refine sm_if_eq (tgt := 33) (q := 15) dX12_readAnd_12 (by decide) rfl (fun ht => absurd ht hb3) (fun _ => ?_)
      refine sm_aload_n (q := 16) dX12_readAnd_15 rfl rfl 0 rfl ?_
      obtain ⟨p4, hc_p4, h⟩ := sm_bd_e h
      refine sm_callVv (q := 19) (As := []) (S := []) (e_X12_stepOn hc_p4) mv_X12_226 hc1 rfl (by omega) (Nat.le_of_ble_eq_true rfl) dX12_readAnd_16 rfl ?_
      refine sm_aload_n (q := 20) dX12_readAnd_19 rfl rfl 0 rfl ?_
      refine sm_iload_n (q := 21) dX12_readAnd_20 rfl rfl 1 rfl ?_
      obtain ⟨p5, hc_p5, h⟩ := sm_bd_e h
      refine sm_callVv (q := 24) (As := [.inl a1]) (S := []) (hrc_X12_readNot _ _ _ _ hc_p5) mv_X12_259 hc1 rfl (by omega) (Nat.le_of_ble_eq_true rfl) dX12_readAnd_21 rfl ?_
      refine sm_aload_n (q := 25) dX12_readAnd_24 rfl rfl 0 rfl ?_
      refine sm_bipush (v := -26) (q := 27) dX12_readAnd_25 rfl (by decide) ?_
      obtain ⟨p6, hc_p6, h⟩ := sm_bd_e h
      refine sm_callVv (q := 30) (As := [.inl (-26 : Int32)]) (S := []) (e_X12_lay hc_p6) mv_X12_235 hc1 rfl (by omega) (Nat.le_of_ble_eq_true rfl) dX12_readAnd_27 rfl ?_
      refine sm_goto (q := 5) dX12_readAnd_30 (by decide) ?_
      refine sm_pick [0, 1] rfl ?_
      exact ih _ _ _ _ h
set_option maxHeartbeats 4000000 in
set_option maxRecDepth 100000 in
theorem w_X12_readAnd {l : Launch} (N : Nat) (R : Nat → Nat → Nat) (rc_X12_readProduct : Nat → Int32 → (Nat → Nat → Int32) → Option (Unit × (Nat → Nat → Int32))) (rc_X12_readSum : Nat → Int32 → (Nat → Nat → Int32) → Option (Unit × (Nat → Nat → Int32))) (rc_X12_readNot : Nat → Int32 → (Nat → Nat → Int32) → Option (Unit × (Nat → Nat → Int32))) (rc_X12_readAnd : Nat → Int32 → (Nat → Nat → Int32) → Option (Unit × (Nat → Nat → Int32))) (rc_X12_readExpression : Nat → Int32 → (Nat → Nat → Int32) → Option (Unit × (Nat → Nat → Int32))) (rc_X12_readPart : Nat → Int32 → (Nat → Nat → Int32) → Option (Unit × (Nat → Nat → Int32))) (dd : Nat) (hdd : 6 ≤ dd) (hrc_X12_readProduct : ∀ (a0 : Nat) (a1 : Int32) (I : (Nat → Nat → Int32)) (y : (Unit × (Nat → Nat → Int32))), rc_X12_readProduct a0 a1 I = some y → sm_E l dd mX12_readProduct [.inr (.inl a0), .inl a1] (I, R) (.inl none) (y.2, R)) (hrc_X12_readSum : ∀ (a0 : Nat) (a1 : Int32) (I : (Nat → Nat → Int32)) (y : (Unit × (Nat → Nat → Int32))), rc_X12_readSum a0 a1 I = some y → sm_E l dd mX12_readSum [.inr (.inl a0), .inl a1] (I, R) (.inl none) (y.2, R)) (hrc_X12_readNot : ∀ (a0 : Nat) (a1 : Int32) (I : (Nat → Nat → Int32)) (y : (Unit × (Nat → Nat → Int32))), rc_X12_readNot a0 a1 I = some y → sm_E l dd mX12_readNot [.inr (.inl a0), .inl a1] (I, R) (.inl none) (y.2, R)) (hrc_X12_readAnd : ∀ (a0 : Nat) (a1 : Int32) (I : (Nat → Nat → Int32)) (y : (Unit × (Nat → Nat → Int32))), rc_X12_readAnd a0 a1 I = some y → sm_E l dd mX12_readAnd [.inr (.inl a0), .inl a1] (I, R) (.inl none) (y.2, R)) (hrc_X12_readExpression : ∀ (a0 : Nat) (a1 : Int32) (I : (Nat → Nat → Int32)) (y : (Unit × (Nat → Nat → Int32))), rc_X12_readExpression a0 a1 I = some y → sm_E l dd mX12_readExpression [.inr (.inl a0), .inl a1] (I, R) (.inl none) (y.2, R)) (hrc_X12_readPart : ∀ (a0 : Nat) (a1 : Int32) (I : (Nat → Nat → Int32)) (y : (Unit × (Nat → Nat → Int32))), rc_X12_readPart a0 a1 I = some y → sm_E l dd mX12_readPart [.inr (.inl a0), .inl a1] (I, R) (.inl none) (y.2, R)) : ∀ (a0 : Nat) (a1 : Int32) (I : (Nat → Nat → Int32)) (y : (Unit × (Nat → Nat → Int32))), f_X12_readAnd N R rc_X12_readProduct rc_X12_readSum rc_X12_readNot rc_X12_readAnd rc_X12_readExpression rc_X12_readPart a0 a1 I = some y → sm_W l (dd + 1) mX12_readAnd 0 [(0, .inr (.inl a0)), (1, .inl a1)] [] (I, R) (.inl none) (y.2, R) := by
  intro a0 a1 I y h
  unfold f_X12_readAnd at h
  refine sm_aload_n (q := 1) dX12_readAnd_0 rfl rfl 0 rfl ?_
  refine sm_iload_n (q := 2) dX12_readAnd_1 rfl rfl 1 rfl ?_
  obtain ⟨hc1, h⟩ := sm_gd_e h
  obtain ⟨p2, hc_p2, h⟩ := sm_bd_e h
  refine sm_callVv (q := 5) (As := [.inl a1]) (S := []) (hrc_X12_readNot _ _ _ _ hc_p2) mv_X12_259 hc1 rfl (by omega) (Nat.le_of_ble_eq_true rfl) dX12_readAnd_2 rfl ?_
  refine sm_pick [0, 1] rfl ?_
  exact w_X12_readAnd_5 N R rc_X12_readProduct rc_X12_readSum rc_X12_readNot rc_X12_readAnd rc_X12_readExpression rc_X12_readPart dd hdd hrc_X12_readProduct hrc_X12_readSum hrc_X12_readNot hrc_X12_readAnd hrc_X12_readExpression hrc_X12_readPart N _ _ _ _ h
def f_X12_readExpression_67 (N : Nat) (R : Nat → Nat → Nat) (rc_X12_readProduct : Nat → Int32 → (Nat → Nat → Int32) → Option (Unit × (Nat → Nat → Int32))) (rc_X12_readSum : Nat → Int32 → (Nat → Nat → Int32) → Option (Unit × (Nat → Nat → Int32))) (rc_X12_readNot : Nat → Int32 → (Nat → Nat → Int32) → Option (Unit × (Nat → Nat → Int32))) (rc_X12_readAnd : Nat → Int32 → (Nat → Nat → Int32) → Option (Unit × (Nat → Nat → Int32))) (rc_X12_readExpression : Nat → Int32 → (Nat → Nat → Int32) → Option (Unit × (Nat → Nat → Int32))) (rc_X12_readPart : Nat → Int32 → (Nat → Nat → Int32) → Option (Unit × (Nat → Nat → Int32))) : Nat → Nat → Int32 → (Nat → Nat → Int32) → Option (Unit × (Nat → Nat → Int32))
  | 0, _, _, _ => none
  | n + 1, a0, a1, I =>
    sm_gd (sm_kd a0 = (12, 59)) <|
    (f_X12_is N R a0 (1000 + 14) I).bind fun p2 =>
    if p2.1 = 0 then (
      some ((), p2.2))
    else (
      (f_X12_stepOn N R a0 p2.2).bind fun p4 =>
      (rc_X12_readAnd a0 a1 p4.2).bind fun p5 =>
      (f_X12_lay N R a0 (-27 : Int32) p5.2).bind fun p6 =>
      f_X12_readExpression_67 N R rc_X12_readProduct rc_X12_readSum rc_X12_readNot rc_X12_readAnd rc_X12_readExpression rc_X12_readPart n a0 a1 p6.2)
def f_X12_readExpression_38 (N : Nat) (R : Nat → Nat → Nat) (rc_X12_readProduct : Nat → Int32 → (Nat → Nat → Int32) → Option (Unit × (Nat → Nat → Int32))) (rc_X12_readSum : Nat → Int32 → (Nat → Nat → Int32) → Option (Unit × (Nat → Nat → Int32))) (rc_X12_readNot : Nat → Int32 → (Nat → Nat → Int32) → Option (Unit × (Nat → Nat → Int32))) (rc_X12_readAnd : Nat → Int32 → (Nat → Nat → Int32) → Option (Unit × (Nat → Nat → Int32))) (rc_X12_readExpression : Nat → Int32 → (Nat → Nat → Int32) → Option (Unit × (Nat → Nat → Int32))) (rc_X12_readPart : Nat → Int32 → (Nat → Nat → Int32) → Option (Unit × (Nat → Nat → Int32))) : Nat → Int32 → Int32 → (Nat → Nat → Int32) → Option (Unit × (Nat → Nat → Int32)) := fun a0 a1 b0 I =>
  if b0 = 0 then (
    sm_gd (sm_kd a0 = (12, 59)) <|
    (f_X12_wrong N R a0 (1 : Int32) I).bind fun p3 =>
    (rc_X12_readAnd a0 a1 p3.2).bind fun p4 =>
    f_X12_readExpression_67 N R rc_X12_readProduct rc_X12_readSum rc_X12_readNot rc_X12_readAnd rc_X12_readExpression rc_X12_readPart N a0 a1 p4.2)
  else (
    if a1 = (6 : Int32) then (
      sm_gd (sm_kd a0 = (12, 59)) <|
      (f_X12_wrong N R a0 (2 : Int32) I).bind fun p7 =>
      (rc_X12_readAnd a0 a1 p7.2).bind fun p8 =>
      f_X12_readExpression_67 N R rc_X12_readProduct rc_X12_readSum rc_X12_readNot rc_X12_readAnd rc_X12_readExpression rc_X12_readPart N a0 a1 p8.2)
    else (
      sm_gd (sm_kd a0 = (12, 59)) <|
      (rc_X12_readAnd a0 a1 I).bind fun p10 =>
      f_X12_readExpression_67 N R rc_X12_readProduct rc_X12_readSum rc_X12_readNot rc_X12_readAnd rc_X12_readExpression rc_X12_readPart N a0 a1 p10.2))
def f_X12_readExpression (N : Nat) (R : Nat → Nat → Nat) (rc_X12_readProduct : Nat → Int32 → (Nat → Nat → Int32) → Option (Unit × (Nat → Nat → Int32))) (rc_X12_readSum : Nat → Int32 → (Nat → Nat → Int32) → Option (Unit × (Nat → Nat → Int32))) (rc_X12_readNot : Nat → Int32 → (Nat → Nat → Int32) → Option (Unit × (Nat → Nat → Int32))) (rc_X12_readAnd : Nat → Int32 → (Nat → Nat → Int32) → Option (Unit × (Nat → Nat → Int32))) (rc_X12_readExpression : Nat → Int32 → (Nat → Nat → Int32) → Option (Unit × (Nat → Nat → Int32))) (rc_X12_readPart : Nat → Int32 → (Nat → Nat → Int32) → Option (Unit × (Nat → Nat → Int32))) : Nat → Int32 → (Nat → Nat → Int32) → Option (Unit × (Nat → Nat → Int32)) := fun a0 a1 I =>
  sm_gd (sm_kd a0 = (12, 59)) <|
  if (I a0 22) = 0 then (
    if (I a0 18) = (2 : Int32) then (
      f_X12_readExpression_38 N R rc_X12_readProduct rc_X12_readSum rc_X12_readNot rc_X12_readAnd rc_X12_readExpression rc_X12_readPart a0 a1 (1 : Int32) I)
    else (
      if (I a0 18) = (1 : Int32) then (
        f_X12_readExpression_38 N R rc_X12_readProduct rc_X12_readSum rc_X12_readNot rc_X12_readAnd rc_X12_readExpression rc_X12_readPart a0 a1 (1 : Int32) I)
      else (
        (f_X12_isMarked N R a0 (40 : Int32) I).bind fun p5 =>
        if p5.1 = 0 then (
          f_X12_readExpression_38 N R rc_X12_readProduct rc_X12_readSum rc_X12_readNot rc_X12_readAnd rc_X12_readExpression rc_X12_readPart a0 a1 (0 : Int32) p5.2)
        else (
          f_X12_readExpression_38 N R rc_X12_readProduct rc_X12_readSum rc_X12_readNot rc_X12_readAnd rc_X12_readExpression rc_X12_readPart a0 a1 (1 : Int32) p5.2))))
  else (
    some ((), I))
set_option maxHeartbeats 4000000 in
set_option maxRecDepth 100000 in
theorem w_X12_readExpression_67 {l : Launch} (N : Nat) (R : Nat → Nat → Nat) (rc_X12_readProduct : Nat → Int32 → (Nat → Nat → Int32) → Option (Unit × (Nat → Nat → Int32))) (rc_X12_readSum : Nat → Int32 → (Nat → Nat → Int32) → Option (Unit × (Nat → Nat → Int32))) (rc_X12_readNot : Nat → Int32 → (Nat → Nat → Int32) → Option (Unit × (Nat → Nat → Int32))) (rc_X12_readAnd : Nat → Int32 → (Nat → Nat → Int32) → Option (Unit × (Nat → Nat → Int32))) (rc_X12_readExpression : Nat → Int32 → (Nat → Nat → Int32) → Option (Unit × (Nat → Nat → Int32))) (rc_X12_readPart : Nat → Int32 → (Nat → Nat → Int32) → Option (Unit × (Nat → Nat → Int32))) (dd : Nat) (hdd : 6 ≤ dd) (hrc_X12_readProduct : ∀ (a0 : Nat) (a1 : Int32) (I : (Nat → Nat → Int32)) (y : (Unit × (Nat → Nat → Int32))), rc_X12_readProduct a0 a1 I = some y → sm_E l dd mX12_readProduct [.inr (.inl a0), .inl a1] (I, R) (.inl none) (y.2, R)) (hrc_X12_readSum : ∀ (a0 : Nat) (a1 : Int32) (I : (Nat → Nat → Int32)) (y : (Unit × (Nat → Nat → Int32))), rc_X12_readSum a0 a1 I = some y → sm_E l dd mX12_readSum [.inr (.inl a0), .inl a1] (I, R) (.inl none) (y.2, R)) (hrc_X12_readNot : ∀ (a0 : Nat) (a1 : Int32) (I : (Nat → Nat → Int32)) (y : (Unit × (Nat → Nat → Int32))), rc_X12_readNot a0 a1 I = some y → sm_E l dd mX12_readNot [.inr (.inl a0), .inl a1] (I, R) (.inl none) (y.2, R)) (hrc_X12_readAnd : ∀ (a0 : Nat) (a1 : Int32) (I : (Nat → Nat → Int32)) (y : (Unit × (Nat → Nat → Int32))), rc_X12_readAnd a0 a1 I = some y → sm_E l dd mX12_readAnd [.inr (.inl a0), .inl a1] (I, R) (.inl none) (y.2, R)) (hrc_X12_readExpression : ∀ (a0 : Nat) (a1 : Int32) (I : (Nat → Nat → Int32)) (y : (Unit × (Nat → Nat → Int32))), rc_X12_readExpression a0 a1 I = some y → sm_E l dd mX12_readExpression [.inr (.inl a0), .inl a1] (I, R) (.inl none) (y.2, R)) (hrc_X12_readPart : ∀ (a0 : Nat) (a1 : Int32) (I : (Nat → Nat → Int32)) (y : (Unit × (Nat → Nat → Int32))), rc_X12_readPart a0 a1 I = some y → sm_E l dd mX12_readPart [.inr (.inl a0), .inl a1] (I, R) (.inl none) (y.2, R)) : ∀ (n : Nat) (a0 : Nat) (a1 : Int32) (I : (Nat → Nat → Int32)) (y : (Unit × (Nat → Nat → Int32))), f_X12_readExpression_67 N R rc_X12_readProduct rc_X12_readSum rc_X12_readNot rc_X12_readAnd rc_X12_readExpression rc_X12_readPart n a0 a1 I = some y → sm_W l (dd + 1) mX12_readExpression 67 [(0, .inr (.inl a0)), (1, .inl a1)] [] (I, R) (.inl none) (y.2, R) := by
  intro n
  induction n with
  | zero => intro a0 a1 I y h; cases h
  | succ n ih =>
    intro a0 a1 I y h
    rw [f_X12_readExpression_67] at h
    refine sm_aload_n (q := 68) dX12_readExpression_67 rfl rfl 0 rfl ?_
    refine sm_ldcSw (tx := "or") (q := 71) dX12_readExpression_68 rfl (List.mem_of_getElem? (i := 40) rfl) ?_
    obtain ⟨hc1, h⟩ := sm_gd_e h
    obtain ⟨p2, hc_p2, h⟩ := sm_bd_e h
    refine sm_callVi (q := 74) (As := [.inr (.inl (1000 + 14))]) (S := []) (e_X12_is hc_p2) mv_X12_215 hc1 rfl (by omega) (Nat.le_of_ble_eq_true rfl) dX12_readExpression_71 rfl ?_
    rcases sm_if_e h with ⟨hb3, h⟩ | ⟨hb3, h⟩
    · refine sm_if_eq (tgt := 95) (q := 77) dX12_readExpression_74 (by decide) rfl (fun _ => ?_) (fun hn => absurd hb3 hn)
      obtain rfl := Option.some.inj h
      exact sm_vret dX12_readExpression_95 rfl
    · refine sm_if_eq (tgt := 95) (q := 77) dX12_readExpression_74 (by decide) rfl (fun ht => absurd ht hb3) (fun _ => ?_)
      refine sm_aload_n (q := 78) dX12_readExpression_77 rfl rfl 0 rfl ?_
      obtain ⟨p4, hc_p4, h⟩ := sm_bd_e h
      refine sm_callVv (q := 81) (As := []) (S := []) (e_X12_stepOn hc_p4) mv_X12_226 hc1 rfl (by omega) (Nat.le_of_ble_eq_true rfl) dX12_readExpression_78 rfl ?_
      refine sm_aload_n (q := 82) dX12_readExpression_81 rfl rfl 0 rfl ?_
      refine sm_iload_n (q := 83) dX12_readExpression_82 rfl rfl 1 rfl ?_
      obtain ⟨p5, hc_p5, h⟩ := sm_bd_e h
      refine sm_callVv (q := 86) (As := [.inl a1]) (S := []) (hrc_X12_readAnd _ _ _ _ hc_p5) mv_X12_264 hc1 rfl (by omega) (Nat.le_of_ble_eq_true rfl) dX12_readExpression_83 rfl ?_
      refine sm_aload_n (q := 87) dX12_readExpression_86 rfl rfl 0 rfl ?_
      refine sm_bipush (v := -27) (q := 89) dX12_readExpression_87 rfl (by decide) ?_
      obtain ⟨p6, hc_p6, h⟩ := sm_bd_e h
      refine sm_callVv (q := 92) (As := [.inl (-27 : Int32)]) (S := []) (e_X12_lay hc_p6) mv_X12_235 hc1 rfl (by omega) (Nat.le_of_ble_eq_true rfl) dX12_readExpression_89 rfl ?_
      refine sm_goto (q := 67) dX12_readExpression_92 (by decide) ?_
      refine sm_pick [0, 1] rfl ?_
      exact ih _ _ _ _ h
set_option maxHeartbeats 4000000 in
set_option maxRecDepth 100000 in
theorem w_X12_readExpression_38 {l : Launch} (N : Nat) (R : Nat → Nat → Nat) (rc_X12_readProduct : Nat → Int32 → (Nat → Nat → Int32) → Option (Unit × (Nat → Nat → Int32))) (rc_X12_readSum : Nat → Int32 → (Nat → Nat → Int32) → Option (Unit × (Nat → Nat → Int32))) (rc_X12_readNot : Nat → Int32 → (Nat → Nat → Int32) → Option (Unit × (Nat → Nat → Int32))) (rc_X12_readAnd : Nat → Int32 → (Nat → Nat → Int32) → Option (Unit × (Nat → Nat → Int32))) (rc_X12_readExpression : Nat → Int32 → (Nat → Nat → Int32) → Option (Unit × (Nat → Nat → Int32))) (rc_X12_readPart : Nat → Int32 → (Nat → Nat → Int32) → Option (Unit × (Nat → Nat → Int32))) (dd : Nat) (hdd : 6 ≤ dd) (hrc_X12_readProduct : ∀ (a0 : Nat) (a1 : Int32) (I : (Nat → Nat → Int32)) (y : (Unit × (Nat → Nat → Int32))), rc_X12_readProduct a0 a1 I = some y → sm_E l dd mX12_readProduct [.inr (.inl a0), .inl a1] (I, R) (.inl none) (y.2, R)) (hrc_X12_readSum : ∀ (a0 : Nat) (a1 : Int32) (I : (Nat → Nat → Int32)) (y : (Unit × (Nat → Nat → Int32))), rc_X12_readSum a0 a1 I = some y → sm_E l dd mX12_readSum [.inr (.inl a0), .inl a1] (I, R) (.inl none) (y.2, R)) (hrc_X12_readNot : ∀ (a0 : Nat) (a1 : Int32) (I : (Nat → Nat → Int32)) (y : (Unit × (Nat → Nat → Int32))), rc_X12_readNot a0 a1 I = some y → sm_E l dd mX12_readNot [.inr (.inl a0), .inl a1] (I, R) (.inl none) (y.2, R)) (hrc_X12_readAnd : ∀ (a0 : Nat) (a1 : Int32) (I : (Nat → Nat → Int32)) (y : (Unit × (Nat → Nat → Int32))), rc_X12_readAnd a0 a1 I = some y → sm_E l dd mX12_readAnd [.inr (.inl a0), .inl a1] (I, R) (.inl none) (y.2, R)) (hrc_X12_readExpression : ∀ (a0 : Nat) (a1 : Int32) (I : (Nat → Nat → Int32)) (y : (Unit × (Nat → Nat → Int32))), rc_X12_readExpression a0 a1 I = some y → sm_E l dd mX12_readExpression [.inr (.inl a0), .inl a1] (I, R) (.inl none) (y.2, R)) (hrc_X12_readPart : ∀ (a0 : Nat) (a1 : Int32) (I : (Nat → Nat → Int32)) (y : (Unit × (Nat → Nat → Int32))), rc_X12_readPart a0 a1 I = some y → sm_E l dd mX12_readPart [.inr (.inl a0), .inl a1] (I, R) (.inl none) (y.2, R)) : ∀ (a0 : Nat) (a1 : Int32) (b0 : Int32) (I : (Nat → Nat → Int32)) (y : (Unit × (Nat → Nat → Int32))), f_X12_readExpression_38 N R rc_X12_readProduct rc_X12_readSum rc_X12_readNot rc_X12_readAnd rc_X12_readExpression rc_X12_readPart a0 a1 b0 I = some y → sm_W l (dd + 1) mX12_readExpression 38 [(0, .inr (.inl a0)), (1, .inl a1)] [.inl b0] (I, R) (.inl none) (y.2, R) := by
  intro a0 a1 b0 I y h
  unfold f_X12_readExpression_38 at h
  refine sm_istore_n (L' := [(2, .inl b0), (0, .inr (.inl a0)), (1, .inl a1)]) (q := 39) dX12_readExpression_38 rfl rfl (by decide) rfl ?_
  refine sm_iload_n (q := 40) dX12_readExpression_39 rfl rfl 0 rfl ?_
  rcases sm_if_e h with ⟨hb1, h⟩ | ⟨hb1, h⟩
  · refine sm_if_ne (tgt := 51) (q := 43) dX12_readExpression_40 (by decide) rfl (fun hn => absurd hb1 hn) (fun _ => ?_)
    refine sm_aload_n (q := 44) dX12_readExpression_43 rfl rfl 1 rfl ?_
    refine sm_iconst (v := 1) (q := 45) dX12_readExpression_44 rfl (by decide) ?_
    obtain ⟨hc2, h⟩ := sm_gd_e h
    obtain ⟨p3, hc_p3, h⟩ := sm_bd_e h
    refine sm_callVv (q := 48) (As := [.inl (1 : Int32)]) (S := []) (e_X12_wrong hc_p3) mv_X12_222 hc2 rfl (by omega) (Nat.le_of_ble_eq_true rfl) dX12_readExpression_45 rfl ?_
    refine sm_goto (q := 62) dX12_readExpression_48 (by decide) ?_
    refine sm_aload_n (q := 63) dX12_readExpression_62 rfl rfl 1 rfl ?_
    refine sm_iload_n (q := 64) dX12_readExpression_63 rfl rfl 2 rfl ?_
    obtain ⟨p4, hc_p4, h⟩ := sm_bd_e h
    refine sm_callVv (q := 67) (As := [.inl a1]) (S := []) (hrc_X12_readAnd _ _ _ _ hc_p4) mv_X12_264 hc2 rfl (by omega) (Nat.le_of_ble_eq_true rfl) dX12_readExpression_64 rfl ?_
    refine sm_pick [1, 2] rfl ?_
    exact w_X12_readExpression_67 N R rc_X12_readProduct rc_X12_readSum rc_X12_readNot rc_X12_readAnd rc_X12_readExpression rc_X12_readPart dd hdd hrc_X12_readProduct hrc_X12_readSum hrc_X12_readNot hrc_X12_readAnd hrc_X12_readExpression hrc_X12_readPart N _ _ _ _ h
  · refine sm_if_ne (tgt := 51) (q := 43) dX12_readExpression_40 (by decide) rfl (fun _ => ?_) (fun he => absurd he hb1)
    refine sm_iload_n (q := 52) dX12_readExpression_51 rfl rfl 2 rfl ?_
    refine sm_bipush (v := 6) (q := 54) dX12_readExpression_52 rfl (by decide) ?_
    rcases sm_if_e h with ⟨hb5, h⟩ | ⟨hb5, h⟩
    · refine sm_icmp_ne (tgt := 62) (q := 57) dX12_readExpression_54 (by decide) rfl (fun hn => absurd hb5 hn) (fun _ => ?_)
      refine sm_aload_n (q := 58) dX12_readExpression_57 rfl rfl 1 rfl ?_
      refine sm_iconst (v := 2) (q := 59) dX12_readExpression_58 rfl (by decide) ?_
      obtain ⟨hc6, h⟩ := sm_gd_e h
      obtain ⟨p7, hc_p7, h⟩ := sm_bd_e h
      refine sm_callVv (q := 62) (As := [.inl (2 : Int32)]) (S := []) (e_X12_wrong hc_p7) mv_X12_222 hc6 rfl (by omega) (Nat.le_of_ble_eq_true rfl) dX12_readExpression_59 rfl ?_
      refine sm_aload_n (q := 63) dX12_readExpression_62 rfl rfl 1 rfl ?_
      refine sm_iload_n (q := 64) dX12_readExpression_63 rfl rfl 2 rfl ?_
      obtain ⟨p8, hc_p8, h⟩ := sm_bd_e h
      refine sm_callVv (q := 67) (As := [.inl a1]) (S := []) (hrc_X12_readAnd _ _ _ _ hc_p8) mv_X12_264 hc6 rfl (by omega) (Nat.le_of_ble_eq_true rfl) dX12_readExpression_64 rfl ?_
      refine sm_pick [1, 2] rfl ?_
      exact w_X12_readExpression_67 N R rc_X12_readProduct rc_X12_readSum rc_X12_readNot rc_X12_readAnd rc_X12_readExpression rc_X12_readPart dd hdd hrc_X12_readProduct hrc_X12_readSum hrc_X12_readNot hrc_X12_readAnd hrc_X12_readExpression hrc_X12_readPart N _ _ _ _ h
    · refine sm_icmp_ne (tgt := 62) (q := 57) dX12_readExpression_54 (by decide) rfl (fun _ => ?_) (fun he => absurd he hb5)
      refine sm_aload_n (q := 63) dX12_readExpression_62 rfl rfl 1 rfl ?_
      refine sm_iload_n (q := 64) dX12_readExpression_63 rfl rfl 2 rfl ?_
      obtain ⟨hc9, h⟩ := sm_gd_e h
      obtain ⟨p10, hc_p10, h⟩ := sm_bd_e h
      refine sm_callVv (q := 67) (As := [.inl a1]) (S := []) (hrc_X12_readAnd _ _ _ _ hc_p10) mv_X12_264 hc9 rfl (by omega) (Nat.le_of_ble_eq_true rfl) dX12_readExpression_64 rfl ?_
      refine sm_pick [1, 2] rfl ?_
      exact w_X12_readExpression_67 N R rc_X12_readProduct rc_X12_readSum rc_X12_readNot rc_X12_readAnd rc_X12_readExpression rc_X12_readPart dd hdd hrc_X12_readProduct hrc_X12_readSum hrc_X12_readNot hrc_X12_readAnd hrc_X12_readExpression hrc_X12_readPart N _ _ _ _ h
set_option maxHeartbeats 4000000 in
set_option maxRecDepth 100000 in
theorem w_X12_readExpression {l : Launch} (N : Nat) (R : Nat → Nat → Nat) (rc_X12_readProduct : Nat → Int32 → (Nat → Nat → Int32) → Option (Unit × (Nat → Nat → Int32))) (rc_X12_readSum : Nat → Int32 → (Nat → Nat → Int32) → Option (Unit × (Nat → Nat → Int32))) (rc_X12_readNot : Nat → Int32 → (Nat → Nat → Int32) → Option (Unit × (Nat → Nat → Int32))) (rc_X12_readAnd : Nat → Int32 → (Nat → Nat → Int32) → Option (Unit × (Nat → Nat → Int32))) (rc_X12_readExpression : Nat → Int32 → (Nat → Nat → Int32) → Option (Unit × (Nat → Nat → Int32))) (rc_X12_readPart : Nat → Int32 → (Nat → Nat → Int32) → Option (Unit × (Nat → Nat → Int32))) (dd : Nat) (hdd : 6 ≤ dd) (hrc_X12_readProduct : ∀ (a0 : Nat) (a1 : Int32) (I : (Nat → Nat → Int32)) (y : (Unit × (Nat → Nat → Int32))), rc_X12_readProduct a0 a1 I = some y → sm_E l dd mX12_readProduct [.inr (.inl a0), .inl a1] (I, R) (.inl none) (y.2, R)) (hrc_X12_readSum : ∀ (a0 : Nat) (a1 : Int32) (I : (Nat → Nat → Int32)) (y : (Unit × (Nat → Nat → Int32))), rc_X12_readSum a0 a1 I = some y → sm_E l dd mX12_readSum [.inr (.inl a0), .inl a1] (I, R) (.inl none) (y.2, R)) (hrc_X12_readNot : ∀ (a0 : Nat) (a1 : Int32) (I : (Nat → Nat → Int32)) (y : (Unit × (Nat → Nat → Int32))), rc_X12_readNot a0 a1 I = some y → sm_E l dd mX12_readNot [.inr (.inl a0), .inl a1] (I, R) (.inl none) (y.2, R)) (hrc_X12_readAnd : ∀ (a0 : Nat) (a1 : Int32) (I : (Nat → Nat → Int32)) (y : (Unit × (Nat → Nat → Int32))), rc_X12_readAnd a0 a1 I = some y → sm_E l dd mX12_readAnd [.inr (.inl a0), .inl a1] (I, R) (.inl none) (y.2, R)) (hrc_X12_readExpression : ∀ (a0 : Nat) (a1 : Int32) (I : (Nat → Nat → Int32)) (y : (Unit × (Nat → Nat → Int32))), rc_X12_readExpression a0 a1 I = some y → sm_E l dd mX12_readExpression [.inr (.inl a0), .inl a1] (I, R) (.inl none) (y.2, R)) (hrc_X12_readPart : ∀ (a0 : Nat) (a1 : Int32) (I : (Nat → Nat → Int32)) (y : (Unit × (Nat → Nat → Int32))), rc_X12_readPart a0 a1 I = some y → sm_E l dd mX12_readPart [.inr (.inl a0), .inl a1] (I, R) (.inl none) (y.2, R)) : ∀ (a0 : Nat) (a1 : Int32) (I : (Nat → Nat → Int32)) (y : (Unit × (Nat → Nat → Int32))), f_X12_readExpression N R rc_X12_readProduct rc_X12_readSum rc_X12_readNot rc_X12_readAnd rc_X12_readExpression rc_X12_readPart a0 a1 I = some y → sm_W l (dd + 1) mX12_readExpression 0 [(0, .inr (.inl a0)), (1, .inl a1)] [] (I, R) (.inl none) (y.2, R) := by
  intro a0 a1 I y h
  unfold f_X12_readExpression at h
  refine sm_aload_n (q := 1) dX12_readExpression_0 rfl rfl 0 rfl ?_
  obtain ⟨hc1, h⟩ := sm_gd_e h
  refine sm_getI (q := 4) dX12_readExpression_1 rfl fk_X12_201 hc1 (by decide) (by decide) ?_
  rcases sm_if_e h with ⟨hb2, h⟩ | ⟨hb2, h⟩
  · refine sm_if_eq (tgt := 8) (q := 7) dX12_readExpression_4 (by decide) rfl (fun _ => ?_) (fun hn => absurd hb2 hn)
    refine sm_aload_n (q := 9) dX12_readExpression_8 rfl rfl 0 rfl ?_
    refine sm_getI (q := 12) dX12_readExpression_9 rfl fk_X12_175 hc1 (by decide) (by decide) ?_
    refine sm_iconst (v := 2) (q := 13) dX12_readExpression_12 rfl (by decide) ?_
    rcases sm_if_e h with ⟨hb3, h⟩ | ⟨hb3, h⟩
    · refine sm_icmp_eq (tgt := 33) (q := 16) dX12_readExpression_13 (by decide) rfl (fun _ => ?_) (fun hn => absurd hb3 hn)
      refine sm_iconst (v := 1) (q := 34) dX12_readExpression_33 rfl (by decide) ?_
      refine sm_goto (q := 38) dX12_readExpression_34 (by decide) ?_
      refine sm_pick [0, 1] rfl ?_
      exact w_X12_readExpression_38 N R rc_X12_readProduct rc_X12_readSum rc_X12_readNot rc_X12_readAnd rc_X12_readExpression rc_X12_readPart dd hdd hrc_X12_readProduct hrc_X12_readSum hrc_X12_readNot hrc_X12_readAnd hrc_X12_readExpression hrc_X12_readPart _ _ _ _ _ h
    · refine sm_icmp_eq (tgt := 33) (q := 16) dX12_readExpression_13 (by decide) rfl (fun ht => absurd ht hb3) (fun _ => ?_)
      refine sm_aload_n (q := 17) dX12_readExpression_16 rfl rfl 0 rfl ?_
      refine sm_getI (q := 20) dX12_readExpression_17 rfl fk_X12_175 hc1 (by decide) (by decide) ?_
      refine sm_iconst (v := 1) (q := 21) dX12_readExpression_20 rfl (by decide) ?_
      rcases sm_if_e h with ⟨hb4, h⟩ | ⟨hb4, h⟩
      · refine sm_icmp_eq (tgt := 33) (q := 24) dX12_readExpression_21 (by decide) rfl (fun _ => ?_) (fun hn => absurd hb4 hn)
        refine sm_iconst (v := 1) (q := 34) dX12_readExpression_33 rfl (by decide) ?_
        refine sm_goto (q := 38) dX12_readExpression_34 (by decide) ?_
        refine sm_pick [0, 1] rfl ?_
        exact w_X12_readExpression_38 N R rc_X12_readProduct rc_X12_readSum rc_X12_readNot rc_X12_readAnd rc_X12_readExpression rc_X12_readPart dd hdd hrc_X12_readProduct hrc_X12_readSum hrc_X12_readNot hrc_X12_readAnd hrc_X12_readExpression hrc_X12_readPart _ _ _ _ _ h
      · refine sm_icmp_eq (tgt := 33) (q := 24) dX12_readExpression_21 (by decide) rfl (fun ht => absurd ht hb4) (fun _ => ?_)
        refine sm_aload_n (q := 25) dX12_readExpression_24 rfl rfl 0 rfl ?_
        refine sm_bipush (v := 40) (q := 27) dX12_readExpression_25 rfl (by decide) ?_
        obtain ⟨p5, hc_p5, h⟩ := sm_bd_e h
        refine sm_callVi (q := 30) (As := [.inl (40 : Int32)]) (S := []) (e_X12_isMarked hc_p5) mv_X12_219 hc1 rfl (by omega) (Nat.le_of_ble_eq_true rfl) dX12_readExpression_27 rfl ?_
        rcases sm_if_e h with ⟨hb6, h⟩ | ⟨hb6, h⟩
        · refine sm_if_eq (tgt := 37) (q := 33) dX12_readExpression_30 (by decide) rfl (fun _ => ?_) (fun hn => absurd hb6 hn)
          refine sm_iconst (v := 0) (q := 38) dX12_readExpression_37 rfl (by decide) ?_
          refine sm_pick [0, 1] rfl ?_
          exact w_X12_readExpression_38 N R rc_X12_readProduct rc_X12_readSum rc_X12_readNot rc_X12_readAnd rc_X12_readExpression rc_X12_readPart dd hdd hrc_X12_readProduct hrc_X12_readSum hrc_X12_readNot hrc_X12_readAnd hrc_X12_readExpression hrc_X12_readPart _ _ _ _ _ h
        · refine sm_if_eq (tgt := 37) (q := 33) dX12_readExpression_30 (by decide) rfl (fun ht => absurd ht hb6) (fun _ => ?_)
          refine sm_iconst (v := 1) (q := 34) dX12_readExpression_33 rfl (by decide) ?_
          refine sm_goto (q := 38) dX12_readExpression_34 (by decide) ?_
          refine sm_pick [0, 1] rfl ?_
          exact w_X12_readExpression_38 N R rc_X12_readProduct rc_X12_readSum rc_X12_readNot rc_X12_readAnd rc_X12_readExpression rc_X12_readPart dd hdd hrc_X12_readProduct hrc_X12_readSum hrc_X12_readNot hrc_X12_readAnd hrc_X12_readExpression hrc_X12_readPart _ _ _ _ _ h
  · refine sm_if_eq (tgt := 8) (q := 7) dX12_readExpression_4 (by decide) rfl (fun ht => absurd ht hb2) (fun _ => ?_)
    obtain rfl := Option.some.inj h
    exact sm_vret dX12_readExpression_7 rfl
def f_X12_readPart_56 (N : Nat) (R : Nat → Nat → Nat) (rc_X12_readProduct : Nat → Int32 → (Nat → Nat → Int32) → Option (Unit × (Nat → Nat → Int32))) (rc_X12_readSum : Nat → Int32 → (Nat → Nat → Int32) → Option (Unit × (Nat → Nat → Int32))) (rc_X12_readNot : Nat → Int32 → (Nat → Nat → Int32) → Option (Unit × (Nat → Nat → Int32))) (rc_X12_readAnd : Nat → Int32 → (Nat → Nat → Int32) → Option (Unit × (Nat → Nat → Int32))) (rc_X12_readExpression : Nat → Int32 → (Nat → Nat → Int32) → Option (Unit × (Nat → Nat → Int32))) (rc_X12_readPart : Nat → Int32 → (Nat → Nat → Int32) → Option (Unit × (Nat → Nat → Int32))) : Nat → Int32 → (Nat → Nat → Int32) → Option (Unit × (Nat → Nat → Int32)) := fun a0 a2 I =>
  sm_gd (sm_kd a0 = (12, 59)) <|
  (f_X12_lay N R a0 ((-1 : Int32) - a2) I).bind fun p2 =>
  if (p2.2 a0 22) = 0 then (
    (f_X12_stepOn N R a0 p2.2).bind fun p4 =>
    some ((), p4.2))
  else (
    some ((), p2.2))
def f_X12_readPart (N : Nat) (R : Nat → Nat → Nat) (rc_X12_readProduct : Nat → Int32 → (Nat → Nat → Int32) → Option (Unit × (Nat → Nat → Int32))) (rc_X12_readSum : Nat → Int32 → (Nat → Nat → Int32) → Option (Unit × (Nat → Nat → Int32))) (rc_X12_readNot : Nat → Int32 → (Nat → Nat → Int32) → Option (Unit × (Nat → Nat → Int32))) (rc_X12_readAnd : Nat → Int32 → (Nat → Nat → Int32) → Option (Unit × (Nat → Nat → Int32))) (rc_X12_readExpression : Nat → Int32 → (Nat → Nat → Int32) → Option (Unit × (Nat → Nat → Int32))) (rc_X12_readPart : Nat → Int32 → (Nat → Nat → Int32) → Option (Unit × (Nat → Nat → Int32))) : Nat → Int32 → (Nat → Nat → Int32) → Option (Unit × (Nat → Nat → Int32)) := fun a0 a1 I =>
  sm_gd (sm_kd a0 = (12, 59)) <|
  if (I a0 22) = 0 then (
    if (I a0 18) = (2 : Int32) then (
      (f_X12_readNumber N R a0 (0 : Int32) (9999 : Int32) I).bind fun p4 =>
      (f_X12_lay N R a0 p4.1 p4.2).bind fun p5 =>
      some ((), p5.2))
    else (
      if (I a0 18) = (1 : Int32) then (
        (f_X12_which N R a0 (R a0 2) I).bind fun p7 =>
        if p7.1 = (-1 : Int32) then (
          (f_X12_wrong N R a0 (3 : Int32) p7.2).bind fun p9 =>
          f_X12_readPart_56 N R rc_X12_readProduct rc_X12_readSum rc_X12_readNot rc_X12_readAnd rc_X12_readExpression rc_X12_readPart a0 p7.1 p9.2)
        else (
          f_X12_readPart_56 N R rc_X12_readProduct rc_X12_readSum rc_X12_readNot rc_X12_readAnd rc_X12_readExpression rc_X12_readPart a0 p7.1 p7.2))
      else (
        (f_X12_mark N R a0 (40 : Int32) I).bind fun p10 =>
        (rc_X12_readExpression a0 (a1 + (1 : Int32)) p10.2).bind fun p11 =>
        (f_X12_mark N R a0 (41 : Int32) p11.2).bind fun p12 =>
        some ((), p12.2))))
  else (
    some ((), I))
set_option maxHeartbeats 4000000 in
set_option maxRecDepth 100000 in
theorem w_X12_readPart_56 {l : Launch} (N : Nat) (R : Nat → Nat → Nat) (rc_X12_readProduct : Nat → Int32 → (Nat → Nat → Int32) → Option (Unit × (Nat → Nat → Int32))) (rc_X12_readSum : Nat → Int32 → (Nat → Nat → Int32) → Option (Unit × (Nat → Nat → Int32))) (rc_X12_readNot : Nat → Int32 → (Nat → Nat → Int32) → Option (Unit × (Nat → Nat → Int32))) (rc_X12_readAnd : Nat → Int32 → (Nat → Nat → Int32) → Option (Unit × (Nat → Nat → Int32))) (rc_X12_readExpression : Nat → Int32 → (Nat → Nat → Int32) → Option (Unit × (Nat → Nat → Int32))) (rc_X12_readPart : Nat → Int32 → (Nat → Nat → Int32) → Option (Unit × (Nat → Nat → Int32))) (dd : Nat) (hdd : 6 ≤ dd) (hrc_X12_readProduct : ∀ (a0 : Nat) (a1 : Int32) (I : (Nat → Nat → Int32)) (y : (Unit × (Nat → Nat → Int32))), rc_X12_readProduct a0 a1 I = some y → sm_E l dd mX12_readProduct [.inr (.inl a0), .inl a1] (I, R) (.inl none) (y.2, R)) (hrc_X12_readSum : ∀ (a0 : Nat) (a1 : Int32) (I : (Nat → Nat → Int32)) (y : (Unit × (Nat → Nat → Int32))), rc_X12_readSum a0 a1 I = some y → sm_E l dd mX12_readSum [.inr (.inl a0), .inl a1] (I, R) (.inl none) (y.2, R)) (hrc_X12_readNot : ∀ (a0 : Nat) (a1 : Int32) (I : (Nat → Nat → Int32)) (y : (Unit × (Nat → Nat → Int32))), rc_X12_readNot a0 a1 I = some y → sm_E l dd mX12_readNot [.inr (.inl a0), .inl a1] (I, R) (.inl none) (y.2, R)) (hrc_X12_readAnd : ∀ (a0 : Nat) (a1 : Int32) (I : (Nat → Nat → Int32)) (y : (Unit × (Nat → Nat → Int32))), rc_X12_readAnd a0 a1 I = some y → sm_E l dd mX12_readAnd [.inr (.inl a0), .inl a1] (I, R) (.inl none) (y.2, R)) (hrc_X12_readExpression : ∀ (a0 : Nat) (a1 : Int32) (I : (Nat → Nat → Int32)) (y : (Unit × (Nat → Nat → Int32))), rc_X12_readExpression a0 a1 I = some y → sm_E l dd mX12_readExpression [.inr (.inl a0), .inl a1] (I, R) (.inl none) (y.2, R)) (hrc_X12_readPart : ∀ (a0 : Nat) (a1 : Int32) (I : (Nat → Nat → Int32)) (y : (Unit × (Nat → Nat → Int32))), rc_X12_readPart a0 a1 I = some y → sm_E l dd mX12_readPart [.inr (.inl a0), .inl a1] (I, R) (.inl none) (y.2, R)) : ∀ (a0 : Nat) (a2 : Int32) (I : (Nat → Nat → Int32)) (y : (Unit × (Nat → Nat → Int32))), f_X12_readPart_56 N R rc_X12_readProduct rc_X12_readSum rc_X12_readNot rc_X12_readAnd rc_X12_readExpression rc_X12_readPart a0 a2 I = some y → sm_W l (dd + 1) mX12_readPart 56 [(0, .inr (.inl a0)), (2, .inl a2)] [] (I, R) (.inl none) (y.2, R) := by
  intro a0 a2 I y h
  unfold f_X12_readPart_56 at h
  refine sm_aload_n (q := 57) dX12_readPart_56 rfl rfl 0 rfl ?_
  refine sm_iconst (v := -1) (q := 58) dX12_readPart_57 rfl (by decide) ?_
  refine sm_iload_n (q := 59) dX12_readPart_58 rfl rfl 1 rfl ?_
  refine sm_isub (q := 60) dX12_readPart_59 rfl ?_
  obtain ⟨hc1, h⟩ := sm_gd_e h
  obtain ⟨p2, hc_p2, h⟩ := sm_bd_e h
  refine sm_callVv (q := 63) (As := [.inl ((-1 : Int32) - a2)]) (S := []) (e_X12_lay hc_p2) mv_X12_235 hc1 rfl (by omega) (Nat.le_of_ble_eq_true rfl) dX12_readPart_60 rfl ?_
  refine sm_aload_n (q := 64) dX12_readPart_63 rfl rfl 0 rfl ?_
  refine sm_getI (q := 67) dX12_readPart_64 rfl fk_X12_201 hc1 (by decide) (by decide) ?_
  rcases sm_if_e h with ⟨hb3, h⟩ | ⟨hb3, h⟩
  · refine sm_if_ne (tgt := 74) (q := 70) dX12_readPart_67 (by decide) rfl (fun hn => absurd hb3 hn) (fun _ => ?_)
    refine sm_aload_n (q := 71) dX12_readPart_70 rfl rfl 0 rfl ?_
    obtain ⟨p4, hc_p4, h⟩ := sm_bd_e h
    refine sm_callVv (q := 74) (As := []) (S := []) (e_X12_stepOn hc_p4) mv_X12_226 hc1 rfl (by omega) (Nat.le_of_ble_eq_true rfl) dX12_readPart_71 rfl ?_
    obtain rfl := Option.some.inj h
    exact sm_vret dX12_readPart_74 rfl
  · refine sm_if_ne (tgt := 74) (q := 70) dX12_readPart_67 (by decide) rfl (fun _ => ?_) (fun he => absurd he hb3)
    obtain rfl := Option.some.inj h
    exact sm_vret dX12_readPart_74 rfl
set_option maxHeartbeats 4000000 in
set_option maxRecDepth 100000 in
theorem w_X12_readPart {l : Launch} (N : Nat) (R : Nat → Nat → Nat) (rc_X12_readProduct : Nat → Int32 → (Nat → Nat → Int32) → Option (Unit × (Nat → Nat → Int32))) (rc_X12_readSum : Nat → Int32 → (Nat → Nat → Int32) → Option (Unit × (Nat → Nat → Int32))) (rc_X12_readNot : Nat → Int32 → (Nat → Nat → Int32) → Option (Unit × (Nat → Nat → Int32))) (rc_X12_readAnd : Nat → Int32 → (Nat → Nat → Int32) → Option (Unit × (Nat → Nat → Int32))) (rc_X12_readExpression : Nat → Int32 → (Nat → Nat → Int32) → Option (Unit × (Nat → Nat → Int32))) (rc_X12_readPart : Nat → Int32 → (Nat → Nat → Int32) → Option (Unit × (Nat → Nat → Int32))) (dd : Nat) (hdd : 6 ≤ dd) (hrc_X12_readProduct : ∀ (a0 : Nat) (a1 : Int32) (I : (Nat → Nat → Int32)) (y : (Unit × (Nat → Nat → Int32))), rc_X12_readProduct a0 a1 I = some y → sm_E l dd mX12_readProduct [.inr (.inl a0), .inl a1] (I, R) (.inl none) (y.2, R)) (hrc_X12_readSum : ∀ (a0 : Nat) (a1 : Int32) (I : (Nat → Nat → Int32)) (y : (Unit × (Nat → Nat → Int32))), rc_X12_readSum a0 a1 I = some y → sm_E l dd mX12_readSum [.inr (.inl a0), .inl a1] (I, R) (.inl none) (y.2, R)) (hrc_X12_readNot : ∀ (a0 : Nat) (a1 : Int32) (I : (Nat → Nat → Int32)) (y : (Unit × (Nat → Nat → Int32))), rc_X12_readNot a0 a1 I = some y → sm_E l dd mX12_readNot [.inr (.inl a0), .inl a1] (I, R) (.inl none) (y.2, R)) (hrc_X12_readAnd : ∀ (a0 : Nat) (a1 : Int32) (I : (Nat → Nat → Int32)) (y : (Unit × (Nat → Nat → Int32))), rc_X12_readAnd a0 a1 I = some y → sm_E l dd mX12_readAnd [.inr (.inl a0), .inl a1] (I, R) (.inl none) (y.2, R)) (hrc_X12_readExpression : ∀ (a0 : Nat) (a1 : Int32) (I : (Nat → Nat → Int32)) (y : (Unit × (Nat → Nat → Int32))), rc_X12_readExpression a0 a1 I = some y → sm_E l dd mX12_readExpression [.inr (.inl a0), .inl a1] (I, R) (.inl none) (y.2, R)) (hrc_X12_readPart : ∀ (a0 : Nat) (a1 : Int32) (I : (Nat → Nat → Int32)) (y : (Unit × (Nat → Nat → Int32))), rc_X12_readPart a0 a1 I = some y → sm_E l dd mX12_readPart [.inr (.inl a0), .inl a1] (I, R) (.inl none) (y.2, R)) : ∀ (a0 : Nat) (a1 : Int32) (I : (Nat → Nat → Int32)) (y : (Unit × (Nat → Nat → Int32))), f_X12_readPart N R rc_X12_readProduct rc_X12_readSum rc_X12_readNot rc_X12_readAnd rc_X12_readExpression rc_X12_readPart a0 a1 I = some y → sm_W l (dd + 1) mX12_readPart 0 [(0, .inr (.inl a0)), (1, .inl a1)] [] (I, R) (.inl none) (y.2, R) := by
  intro a0 a1 I y h
  unfold f_X12_readPart at h
  refine sm_aload_n (q := 1) dX12_readPart_0 rfl rfl 0 rfl ?_
  obtain ⟨hc1, h⟩ := sm_gd_e h
  refine sm_getI (q := 4) dX12_readPart_1 rfl fk_X12_201 hc1 (by decide) (by decide) ?_
  rcases sm_if_e h with ⟨hb2, h⟩ | ⟨hb2, h⟩
  · refine sm_if_eq (tgt := 8) (q := 7) dX12_readPart_4 (by decide) rfl (fun _ => ?_) (fun hn => absurd hb2 hn)
    refine sm_aload_n (q := 9) dX12_readPart_8 rfl rfl 0 rfl ?_
    refine sm_getI (q := 12) dX12_readPart_9 rfl fk_X12_175 hc1 (by decide) (by decide) ?_
    refine sm_iconst (v := 2) (q := 13) dX12_readPart_12 rfl (by decide) ?_
    rcases sm_if_e h with ⟨hb3, h⟩ | ⟨hb3, h⟩
    · refine sm_icmp_ne (tgt := 29) (q := 16) dX12_readPart_13 (by decide) rfl (fun hn => absurd hb3 hn) (fun _ => ?_)
      refine sm_aload_n (q := 17) dX12_readPart_16 rfl rfl 0 rfl ?_
      refine sm_aload_n (q := 18) dX12_readPart_17 rfl rfl 0 rfl ?_
      refine sm_iconst (v := 0) (q := 19) dX12_readPart_18 rfl (by decide) ?_
      refine sm_sipush (v := 9999) (q := 22) dX12_readPart_19 rfl (by decide) ?_
      obtain ⟨p4, hc_p4, h⟩ := sm_bd_e h
      refine sm_callVi (q := 25) (As := [.inl (0 : Int32), .inl (9999 : Int32)]) (S := [.inr (.inl a0)]) (e_X12_readNumber hc_p4) mv_X12_232 hc1 rfl (by omega) (Nat.le_of_ble_eq_true rfl) dX12_readPart_22 rfl ?_
      obtain ⟨p5, hc_p5, h⟩ := sm_bd_e h
      refine sm_callVv (q := 28) (As := [.inl p4.1]) (S := []) (e_X12_lay hc_p5) mv_X12_235 hc1 rfl (by omega) (Nat.le_of_ble_eq_true rfl) dX12_readPart_25 rfl ?_
      obtain rfl := Option.some.inj h
      exact sm_vret dX12_readPart_28 rfl
    · refine sm_icmp_ne (tgt := 29) (q := 16) dX12_readPart_13 (by decide) rfl (fun _ => ?_) (fun he => absurd he hb3)
      refine sm_aload_n (q := 30) dX12_readPart_29 rfl rfl 0 rfl ?_
      refine sm_getI (q := 33) dX12_readPart_30 rfl fk_X12_175 hc1 (by decide) (by decide) ?_
      refine sm_iconst (v := 1) (q := 34) dX12_readPart_33 rfl (by decide) ?_
      rcases sm_if_e h with ⟨hb6, h⟩ | ⟨hb6, h⟩
      · refine sm_icmp_ne (tgt := 75) (q := 37) dX12_readPart_34 (by decide) rfl (fun hn => absurd hb6 hn) (fun _ => ?_)
        refine sm_aload_n (q := 38) dX12_readPart_37 rfl rfl 0 rfl ?_
        refine sm_aload_n (q := 39) dX12_readPart_38 rfl rfl 0 rfl ?_
        refine sm_getR (r := R a0 2) (q := 42) dX12_readPart_39 rfl fk_X12_38 hc1 (by decide) (by decide) rfl ?_
        obtain ⟨p7, hc_p7, h⟩ := sm_bd_e h
        refine sm_callVi (q := 45) (As := [.inr (.inl (R a0 2))]) (S := []) (e_X12_which hc_p7) mv_X12_238 hc1 rfl (by omega) (Nat.le_of_ble_eq_true rfl) dX12_readPart_42 rfl ?_
        refine sm_istore_n (L' := [(2, .inl p7.1), (0, .inr (.inl a0)), (1, .inl a1)]) (q := 46) dX12_readPart_45 rfl rfl (by decide) rfl ?_
        refine sm_iload_n (q := 47) dX12_readPart_46 rfl rfl 0 rfl ?_
        refine sm_iconst (v := -1) (q := 48) dX12_readPart_47 rfl (by decide) ?_
        rcases sm_if_e h with ⟨hb8, h⟩ | ⟨hb8, h⟩
        · refine sm_icmp_ne (tgt := 56) (q := 51) dX12_readPart_48 (by decide) rfl (fun hn => absurd hb8 hn) (fun _ => ?_)
          refine sm_aload_n (q := 52) dX12_readPart_51 rfl rfl 1 rfl ?_
          refine sm_iconst (v := 3) (q := 53) dX12_readPart_52 rfl (by decide) ?_
          obtain ⟨p9, hc_p9, h⟩ := sm_bd_e h
          refine sm_callVv (q := 56) (As := [.inl (3 : Int32)]) (S := []) (e_X12_wrong hc_p9) mv_X12_222 hc1 rfl (by omega) (Nat.le_of_ble_eq_true rfl) dX12_readPart_53 rfl ?_
          refine sm_pick [1, 0] rfl ?_
          exact w_X12_readPart_56 N R rc_X12_readProduct rc_X12_readSum rc_X12_readNot rc_X12_readAnd rc_X12_readExpression rc_X12_readPart dd hdd hrc_X12_readProduct hrc_X12_readSum hrc_X12_readNot hrc_X12_readAnd hrc_X12_readExpression hrc_X12_readPart _ _ _ _ h
        · refine sm_icmp_ne (tgt := 56) (q := 51) dX12_readPart_48 (by decide) rfl (fun _ => ?_) (fun he => absurd he hb8)
          refine sm_pick [1, 0] rfl ?_
          exact w_X12_readPart_56 N R rc_X12_readProduct rc_X12_readSum rc_X12_readNot rc_X12_readAnd rc_X12_readExpression rc_X12_readPart dd hdd hrc_X12_readProduct hrc_X12_readSum hrc_X12_readNot hrc_X12_readAnd hrc_X12_readExpression hrc_X12_readPart _ _ _ _ h
      · refine sm_icmp_ne (tgt := 75) (q := 37) dX12_readPart_34 (by decide) rfl (fun _ => ?_) (fun he => absurd he hb6)
        refine sm_aload_n (q := 76) dX12_readPart_75 rfl rfl 0 rfl ?_
        refine sm_bipush (v := 40) (q := 78) dX12_readPart_76 rfl (by decide) ?_
        obtain ⟨p10, hc_p10, h⟩ := sm_bd_e h
        refine sm_callVv (q := 81) (As := [.inl (40 : Int32)]) (S := []) (e_X12_mark hc_p10) mv_X12_242 hc1 rfl (by omega) (Nat.le_of_ble_eq_true rfl) dX12_readPart_78 rfl ?_
        refine sm_aload_n (q := 82) dX12_readPart_81 rfl rfl 0 rfl ?_
        refine sm_iload_n (q := 83) dX12_readPart_82 rfl rfl 1 rfl ?_
        refine sm_iconst (v := 1) (q := 84) dX12_readPart_83 rfl (by decide) ?_
        refine sm_iadd (q := 85) dX12_readPart_84 rfl ?_
        obtain ⟨p11, hc_p11, h⟩ := sm_bd_e h
        refine sm_callVv (q := 88) (As := [.inl (a1 + (1 : Int32))]) (S := []) (hrc_X12_readExpression _ _ _ _ hc_p11) mv_X12_245 hc1 rfl (by omega) (Nat.le_of_ble_eq_true rfl) dX12_readPart_85 rfl ?_
        refine sm_aload_n (q := 89) dX12_readPart_88 rfl rfl 0 rfl ?_
        refine sm_bipush (v := 41) (q := 91) dX12_readPart_89 rfl (by decide) ?_
        obtain ⟨p12, hc_p12, h⟩ := sm_bd_e h
        refine sm_callVv (q := 94) (As := [.inl (41 : Int32)]) (S := []) (e_X12_mark hc_p12) mv_X12_242 hc1 rfl (by omega) (Nat.le_of_ble_eq_true rfl) dX12_readPart_91 rfl ?_
        obtain rfl := Option.some.inj h
        exact sm_vret dX12_readPart_94 rfl
  · refine sm_if_eq (tgt := 8) (q := 7) dX12_readPart_4 (by decide) rfl (fun ht => absurd ht hb2) (fun _ => ?_)
    obtain rfl := Option.some.inj h
    exact sm_vret dX12_readPart_7 rfl
def gG_X12_readProduct (N : Nat) (R : Nat → Nat → Nat) : Nat → (Nat → Int32 → (Nat → Nat → Int32) → Option (Unit × (Nat → Nat → Int32))) × (Nat → Int32 → (Nat → Nat → Int32) → Option (Unit × (Nat → Nat → Int32))) × (Nat → Int32 → (Nat → Nat → Int32) → Option (Unit × (Nat → Nat → Int32))) × (Nat → Int32 → (Nat → Nat → Int32) → Option (Unit × (Nat → Nat → Int32))) × (Nat → Int32 → (Nat → Nat → Int32) → Option (Unit × (Nat → Nat → Int32))) × (Nat → Int32 → (Nat → Nat → Int32) → Option (Unit × (Nat → Nat → Int32)))
  | 0 => (fun _ _ _ => none, fun _ _ _ => none, fun _ _ _ => none, fun _ _ _ => none, fun _ _ _ => none, fun _ _ _ => none)
  | d + 1 => (fun a0 a1 I => f_X12_readProduct N R (gG_X12_readProduct N R d).1 (gG_X12_readProduct N R d).2.1 (gG_X12_readProduct N R d).2.2.1 (gG_X12_readProduct N R d).2.2.2.1 (gG_X12_readProduct N R d).2.2.2.2.1 (gG_X12_readProduct N R d).2.2.2.2.2 a0 a1 I, fun a0 a1 I => f_X12_readSum N R (gG_X12_readProduct N R d).1 (gG_X12_readProduct N R d).2.1 (gG_X12_readProduct N R d).2.2.1 (gG_X12_readProduct N R d).2.2.2.1 (gG_X12_readProduct N R d).2.2.2.2.1 (gG_X12_readProduct N R d).2.2.2.2.2 a0 a1 I, fun a0 a1 I => f_X12_readNot N R (gG_X12_readProduct N R d).1 (gG_X12_readProduct N R d).2.1 (gG_X12_readProduct N R d).2.2.1 (gG_X12_readProduct N R d).2.2.2.1 (gG_X12_readProduct N R d).2.2.2.2.1 (gG_X12_readProduct N R d).2.2.2.2.2 a0 a1 I, fun a0 a1 I => f_X12_readAnd N R (gG_X12_readProduct N R d).1 (gG_X12_readProduct N R d).2.1 (gG_X12_readProduct N R d).2.2.1 (gG_X12_readProduct N R d).2.2.2.1 (gG_X12_readProduct N R d).2.2.2.2.1 (gG_X12_readProduct N R d).2.2.2.2.2 a0 a1 I, fun a0 a1 I => f_X12_readExpression N R (gG_X12_readProduct N R d).1 (gG_X12_readProduct N R d).2.1 (gG_X12_readProduct N R d).2.2.1 (gG_X12_readProduct N R d).2.2.2.1 (gG_X12_readProduct N R d).2.2.2.2.1 (gG_X12_readProduct N R d).2.2.2.2.2 a0 a1 I, fun a0 a1 I => f_X12_readPart N R (gG_X12_readProduct N R d).1 (gG_X12_readProduct N R d).2.1 (gG_X12_readProduct N R d).2.2.1 (gG_X12_readProduct N R d).2.2.2.1 (gG_X12_readProduct N R d).2.2.2.2.1 (gG_X12_readProduct N R d).2.2.2.2.2 a0 a1 I)
theorem wG_X12_readProduct {l : Launch} (N : Nat) (R : Nat → Nat → Nat) : ∀ d : Nat, (∀ (a0 : Nat) (a1 : Int32) (I : Nat → Nat → Int32) (y : (Unit × (Nat → Nat → Int32))), (gG_X12_readProduct N R d).1 a0 a1 I = some y → sm_E l (6 + d) mX12_readProduct [.inr (.inl a0), .inl a1] (I, R) (.inl none) (y.2, R)) ∧ (∀ (a0 : Nat) (a1 : Int32) (I : Nat → Nat → Int32) (y : (Unit × (Nat → Nat → Int32))), (gG_X12_readProduct N R d).2.1 a0 a1 I = some y → sm_E l (6 + d) mX12_readSum [.inr (.inl a0), .inl a1] (I, R) (.inl none) (y.2, R)) ∧ (∀ (a0 : Nat) (a1 : Int32) (I : Nat → Nat → Int32) (y : (Unit × (Nat → Nat → Int32))), (gG_X12_readProduct N R d).2.2.1 a0 a1 I = some y → sm_E l (6 + d) mX12_readNot [.inr (.inl a0), .inl a1] (I, R) (.inl none) (y.2, R)) ∧ (∀ (a0 : Nat) (a1 : Int32) (I : Nat → Nat → Int32) (y : (Unit × (Nat → Nat → Int32))), (gG_X12_readProduct N R d).2.2.2.1 a0 a1 I = some y → sm_E l (6 + d) mX12_readAnd [.inr (.inl a0), .inl a1] (I, R) (.inl none) (y.2, R)) ∧ (∀ (a0 : Nat) (a1 : Int32) (I : Nat → Nat → Int32) (y : (Unit × (Nat → Nat → Int32))), (gG_X12_readProduct N R d).2.2.2.2.1 a0 a1 I = some y → sm_E l (6 + d) mX12_readExpression [.inr (.inl a0), .inl a1] (I, R) (.inl none) (y.2, R)) ∧ (∀ (a0 : Nat) (a1 : Int32) (I : Nat → Nat → Int32) (y : (Unit × (Nat → Nat → Int32))), (gG_X12_readProduct N R d).2.2.2.2.2 a0 a1 I = some y → sm_E l (6 + d) mX12_readPart [.inr (.inl a0), .inl a1] (I, R) (.inl none) (y.2, R)) := by
  intro d
  induction d with
  | zero => exact ⟨fun a0 a1 I y h => (by rw [gG_X12_readProduct] at h; cases h), fun a0 a1 I y h => (by rw [gG_X12_readProduct] at h; cases h), fun a0 a1 I y h => (by rw [gG_X12_readProduct] at h; cases h), fun a0 a1 I y h => (by rw [gG_X12_readProduct] at h; cases h), fun a0 a1 I y h => (by rw [gG_X12_readProduct] at h; cases h), fun a0 a1 I y h => (by rw [gG_X12_readProduct] at h; cases h)⟩
  | succ d ih =>
    obtain ⟨h_0, h_1, h_2, h_3, h_4, h_5⟩ := ih
    refine ⟨?_, ?_, ?_, ?_, ?_, ?_⟩
    · intro a0 a1 I y h
      rw [gG_X12_readProduct] at h
      exact sm_meth (by decide) (Nat.le_of_ble_eq_true rfl) (w_X12_readProduct N R (gG_X12_readProduct N R d).1 (gG_X12_readProduct N R d).2.1 (gG_X12_readProduct N R d).2.2.1 (gG_X12_readProduct N R d).2.2.2.1 (gG_X12_readProduct N R d).2.2.2.2.1 (gG_X12_readProduct N R d).2.2.2.2.2 (6 + d) (by omega) h_0 h_1 h_2 h_3 h_4 h_5 a0 a1 I y h)
    · intro a0 a1 I y h
      rw [gG_X12_readProduct] at h
      exact sm_meth (by decide) (Nat.le_of_ble_eq_true rfl) (w_X12_readSum N R (gG_X12_readProduct N R d).1 (gG_X12_readProduct N R d).2.1 (gG_X12_readProduct N R d).2.2.1 (gG_X12_readProduct N R d).2.2.2.1 (gG_X12_readProduct N R d).2.2.2.2.1 (gG_X12_readProduct N R d).2.2.2.2.2 (6 + d) (by omega) h_0 h_1 h_2 h_3 h_4 h_5 a0 a1 I y h)
    · intro a0 a1 I y h
      rw [gG_X12_readProduct] at h
      exact sm_meth (by decide) (Nat.le_of_ble_eq_true rfl) (w_X12_readNot N R (gG_X12_readProduct N R d).1 (gG_X12_readProduct N R d).2.1 (gG_X12_readProduct N R d).2.2.1 (gG_X12_readProduct N R d).2.2.2.1 (gG_X12_readProduct N R d).2.2.2.2.1 (gG_X12_readProduct N R d).2.2.2.2.2 (6 + d) (by omega) h_0 h_1 h_2 h_3 h_4 h_5 a0 a1 I y h)
    · intro a0 a1 I y h
      rw [gG_X12_readProduct] at h
      exact sm_meth (by decide) (Nat.le_of_ble_eq_true rfl) (w_X12_readAnd N R (gG_X12_readProduct N R d).1 (gG_X12_readProduct N R d).2.1 (gG_X12_readProduct N R d).2.2.1 (gG_X12_readProduct N R d).2.2.2.1 (gG_X12_readProduct N R d).2.2.2.2.1 (gG_X12_readProduct N R d).2.2.2.2.2 (6 + d) (by omega) h_0 h_1 h_2 h_3 h_4 h_5 a0 a1 I y h)
    · intro a0 a1 I y h
      rw [gG_X12_readProduct] at h
      exact sm_meth (by decide) (Nat.le_of_ble_eq_true rfl) (w_X12_readExpression N R (gG_X12_readProduct N R d).1 (gG_X12_readProduct N R d).2.1 (gG_X12_readProduct N R d).2.2.1 (gG_X12_readProduct N R d).2.2.2.1 (gG_X12_readProduct N R d).2.2.2.2.1 (gG_X12_readProduct N R d).2.2.2.2.2 (6 + d) (by omega) h_0 h_1 h_2 h_3 h_4 h_5 a0 a1 I y h)
    · intro a0 a1 I y h
      rw [gG_X12_readProduct] at h
      exact sm_meth (by decide) (Nat.le_of_ble_eq_true rfl) (w_X12_readPart N R (gG_X12_readProduct N R d).1 (gG_X12_readProduct N R d).2.1 (gG_X12_readProduct N R d).2.2.1 (gG_X12_readProduct N R d).2.2.2.1 (gG_X12_readProduct N R d).2.2.2.2.1 (gG_X12_readProduct N R d).2.2.2.2.2 (6 + d) (by omega) h_0 h_1 h_2 h_3 h_4 h_5 a0 a1 I y h)
def g_X12_readProduct (N : Nat) (R : Nat → Nat → Nat) : Nat → Int32 → (Nat → Nat → Int32) → Option (Unit × (Nat → Nat → Int32)) := fun a0 a1 I => (gG_X12_readProduct N R 64).1 a0 a1 I
theorem e_X12_readProduct {l : Launch} {N : Nat} {R : Nat → Nat → Nat} {a0 : Nat} {a1 : Int32} {I : Nat → Nat → Int32} {y : (Unit × (Nat → Nat → Int32))} (h : g_X12_readProduct N R a0 a1 I = some y) : sm_E l 70 mX12_readProduct [.inr (.inl a0), .inl a1] (I, R) (.inl none) (y.2, R) := (wG_X12_readProduct N R 64).1 _ _ _ _ h
def g_X12_readSum (N : Nat) (R : Nat → Nat → Nat) : Nat → Int32 → (Nat → Nat → Int32) → Option (Unit × (Nat → Nat → Int32)) := fun a0 a1 I => (gG_X12_readProduct N R 64).2.1 a0 a1 I
theorem e_X12_readSum {l : Launch} {N : Nat} {R : Nat → Nat → Nat} {a0 : Nat} {a1 : Int32} {I : Nat → Nat → Int32} {y : (Unit × (Nat → Nat → Int32))} (h : g_X12_readSum N R a0 a1 I = some y) : sm_E l 70 mX12_readSum [.inr (.inl a0), .inl a1] (I, R) (.inl none) (y.2, R) := (wG_X12_readProduct N R 64).2.1 _ _ _ _ h
def g_X12_readNot (N : Nat) (R : Nat → Nat → Nat) : Nat → Int32 → (Nat → Nat → Int32) → Option (Unit × (Nat → Nat → Int32)) := fun a0 a1 I => (gG_X12_readProduct N R 64).2.2.1 a0 a1 I
theorem e_X12_readNot {l : Launch} {N : Nat} {R : Nat → Nat → Nat} {a0 : Nat} {a1 : Int32} {I : Nat → Nat → Int32} {y : (Unit × (Nat → Nat → Int32))} (h : g_X12_readNot N R a0 a1 I = some y) : sm_E l 70 mX12_readNot [.inr (.inl a0), .inl a1] (I, R) (.inl none) (y.2, R) := (wG_X12_readProduct N R 64).2.2.1 _ _ _ _ h
def g_X12_readAnd (N : Nat) (R : Nat → Nat → Nat) : Nat → Int32 → (Nat → Nat → Int32) → Option (Unit × (Nat → Nat → Int32)) := fun a0 a1 I => (gG_X12_readProduct N R 64).2.2.2.1 a0 a1 I
theorem e_X12_readAnd {l : Launch} {N : Nat} {R : Nat → Nat → Nat} {a0 : Nat} {a1 : Int32} {I : Nat → Nat → Int32} {y : (Unit × (Nat → Nat → Int32))} (h : g_X12_readAnd N R a0 a1 I = some y) : sm_E l 70 mX12_readAnd [.inr (.inl a0), .inl a1] (I, R) (.inl none) (y.2, R) := (wG_X12_readProduct N R 64).2.2.2.1 _ _ _ _ h
def g_X12_readExpression (N : Nat) (R : Nat → Nat → Nat) : Nat → Int32 → (Nat → Nat → Int32) → Option (Unit × (Nat → Nat → Int32)) := fun a0 a1 I => (gG_X12_readProduct N R 64).2.2.2.2.1 a0 a1 I
theorem e_X12_readExpression {l : Launch} {N : Nat} {R : Nat → Nat → Nat} {a0 : Nat} {a1 : Int32} {I : Nat → Nat → Int32} {y : (Unit × (Nat → Nat → Int32))} (h : g_X12_readExpression N R a0 a1 I = some y) : sm_E l 70 mX12_readExpression [.inr (.inl a0), .inl a1] (I, R) (.inl none) (y.2, R) := (wG_X12_readProduct N R 64).2.2.2.2.1 _ _ _ _ h
def g_X12_readPart (N : Nat) (R : Nat → Nat → Nat) : Nat → Int32 → (Nat → Nat → Int32) → Option (Unit × (Nat → Nat → Int32)) := fun a0 a1 I => (gG_X12_readProduct N R 64).2.2.2.2.2 a0 a1 I
theorem e_X12_readPart {l : Launch} {N : Nat} {R : Nat → Nat → Nat} {a0 : Nat} {a1 : Int32} {I : Nat → Nat → Int32} {y : (Unit × (Nat → Nat → Int32))} (h : g_X12_readPart N R a0 a1 I = some y) : sm_E l 70 mX12_readPart [.inr (.inl a0), .inl a1] (I, R) (.inl none) (y.2, R) := (wG_X12_readProduct N R 64).2.2.2.2.2 _ _ _ _ h
def f_X12_another_17 (N : Nat) (R : Nat → Nat → Nat) : Nat → (Nat → Nat → Int32) → Option (Int32 × (Nat → Nat → Int32)) := fun a0 I =>
  sm_gd (sm_kd a0 = (12, 59)) <|
  if (I a0 22) = 0 then (
    (f_X12_stepOn N R a0 I).bind fun p3 =>
    some ((1 : Int32), p3.2))
  else (
    some ((0 : Int32), I))
def f_X12_another (N : Nat) (R : Nat → Nat → Nat) : Nat → Int32 → Int32 → (Nat → Nat → Int32) → Option (Int32 × (Nat → Nat → Int32)) := fun a0 a1 a2 I =>
  sm_gd (sm_kd a0 = (12, 59)) <|
  sm_gd ((sm_kd (R a0 4)).1 = 13 ∧ ¬ (((4 : Int32) + a1) < 0 ∨ (sm_kd (R a0 4)).2 ≤ (((4 : Int32) + a1)).toNatClampNeg)) <|
  if (I (R a0 4) (((4 : Int32) + a1)).toNatClampNeg) = a2 then (
    (f_X12_wrong N R a0 (2 : Int32) I).bind fun p4 =>
    f_X12_another_17 N R a0 p4.2)
  else (
    f_X12_another_17 N R a0 I)
set_option maxHeartbeats 4000000 in
set_option maxRecDepth 100000 in
theorem w_X12_another_17 {l : Launch} (N : Nat) (R : Nat → Nat → Nat) : ∀ (a0 : Nat) (I : (Nat → Nat → Int32)) (y : (Int32 × (Nat → Nat → Int32))), f_X12_another_17 N R a0 I = some y → sm_W l 2 mX12_another 17 [(0, .inr (.inl a0))] [] (I, R) (.inl (some (.inl y.1))) (y.2, R) := by
  intro a0 I y h
  unfold f_X12_another_17 at h
  refine sm_aload_n (q := 18) dX12_another_17 rfl rfl 0 rfl ?_
  obtain ⟨hc1, h⟩ := sm_gd_e h
  refine sm_getI (q := 21) dX12_another_18 rfl fk_X12_201 hc1 (by decide) (by decide) ?_
  rcases sm_if_e h with ⟨hb2, h⟩ | ⟨hb2, h⟩
  · refine sm_if_eq (tgt := 26) (q := 24) dX12_another_21 (by decide) rfl (fun _ => ?_) (fun hn => absurd hb2 hn)
    refine sm_aload_n (q := 27) dX12_another_26 rfl rfl 0 rfl ?_
    obtain ⟨p3, hc_p3, h⟩ := sm_bd_e h
    refine sm_callVv (q := 30) (As := []) (S := []) (e_X12_stepOn hc_p3) mv_X12_226 hc1 rfl (by decide) (Nat.le_of_ble_eq_true rfl) dX12_another_27 rfl ?_
    refine sm_iconst (v := 1) (q := 31) dX12_another_30 rfl (by decide) ?_
    obtain rfl := Option.some.inj h
    exact sm_zret dX12_another_31 rfl (by decide)
  · refine sm_if_eq (tgt := 26) (q := 24) dX12_another_21 (by decide) rfl (fun ht => absurd ht hb2) (fun _ => ?_)
    refine sm_iconst (v := 0) (q := 25) dX12_another_24 rfl (by decide) ?_
    obtain rfl := Option.some.inj h
    exact sm_zret dX12_another_25 rfl (by decide)
set_option maxHeartbeats 4000000 in
set_option maxRecDepth 100000 in
theorem w_X12_another {l : Launch} (N : Nat) (R : Nat → Nat → Nat) : ∀ (a0 : Nat) (a1 : Int32) (a2 : Int32) (I : (Nat → Nat → Int32)) (y : (Int32 × (Nat → Nat → Int32))), f_X12_another N R a0 a1 a2 I = some y → sm_W l 2 mX12_another 0 [(0, .inr (.inl a0)), (1, .inl a1), (2, .inl a2)] [] (I, R) (.inl (some (.inl y.1))) (y.2, R) := by
  intro a0 a1 a2 I y h
  unfold f_X12_another at h
  refine sm_aload_n (q := 1) dX12_another_0 rfl rfl 0 rfl ?_
  obtain ⟨hc1, h⟩ := sm_gd_e h
  refine sm_getR (r := R a0 4) (q := 4) dX12_another_1 rfl fk_X12_41 hc1 (by decide) (by decide) rfl ?_
  refine sm_iconst (v := 4) (q := 5) dX12_another_4 rfl (by decide) ?_
  refine sm_iload_n (q := 6) dX12_another_5 rfl rfl 1 rfl ?_
  refine sm_iadd (q := 7) dX12_another_6 rfl ?_
  obtain ⟨hc2, h⟩ := sm_gd_e h
  refine sm_iald (n := (sm_kd (R a0 4)).2) (q := 8) dX12_another_7 rfl (Prod.ext hc2.1 rfl) hc2.2 ?_
  refine sm_iload_n (q := 9) dX12_another_8 rfl rfl 2 rfl ?_
  rcases sm_if_e h with ⟨hb3, h⟩ | ⟨hb3, h⟩
  · refine sm_icmp_ne (tgt := 17) (q := 12) dX12_another_9 (by decide) rfl (fun hn => absurd hb3 hn) (fun _ => ?_)
    refine sm_aload_n (q := 13) dX12_another_12 rfl rfl 0 rfl ?_
    refine sm_iconst (v := 2) (q := 14) dX12_another_13 rfl (by decide) ?_
    obtain ⟨p4, hc_p4, h⟩ := sm_bd_e h
    refine sm_callVv (q := 17) (As := [.inl (2 : Int32)]) (S := []) (e_X12_wrong hc_p4) mv_X12_222 hc1 rfl (by decide) (Nat.le_of_ble_eq_true rfl) dX12_another_14 rfl ?_
    refine sm_pick [0] rfl ?_
    exact w_X12_another_17 N R _ _ _ h
  · refine sm_icmp_ne (tgt := 17) (q := 12) dX12_another_9 (by decide) rfl (fun _ => ?_) (fun he => absurd he hb3)
    refine sm_pick [0] rfl ?_
    exact w_X12_another_17 N R _ _ _ h
theorem e_X12_another {l : Launch} {N : Nat} {R : Nat → Nat → Nat} {a0 : Nat} {a1 : Int32} {a2 : Int32} {I : (Nat → Nat → Int32)} {y : (Int32 × (Nat → Nat → Int32))} (h : f_X12_another N R a0 a1 a2 I = some y) : sm_E l 2 mX12_another [.inr (.inl a0), .inl a1, .inl a2] (I, R) (.inl (some (.inl y.1))) (y.2, R) :=
  sm_meth (by decide) (Nat.le_of_ble_eq_true rfl) (w_X12_another N R a0 a1 a2 I y h)
def f_X12_sayPiece_62 (N : Nat) (R : Nat → Nat → Nat) (k_36 : Nat → Int32 → Int32 → Int32 → (Nat → Nat → Int32) → Option (Unit × (Nat → Nat → Int32))) : Nat → Int32 → Int32 → Int32 → (Nat → Nat → Int32) → Option (Unit × (Nat → Nat → Int32)) := fun a0 a1 a2 a3 I =>
  sm_gd (sm_kd a0 = (12, 59)) <|
  (f_X12_readNumber N R a0 (1 : Int32) (99 : Int32) I).bind fun p2 =>
  if (p2.2 a0 22) = 0 then (
    sm_gd ((sm_kd (R a0 7)).1 = 13 ∧ ¬ ((((8 : Int32) * a2) + a3) < 0 ∨ (sm_kd (R a0 7)).2 ≤ ((((8 : Int32) * a2) + a3)).toNatClampNeg)) <|
    sm_lt (sm_up p2.2 (R a0 7) (sm_up (p2.2 (R a0 7)) ((((8 : Int32) * a2) + a3)).toNatClampNeg p2.1)) fun I5 =>
    k_36 a0 a1 a2 (a3 + 1) I5)
  else (
    k_36 a0 a1 a2 a3 p2.2)
def f_X12_sayPiece_100 (N : Nat) (R : Nat → Nat → Nat) : Nat → Int32 → Int32 → Int32 → (Nat → Nat → Int32) → Option (Unit × (Nat → Nat → Int32)) := fun a0 a1 a2 a3 I =>
  sm_gd (sm_kd a0 = (12, 59)) <|
  sm_gd ((sm_kd (R a0 5)).1 = 13 ∧ ¬ (a2 < 0 ∨ (sm_kd (R a0 5)).2 ≤ (a2).toNatClampNeg)) <|
  sm_lt (sm_up I (R a0 5) (sm_up (I (R a0 5)) (a2).toNatClampNeg a1)) fun I3 =>
  sm_gd ((sm_kd (R a0 6)).1 = 13 ∧ ¬ (a2 < 0 ∨ (sm_kd (R a0 6)).2 ≤ (a2).toNatClampNeg)) <|
  sm_lt (sm_up I3 (R a0 6) (sm_up (I3 (R a0 6)) (a2).toNatClampNeg a3)) fun I5 =>
  sm_gd ((sm_kd (R a0 4)).1 = 13 ∧ ¬ ((4 : Int32) < 0 ∨ (sm_kd (R a0 4)).2 ≤ ((4 : Int32)).toNatClampNeg)) <|
  sm_lt (sm_up I5 (R a0 4) (sm_up (I5 (R a0 4)) ((4 : Int32)).toNatClampNeg ((I5 (R a0 4) ((4 : Int32)).toNatClampNeg) + (1 : Int32)))) fun I7 =>
  some ((), I7)
def f_X12_sayPiece_36 (N : Nat) (R : Nat → Nat → Nat) : Nat → Nat → Int32 → Int32 → Int32 → (Nat → Nat → Int32) → Option (Unit × (Nat → Nat → Int32))
  | 0, _, _, _, _, _ => none
  | n + 1, a0, a1, a2, a3, I =>
    sm_gd (sm_kd a0 = (12, 59)) <|
    if (I a0 22) = 0 then (
      if (I a0 18) = (2 : Int32) then (
        if a3 = (8 : Int32) then (
          (f_X12_wrong N R a0 (2 : Int32) I).bind fun p5 =>
          f_X12_sayPiece_62 N R (fun z0 z1 z2 z3 J => f_X12_sayPiece_36 N R n z0 z1 z2 z3 J) a0 a1 a2 a3 p5.2)
        else (
          f_X12_sayPiece_62 N R (fun z0 z1 z2 z3 J => f_X12_sayPiece_36 N R n z0 z1 z2 z3 J) a0 a1 a2 a3 I))
      else (
        f_X12_sayPiece_100 N R a0 a1 a2 a3 I))
    else (
      f_X12_sayPiece_100 N R a0 a1 a2 a3 I)
def f_X12_sayPiece (N : Nat) (R : Nat → Nat → Nat) : Nat → Int32 → (Nat → Nat → Int32) → Option (Unit × (Nat → Nat → Int32)) := fun a0 a1 I =>
  sm_gd (sm_kd a0 = (12, 59)) <|
  (f_X12_another N R a0 (0 : Int32) (6 : Int32) I).bind fun p2 =>
  if p2.1 = 0 then (
    some ((), p2.2))
  else (
    sm_gd ((sm_kd (R a0 4)).1 = 13 ∧ ¬ ((4 : Int32) < 0 ∨ (sm_kd (R a0 4)).2 ≤ ((4 : Int32)).toNatClampNeg)) <|
    if (p2.2 a0 18) = (2 : Int32) then (
      f_X12_sayPiece_36 N R N a0 a1 ((6 : Int32) + (p2.2 (R a0 4) ((4 : Int32)).toNatClampNeg)) (0 : Int32) p2.2)
    else (
      (f_X12_wrong N R a0 (1 : Int32) p2.2).bind fun p6 =>
      f_X12_sayPiece_36 N R N a0 a1 ((6 : Int32) + (p2.2 (R a0 4) ((4 : Int32)).toNatClampNeg)) (0 : Int32) p6.2))
set_option maxHeartbeats 4000000 in
set_option maxRecDepth 100000 in
theorem w_X12_sayPiece_62 {l : Launch} (N : Nat) (R : Nat → Nat → Nat) (k_36 : Nat → Int32 → Int32 → Int32 → (Nat → Nat → Int32) → Option (Unit × (Nat → Nat → Int32))) (hk_36 : ∀ (a0 : Nat) (a1 : Int32) (a2 : Int32) (a3 : Int32) (I : (Nat → Nat → Int32)) (y : (Unit × (Nat → Nat → Int32))), k_36 a0 a1 a2 a3 I = some y → sm_W l 3 mX12_sayPiece 36 [(0, .inr (.inl a0)), (1, .inl a1), (2, .inl a2), (3, .inl a3)] [] (I, R) (.inl none) (y.2, R)) : ∀ (a0 : Nat) (a1 : Int32) (a2 : Int32) (a3 : Int32) (I : (Nat → Nat → Int32)) (y : (Unit × (Nat → Nat → Int32))), f_X12_sayPiece_62 N R k_36 a0 a1 a2 a3 I = some y → sm_W l 3 mX12_sayPiece 62 [(0, .inr (.inl a0)), (1, .inl a1), (2, .inl a2), (3, .inl a3)] [] (I, R) (.inl none) (y.2, R) := by
  intro a0 a1 a2 a3 I y h
  unfold f_X12_sayPiece_62 at h
  refine sm_aload_n (q := 63) dX12_sayPiece_62 rfl rfl 0 rfl ?_
  refine sm_iconst (v := 1) (q := 64) dX12_sayPiece_63 rfl (by decide) ?_
  refine sm_bipush (v := 99) (q := 66) dX12_sayPiece_64 rfl (by decide) ?_
  obtain ⟨hc1, h⟩ := sm_gd_e h
  obtain ⟨p2, hc_p2, h⟩ := sm_bd_e h
  refine sm_callVi (q := 69) (As := [.inl (1 : Int32), .inl (99 : Int32)]) (S := []) (e_X12_readNumber hc_p2) mv_X12_232 hc1 rfl (by decide) (Nat.le_of_ble_eq_true rfl) dX12_sayPiece_66 rfl ?_
  refine sm_istore (L' := [(4, .inl p2.1), (0, .inr (.inl a0)), (1, .inl a1), (2, .inl a2), (3, .inl a3)]) (q := 71) dX12_sayPiece_69 rfl (by decide) rfl ?_
  refine sm_aload_n (q := 72) dX12_sayPiece_71 rfl rfl 1 rfl ?_
  refine sm_getI (q := 75) dX12_sayPiece_72 rfl fk_X12_201 hc1 (by decide) (by decide) ?_
  rcases sm_if_e h with ⟨hb3, h⟩ | ⟨hb3, h⟩
  · refine sm_if_eq (tgt := 81) (q := 78) dX12_sayPiece_75 (by decide) rfl (fun _ => ?_) (fun hn => absurd hb3 hn)
    refine sm_aload_n (q := 82) dX12_sayPiece_81 rfl rfl 1 rfl ?_
    refine sm_getR (r := R a0 7) (q := 85) dX12_sayPiece_82 rfl fk_X12_50 hc1 (by decide) (by decide) rfl ?_
    refine sm_bipush (v := 8) (q := 87) dX12_sayPiece_85 rfl (by decide) ?_
    refine sm_iload_n (q := 88) dX12_sayPiece_87 rfl rfl 3 rfl ?_
    refine sm_imul (q := 89) dX12_sayPiece_88 rfl ?_
    refine sm_iload_n (q := 90) dX12_sayPiece_89 rfl rfl 4 rfl ?_
    refine sm_iadd (q := 91) dX12_sayPiece_90 rfl ?_
    refine sm_iload (q := 93) dX12_sayPiece_91 rfl 0 rfl ?_
    obtain ⟨hc4, h⟩ := sm_gd_e h
    obtain ⟨I5, hI5, h⟩ := sm_lt_e h
    refine sm_iast (n := (sm_kd (R a0 7)).2) (q := 94) dX12_sayPiece_93 rfl (Prod.ext hc4.1 rfl) hc4.2 ?_
    refine sm_memI hI5 ?_
    refine sm_iinc (v := (a3 + 1)) (L' := [(3, .inl (a3 + 1)), (4, .inl p2.1), (0, .inr (.inl a0)), (1, .inl a1), (2, .inl a2)]) (q := 97) dX12_sayPiece_94 rfl 4 rfl rfl (by decide) rfl ?_
    refine sm_goto (q := 36) dX12_sayPiece_97 (by decide) ?_
    refine sm_pick [2, 3, 4, 0] rfl ?_
    exact hk_36 _ _ _ _ _ _ h
  · refine sm_if_eq (tgt := 81) (q := 78) dX12_sayPiece_75 (by decide) rfl (fun ht => absurd ht hb3) (fun _ => ?_)
    refine sm_goto (q := 36) dX12_sayPiece_78 (by decide) ?_
    refine sm_pick [1, 2, 3, 4] rfl ?_
    exact hk_36 _ _ _ _ _ _ h
set_option maxHeartbeats 4000000 in
set_option maxRecDepth 100000 in
theorem w_X12_sayPiece_100 {l : Launch} (N : Nat) (R : Nat → Nat → Nat) : ∀ (a0 : Nat) (a1 : Int32) (a2 : Int32) (a3 : Int32) (I : (Nat → Nat → Int32)) (y : (Unit × (Nat → Nat → Int32))), f_X12_sayPiece_100 N R a0 a1 a2 a3 I = some y → sm_W l 3 mX12_sayPiece 100 [(0, .inr (.inl a0)), (1, .inl a1), (2, .inl a2), (3, .inl a3)] [] (I, R) (.inl none) (y.2, R) := by
  intro a0 a1 a2 a3 I y h
  unfold f_X12_sayPiece_100 at h
  refine sm_aload_n (q := 101) dX12_sayPiece_100 rfl rfl 0 rfl ?_
  obtain ⟨hc1, h⟩ := sm_gd_e h
  refine sm_getR (r := R a0 5) (q := 104) dX12_sayPiece_101 rfl fk_X12_45 hc1 (by decide) (by decide) rfl ?_
  refine sm_iload_n (q := 105) dX12_sayPiece_104 rfl rfl 2 rfl ?_
  refine sm_iload_n (q := 106) dX12_sayPiece_105 rfl rfl 1 rfl ?_
  obtain ⟨hc2, h⟩ := sm_gd_e h
  obtain ⟨I3, hI3, h⟩ := sm_lt_e h
  refine sm_iast (n := (sm_kd (R a0 5)).2) (q := 107) dX12_sayPiece_106 rfl (Prod.ext hc2.1 rfl) hc2.2 ?_
  refine sm_memI hI3 ?_
  refine sm_aload_n (q := 108) dX12_sayPiece_107 rfl rfl 0 rfl ?_
  refine sm_getR (r := R a0 6) (q := 111) dX12_sayPiece_108 rfl fk_X12_47 hc1 (by decide) (by decide) rfl ?_
  refine sm_iload_n (q := 112) dX12_sayPiece_111 rfl rfl 2 rfl ?_
  refine sm_iload_n (q := 113) dX12_sayPiece_112 rfl rfl 3 rfl ?_
  obtain ⟨hc4, h⟩ := sm_gd_e h
  obtain ⟨I5, hI5, h⟩ := sm_lt_e h
  refine sm_iast (n := (sm_kd (R a0 6)).2) (q := 114) dX12_sayPiece_113 rfl (Prod.ext hc4.1 rfl) hc4.2 ?_
  refine sm_memI hI5 ?_
  refine sm_aload_n (q := 115) dX12_sayPiece_114 rfl rfl 0 rfl ?_
  refine sm_getR (r := R a0 4) (q := 118) dX12_sayPiece_115 rfl fk_X12_41 hc1 (by decide) (by decide) rfl ?_
  refine sm_iconst (v := 4) (q := 119) dX12_sayPiece_118 rfl (by decide) ?_
  refine sm_dup2 (q := 120) dX12_sayPiece_119 rfl rfl rfl ?_
  obtain ⟨hc6, h⟩ := sm_gd_e h
  refine sm_iald (n := (sm_kd (R a0 4)).2) (q := 121) dX12_sayPiece_120 rfl (Prod.ext hc6.1 rfl) hc6.2 ?_
  refine sm_iconst (v := 1) (q := 122) dX12_sayPiece_121 rfl (by decide) ?_
  refine sm_iadd (q := 123) dX12_sayPiece_122 rfl ?_
  obtain ⟨I7, hI7, h⟩ := sm_lt_e h
  refine sm_iast (n := (sm_kd (R a0 4)).2) (q := 124) dX12_sayPiece_123 rfl (Prod.ext hc6.1 rfl) hc6.2 ?_
  refine sm_memI hI7 ?_
  obtain rfl := Option.some.inj h
  exact sm_vret dX12_sayPiece_124 rfl
set_option maxHeartbeats 4000000 in
set_option maxRecDepth 100000 in
theorem w_X12_sayPiece_36 {l : Launch} (N : Nat) (R : Nat → Nat → Nat) : ∀ (n : Nat) (a0 : Nat) (a1 : Int32) (a2 : Int32) (a3 : Int32) (I : (Nat → Nat → Int32)) (y : (Unit × (Nat → Nat → Int32))), f_X12_sayPiece_36 N R n a0 a1 a2 a3 I = some y → sm_W l 3 mX12_sayPiece 36 [(0, .inr (.inl a0)), (1, .inl a1), (2, .inl a2), (3, .inl a3)] [] (I, R) (.inl none) (y.2, R) := by
  intro n
  induction n with
  | zero => intro a0 a1 a2 a3 I y h; cases h
  | succ n ih =>
    intro a0 a1 a2 a3 I y h
    rw [f_X12_sayPiece_36] at h
    refine sm_aload_n (q := 37) dX12_sayPiece_36 rfl rfl 0 rfl ?_
    obtain ⟨hc1, h⟩ := sm_gd_e h
    refine sm_getI (q := 40) dX12_sayPiece_37 rfl fk_X12_201 hc1 (by decide) (by decide) ?_
    rcases sm_if_e h with ⟨hb2, h⟩ | ⟨hb2, h⟩
    · refine sm_if_ne (tgt := 100) (q := 43) dX12_sayPiece_40 (by decide) rfl (fun hn => absurd hb2 hn) (fun _ => ?_)
      refine sm_aload_n (q := 44) dX12_sayPiece_43 rfl rfl 0 rfl ?_
      refine sm_getI (q := 47) dX12_sayPiece_44 rfl fk_X12_175 hc1 (by decide) (by decide) ?_
      refine sm_iconst (v := 2) (q := 48) dX12_sayPiece_47 rfl (by decide) ?_
      rcases sm_if_e h with ⟨hb3, h⟩ | ⟨hb3, h⟩
      · refine sm_icmp_ne (tgt := 100) (q := 51) dX12_sayPiece_48 (by decide) rfl (fun hn => absurd hb3 hn) (fun _ => ?_)
        refine sm_iload_n (q := 52) dX12_sayPiece_51 rfl rfl 3 rfl ?_
        refine sm_bipush (v := 8) (q := 54) dX12_sayPiece_52 rfl (by decide) ?_
        rcases sm_if_e h with ⟨hb4, h⟩ | ⟨hb4, h⟩
        · refine sm_icmp_ne (tgt := 62) (q := 57) dX12_sayPiece_54 (by decide) rfl (fun hn => absurd hb4 hn) (fun _ => ?_)
          refine sm_aload_n (q := 58) dX12_sayPiece_57 rfl rfl 0 rfl ?_
          refine sm_iconst (v := 2) (q := 59) dX12_sayPiece_58 rfl (by decide) ?_
          obtain ⟨p5, hc_p5, h⟩ := sm_bd_e h
          refine sm_callVv (q := 62) (As := [.inl (2 : Int32)]) (S := []) (e_X12_wrong hc_p5) mv_X12_222 hc1 rfl (by decide) (Nat.le_of_ble_eq_true rfl) dX12_sayPiece_59 rfl ?_
          refine sm_pick [0, 1, 2, 3] rfl ?_
          exact w_X12_sayPiece_62 N R (fun z0 z1 z2 z3 J => f_X12_sayPiece_36 N R n z0 z1 z2 z3 J) (fun z0 z1 z2 z3 J y h => ih z0 z1 z2 z3 J y h) _ _ _ _ _ _ h
        · refine sm_icmp_ne (tgt := 62) (q := 57) dX12_sayPiece_54 (by decide) rfl (fun _ => ?_) (fun he => absurd he hb4)
          refine sm_pick [0, 1, 2, 3] rfl ?_
          exact w_X12_sayPiece_62 N R (fun z0 z1 z2 z3 J => f_X12_sayPiece_36 N R n z0 z1 z2 z3 J) (fun z0 z1 z2 z3 J y h => ih z0 z1 z2 z3 J y h) _ _ _ _ _ _ h
      · refine sm_icmp_ne (tgt := 100) (q := 51) dX12_sayPiece_48 (by decide) rfl (fun _ => ?_) (fun he => absurd he hb3)
        refine sm_pick [0, 1, 2, 3] rfl ?_
        exact w_X12_sayPiece_100 N R _ _ _ _ _ _ h
    · refine sm_if_ne (tgt := 100) (q := 43) dX12_sayPiece_40 (by decide) rfl (fun _ => ?_) (fun he => absurd he hb2)
      refine sm_pick [0, 1, 2, 3] rfl ?_
      exact w_X12_sayPiece_100 N R _ _ _ _ _ _ h
set_option maxHeartbeats 4000000 in
set_option maxRecDepth 100000 in
theorem w_X12_sayPiece {l : Launch} (N : Nat) (R : Nat → Nat → Nat) : ∀ (a0 : Nat) (a1 : Int32) (I : (Nat → Nat → Int32)) (y : (Unit × (Nat → Nat → Int32))), f_X12_sayPiece N R a0 a1 I = some y → sm_W l 3 mX12_sayPiece 0 [(0, .inr (.inl a0)), (1, .inl a1)] [] (I, R) (.inl none) (y.2, R) := by
  intro a0 a1 I y h
  unfold f_X12_sayPiece at h
  refine sm_aload_n (q := 1) dX12_sayPiece_0 rfl rfl 0 rfl ?_
  refine sm_iconst (v := 0) (q := 2) dX12_sayPiece_1 rfl (by decide) ?_
  refine sm_bipush (v := 6) (q := 4) dX12_sayPiece_2 rfl (by decide) ?_
  obtain ⟨hc1, h⟩ := sm_gd_e h
  obtain ⟨p2, hc_p2, h⟩ := sm_bd_e h
  refine sm_callVi (q := 7) (As := [.inl (0 : Int32), .inl (6 : Int32)]) (S := []) (e_X12_another hc_p2) mv_X12_269 hc1 rfl (by decide) (Nat.le_of_ble_eq_true rfl) dX12_sayPiece_4 rfl ?_
  rcases sm_if_e h with ⟨hb3, h⟩ | ⟨hb3, h⟩
  · refine sm_if_ne (tgt := 11) (q := 10) dX12_sayPiece_7 (by decide) rfl (fun hn => absurd hb3 hn) (fun _ => ?_)
    obtain rfl := Option.some.inj h
    exact sm_vret dX12_sayPiece_10 rfl
  · refine sm_if_ne (tgt := 11) (q := 10) dX12_sayPiece_7 (by decide) rfl (fun _ => ?_) (fun he => absurd he hb3)
    refine sm_bipush (v := 6) (q := 13) dX12_sayPiece_11 rfl (by decide) ?_
    refine sm_aload_n (q := 14) dX12_sayPiece_13 rfl rfl 0 rfl ?_
    refine sm_getR (r := R a0 4) (q := 17) dX12_sayPiece_14 rfl fk_X12_41 hc1 (by decide) (by decide) rfl ?_
    refine sm_iconst (v := 4) (q := 18) dX12_sayPiece_17 rfl (by decide) ?_
    obtain ⟨hc4, h⟩ := sm_gd_e h
    refine sm_iald (n := (sm_kd (R a0 4)).2) (q := 19) dX12_sayPiece_18 rfl (Prod.ext hc4.1 rfl) hc4.2 ?_
    refine sm_iadd (q := 20) dX12_sayPiece_19 rfl ?_
    refine sm_istore_n (L' := [(2, .inl ((6 : Int32) + (p2.2 (R a0 4) ((4 : Int32)).toNatClampNeg))), (0, .inr (.inl a0)), (1, .inl a1)]) (q := 21) dX12_sayPiece_20 rfl rfl (by decide) rfl ?_
    refine sm_iconst (v := 0) (q := 22) dX12_sayPiece_21 rfl (by decide) ?_
    refine sm_istore_n (L' := [(3, .inl (0 : Int32)), (2, .inl ((6 : Int32) + (p2.2 (R a0 4) ((4 : Int32)).toNatClampNeg))), (0, .inr (.inl a0)), (1, .inl a1)]) (q := 23) dX12_sayPiece_22 rfl rfl (by decide) rfl ?_
    refine sm_aload_n (q := 24) dX12_sayPiece_23 rfl rfl 2 rfl ?_
    refine sm_getI (q := 27) dX12_sayPiece_24 rfl fk_X12_175 hc1 (by decide) (by decide) ?_
    refine sm_iconst (v := 2) (q := 28) dX12_sayPiece_27 rfl (by decide) ?_
    rcases sm_if_e h with ⟨hb5, h⟩ | ⟨hb5, h⟩
    · refine sm_icmp_eq (tgt := 36) (q := 31) dX12_sayPiece_28 (by decide) rfl (fun _ => ?_) (fun hn => absurd hb5 hn)
      refine sm_pick [2, 3, 1, 0] rfl ?_
      exact w_X12_sayPiece_36 N R N _ _ _ _ _ _ h
    · refine sm_icmp_eq (tgt := 36) (q := 31) dX12_sayPiece_28 (by decide) rfl (fun ht => absurd ht hb5) (fun _ => ?_)
      refine sm_aload_n (q := 32) dX12_sayPiece_31 rfl rfl 2 rfl ?_
      refine sm_iconst (v := 1) (q := 33) dX12_sayPiece_32 rfl (by decide) ?_
      obtain ⟨p6, hc_p6, h⟩ := sm_bd_e h
      refine sm_callVv (q := 36) (As := [.inl (1 : Int32)]) (S := []) (e_X12_wrong hc_p6) mv_X12_222 hc1 rfl (by decide) (Nat.le_of_ble_eq_true rfl) dX12_sayPiece_33 rfl ?_
      refine sm_pick [2, 3, 1, 0] rfl ?_
      exact w_X12_sayPiece_36 N R N _ _ _ _ _ _ h
theorem e_X12_sayPiece {l : Launch} {N : Nat} {R : Nat → Nat → Nat} {a0 : Nat} {a1 : Int32} {I : (Nat → Nat → Int32)} {y : (Unit × (Nat → Nat → Int32))} (h : f_X12_sayPiece N R a0 a1 I = some y) : sm_E l 3 mX12_sayPiece [.inr (.inl a0), .inl a1] (I, R) (.inl none) (y.2, R) :=
  sm_meth (by decide) (Nat.le_of_ble_eq_true rfl) (w_X12_sayPiece N R a0 a1 I y h)
def f_X12_sayPupil_85 (N : Nat) (R : Nat → Nat → Nat) : Nat → Int32 → Int32 → (Nat → Nat → Int32) → Option (Unit × (Nat → Nat → Int32)) := fun a0 a2 a3 I =>
  sm_gd (sm_kd a0 = (12, 59)) <|
  if (I a0 22) = 0 then (
    (f_X12_stepOn N R a0 I).bind fun p3 =>
    sm_gd ((sm_kd (R a0 11)).1 = 13 ∧ ¬ (a2 < 0 ∨ (sm_kd (R a0 11)).2 ≤ (a2).toNatClampNeg)) <|
    sm_lt (sm_up p3.2 (R a0 11) (sm_up (p3.2 (R a0 11)) (a2).toNatClampNeg a3)) fun I5 =>
    sm_gd ((sm_kd (R a0 4)).1 = 13 ∧ ¬ ((5 : Int32) < 0 ∨ (sm_kd (R a0 4)).2 ≤ ((5 : Int32)).toNatClampNeg)) <|
    sm_lt (sm_up I5 (R a0 4) (sm_up (I5 (R a0 4)) ((5 : Int32)).toNatClampNeg ((I5 (R a0 4) ((5 : Int32)).toNatClampNeg) + (1 : Int32)))) fun I7 =>
    some ((), I7))
  else (
    sm_gd ((sm_kd (R a0 11)).1 = 13 ∧ ¬ (a2 < 0 ∨ (sm_kd (R a0 11)).2 ≤ (a2).toNatClampNeg)) <|
    sm_lt (sm_up I (R a0 11) (sm_up (I (R a0 11)) (a2).toNatClampNeg a3)) fun I9 =>
    sm_gd ((sm_kd (R a0 4)).1 = 13 ∧ ¬ ((5 : Int32) < 0 ∨ (sm_kd (R a0 4)).2 ≤ ((5 : Int32)).toNatClampNeg)) <|
    sm_lt (sm_up I9 (R a0 4) (sm_up (I9 (R a0 4)) ((5 : Int32)).toNatClampNeg ((I9 (R a0 4) ((5 : Int32)).toNatClampNeg) + (1 : Int32)))) fun I11 =>
    some ((), I11))
def f_X12_sayPupil (N : Nat) (R : Nat → Nat → Nat) : Nat → Int32 → (Nat → Nat → Int32) → Option (Unit × (Nat → Nat → Int32)) := fun a0 a1 I =>
  sm_gd (sm_kd a0 = (12, 59)) <|
  (f_X12_another N R a0 (1 : Int32) (7 : Int32) I).bind fun p2 =>
  if p2.1 = 0 then (
    some ((), p2.2))
  else (
    sm_gd ((sm_kd (R a0 4)).1 = 13 ∧ ¬ ((5 : Int32) < 0 ∨ (sm_kd (R a0 4)).2 ≤ ((5 : Int32)).toNatClampNeg)) <|
    sm_gd ((sm_kd (R a0 8)).1 = 13 ∧ ¬ (((7 : Int32) + (p2.2 (R a0 4) ((5 : Int32)).toNatClampNeg)) < 0 ∨ (sm_kd (R a0 8)).2 ≤ (((7 : Int32) + (p2.2 (R a0 4) ((5 : Int32)).toNatClampNeg))).toNatClampNeg)) <|
    sm_lt (sm_up p2.2 (R a0 8) (sm_up (p2.2 (R a0 8)) (((7 : Int32) + (p2.2 (R a0 4) ((5 : Int32)).toNatClampNeg))).toNatClampNeg a1)) fun I6 =>
    (f_X12_readNumber N R a0 (0 : Int32) (99 : Int32) I6).bind fun p7 =>
    sm_gd ((sm_kd (R a0 9)).1 = 13 ∧ ¬ (((7 : Int32) + (p2.2 (R a0 4) ((5 : Int32)).toNatClampNeg)) < 0 ∨ (sm_kd (R a0 9)).2 ≤ (((7 : Int32) + (p2.2 (R a0 4) ((5 : Int32)).toNatClampNeg))).toNatClampNeg)) <|
    sm_lt (sm_up p7.2 (R a0 9) (sm_up (p7.2 (R a0 9)) (((7 : Int32) + (p2.2 (R a0 4) ((5 : Int32)).toNatClampNeg))).toNatClampNeg p7.1)) fun I9 =>
    (f_X12_readNumber N R a0 (0 : Int32) (9 : Int32) I9).bind fun p10 =>
    sm_gd ((sm_kd (R a0 10)).1 = 13 ∧ ¬ (((7 : Int32) + (p2.2 (R a0 4) ((5 : Int32)).toNatClampNeg)) < 0 ∨ (sm_kd (R a0 10)).2 ≤ (((7 : Int32) + (p2.2 (R a0 4) ((5 : Int32)).toNatClampNeg))).toNatClampNeg)) <|
    sm_lt (sm_up p10.2 (R a0 10) (sm_up (p10.2 (R a0 10)) (((7 : Int32) + (p2.2 (R a0 4) ((5 : Int32)).toNatClampNeg))).toNatClampNeg p10.1)) fun I12 =>
    (f_X12_numberNow N R a0 (0 : Int32) (9999 : Int32) I12).bind fun p13 =>
    if (p13.2 a0 22) = 0 then (
      sm_gd ((sm_kd (R a0 4)).1 = 13 ∧ ¬ ((4 : Int32) < 0 ∨ (sm_kd (R a0 4)).2 ≤ ((4 : Int32)).toNatClampNeg)) <|
      if p13.1 < (p13.2 (R a0 4) ((4 : Int32)).toNatClampNeg) then (
        f_X12_sayPupil_85 N R a0 ((7 : Int32) + (p2.2 (R a0 4) ((5 : Int32)).toNatClampNeg)) p13.1 p13.2)
      else (
        (f_X12_wrong N R a0 (3 : Int32) p13.2).bind fun p17 =>
        f_X12_sayPupil_85 N R a0 ((7 : Int32) + (p2.2 (R a0 4) ((5 : Int32)).toNatClampNeg)) p13.1 p17.2))
    else (
      f_X12_sayPupil_85 N R a0 ((7 : Int32) + (p2.2 (R a0 4) ((5 : Int32)).toNatClampNeg)) p13.1 p13.2))
set_option maxHeartbeats 4000000 in
set_option maxRecDepth 100000 in
theorem w_X12_sayPupil_85 {l : Launch} (N : Nat) (R : Nat → Nat → Nat) : ∀ (a0 : Nat) (a2 : Int32) (a3 : Int32) (I : (Nat → Nat → Int32)) (y : (Unit × (Nat → Nat → Int32))), f_X12_sayPupil_85 N R a0 a2 a3 I = some y → sm_W l 3 mX12_sayPupil 85 [(0, .inr (.inl a0)), (2, .inl a2), (3, .inl a3)] [] (I, R) (.inl none) (y.2, R) := by
  intro a0 a2 a3 I y h
  unfold f_X12_sayPupil_85 at h
  refine sm_aload_n (q := 86) dX12_sayPupil_85 rfl rfl 0 rfl ?_
  obtain ⟨hc1, h⟩ := sm_gd_e h
  refine sm_getI (q := 89) dX12_sayPupil_86 rfl fk_X12_201 hc1 (by decide) (by decide) ?_
  rcases sm_if_e h with ⟨hb2, h⟩ | ⟨hb2, h⟩
  · refine sm_if_ne (tgt := 96) (q := 92) dX12_sayPupil_89 (by decide) rfl (fun hn => absurd hb2 hn) (fun _ => ?_)
    refine sm_aload_n (q := 93) dX12_sayPupil_92 rfl rfl 0 rfl ?_
    obtain ⟨p3, hc_p3, h⟩ := sm_bd_e h
    refine sm_callVv (q := 96) (As := []) (S := []) (e_X12_stepOn hc_p3) mv_X12_226 hc1 rfl (by decide) (Nat.le_of_ble_eq_true rfl) dX12_sayPupil_93 rfl ?_
    refine sm_aload_n (q := 97) dX12_sayPupil_96 rfl rfl 0 rfl ?_
    refine sm_getR (r := R a0 11) (q := 100) dX12_sayPupil_97 rfl fk_X12_60 hc1 (by decide) (by decide) rfl ?_
    refine sm_iload_n (q := 101) dX12_sayPupil_100 rfl rfl 1 rfl ?_
    refine sm_iload_n (q := 102) dX12_sayPupil_101 rfl rfl 2 rfl ?_
    obtain ⟨hc4, h⟩ := sm_gd_e h
    obtain ⟨I5, hI5, h⟩ := sm_lt_e h
    refine sm_iast (n := (sm_kd (R a0 11)).2) (q := 103) dX12_sayPupil_102 rfl (Prod.ext hc4.1 rfl) hc4.2 ?_
    refine sm_memI hI5 ?_
    refine sm_aload_n (q := 104) dX12_sayPupil_103 rfl rfl 0 rfl ?_
    refine sm_getR (r := R a0 4) (q := 107) dX12_sayPupil_104 rfl fk_X12_41 hc1 (by decide) (by decide) rfl ?_
    refine sm_iconst (v := 5) (q := 108) dX12_sayPupil_107 rfl (by decide) ?_
    refine sm_dup2 (q := 109) dX12_sayPupil_108 rfl rfl rfl ?_
    obtain ⟨hc6, h⟩ := sm_gd_e h
    refine sm_iald (n := (sm_kd (R a0 4)).2) (q := 110) dX12_sayPupil_109 rfl (Prod.ext hc6.1 rfl) hc6.2 ?_
    refine sm_iconst (v := 1) (q := 111) dX12_sayPupil_110 rfl (by decide) ?_
    refine sm_iadd (q := 112) dX12_sayPupil_111 rfl ?_
    obtain ⟨I7, hI7, h⟩ := sm_lt_e h
    refine sm_iast (n := (sm_kd (R a0 4)).2) (q := 113) dX12_sayPupil_112 rfl (Prod.ext hc6.1 rfl) hc6.2 ?_
    refine sm_memI hI7 ?_
    obtain rfl := Option.some.inj h
    exact sm_vret dX12_sayPupil_113 rfl
  · refine sm_if_ne (tgt := 96) (q := 92) dX12_sayPupil_89 (by decide) rfl (fun _ => ?_) (fun he => absurd he hb2)
    refine sm_aload_n (q := 97) dX12_sayPupil_96 rfl rfl 0 rfl ?_
    refine sm_getR (r := R a0 11) (q := 100) dX12_sayPupil_97 rfl fk_X12_60 hc1 (by decide) (by decide) rfl ?_
    refine sm_iload_n (q := 101) dX12_sayPupil_100 rfl rfl 1 rfl ?_
    refine sm_iload_n (q := 102) dX12_sayPupil_101 rfl rfl 2 rfl ?_
    obtain ⟨hc8, h⟩ := sm_gd_e h
    obtain ⟨I9, hI9, h⟩ := sm_lt_e h
    refine sm_iast (n := (sm_kd (R a0 11)).2) (q := 103) dX12_sayPupil_102 rfl (Prod.ext hc8.1 rfl) hc8.2 ?_
    refine sm_memI hI9 ?_
    refine sm_aload_n (q := 104) dX12_sayPupil_103 rfl rfl 0 rfl ?_
    refine sm_getR (r := R a0 4) (q := 107) dX12_sayPupil_104 rfl fk_X12_41 hc1 (by decide) (by decide) rfl ?_
    refine sm_iconst (v := 5) (q := 108) dX12_sayPupil_107 rfl (by decide) ?_
    refine sm_dup2 (q := 109) dX12_sayPupil_108 rfl rfl rfl ?_
    obtain ⟨hc10, h⟩ := sm_gd_e h
    refine sm_iald (n := (sm_kd (R a0 4)).2) (q := 110) dX12_sayPupil_109 rfl (Prod.ext hc10.1 rfl) hc10.2 ?_
    refine sm_iconst (v := 1) (q := 111) dX12_sayPupil_110 rfl (by decide) ?_
    refine sm_iadd (q := 112) dX12_sayPupil_111 rfl ?_
    obtain ⟨I11, hI11, h⟩ := sm_lt_e h
    refine sm_iast (n := (sm_kd (R a0 4)).2) (q := 113) dX12_sayPupil_112 rfl (Prod.ext hc10.1 rfl) hc10.2 ?_
    refine sm_memI hI11 ?_
    obtain rfl := Option.some.inj h
    exact sm_vret dX12_sayPupil_113 rfl
set_option maxHeartbeats 4000000 in
set_option maxRecDepth 100000 in
theorem w_X12_sayPupil {l : Launch} (N : Nat) (R : Nat → Nat → Nat) : ∀ (a0 : Nat) (a1 : Int32) (I : (Nat → Nat → Int32)) (y : (Unit × (Nat → Nat → Int32))), f_X12_sayPupil N R a0 a1 I = some y → sm_W l 3 mX12_sayPupil 0 [(0, .inr (.inl a0)), (1, .inl a1)] [] (I, R) (.inl none) (y.2, R) := by
  intro a0 a1 I y h
  unfold f_X12_sayPupil at h
  refine sm_aload_n (q := 1) dX12_sayPupil_0 rfl rfl 0 rfl ?_
  refine sm_iconst (v := 1) (q := 2) dX12_sayPupil_1 rfl (by decide) ?_
  refine sm_bipush (v := 7) (q := 4) dX12_sayPupil_2 rfl (by decide) ?_
  obtain ⟨hc1, h⟩ := sm_gd_e h
  obtain ⟨p2, hc_p2, h⟩ := sm_bd_e h
  refine sm_callVi (q := 7) (As := [.inl (1 : Int32), .inl (7 : Int32)]) (S := []) (e_X12_another hc_p2) mv_X12_269 hc1 rfl (by decide) (Nat.le_of_ble_eq_true rfl) dX12_sayPupil_4 rfl ?_
  rcases sm_if_e h with ⟨hb3, h⟩ | ⟨hb3, h⟩
  · refine sm_if_ne (tgt := 11) (q := 10) dX12_sayPupil_7 (by decide) rfl (fun hn => absurd hb3 hn) (fun _ => ?_)
    obtain rfl := Option.some.inj h
    exact sm_vret dX12_sayPupil_10 rfl
  · refine sm_if_ne (tgt := 11) (q := 10) dX12_sayPupil_7 (by decide) rfl (fun _ => ?_) (fun he => absurd he hb3)
    refine sm_bipush (v := 7) (q := 13) dX12_sayPupil_11 rfl (by decide) ?_
    refine sm_aload_n (q := 14) dX12_sayPupil_13 rfl rfl 0 rfl ?_
    refine sm_getR (r := R a0 4) (q := 17) dX12_sayPupil_14 rfl fk_X12_41 hc1 (by decide) (by decide) rfl ?_
    refine sm_iconst (v := 5) (q := 18) dX12_sayPupil_17 rfl (by decide) ?_
    obtain ⟨hc4, h⟩ := sm_gd_e h
    refine sm_iald (n := (sm_kd (R a0 4)).2) (q := 19) dX12_sayPupil_18 rfl (Prod.ext hc4.1 rfl) hc4.2 ?_
    refine sm_iadd (q := 20) dX12_sayPupil_19 rfl ?_
    refine sm_istore_n (L' := [(2, .inl ((7 : Int32) + (p2.2 (R a0 4) ((5 : Int32)).toNatClampNeg))), (0, .inr (.inl a0)), (1, .inl a1)]) (q := 21) dX12_sayPupil_20 rfl rfl (by decide) rfl ?_
    refine sm_aload_n (q := 22) dX12_sayPupil_21 rfl rfl 1 rfl ?_
    refine sm_getR (r := R a0 8) (q := 25) dX12_sayPupil_22 rfl fk_X12_52 hc1 (by decide) (by decide) rfl ?_
    refine sm_iload_n (q := 26) dX12_sayPupil_25 rfl rfl 0 rfl ?_
    refine sm_iload_n (q := 27) dX12_sayPupil_26 rfl rfl 2 rfl ?_
    obtain ⟨hc5, h⟩ := sm_gd_e h
    obtain ⟨I6, hI6, h⟩ := sm_lt_e h
    refine sm_iast (n := (sm_kd (R a0 8)).2) (q := 28) dX12_sayPupil_27 rfl (Prod.ext hc5.1 rfl) hc5.2 ?_
    refine sm_memI hI6 ?_
    refine sm_aload_n (q := 29) dX12_sayPupil_28 rfl rfl 1 rfl ?_
    refine sm_getR (r := R a0 9) (q := 32) dX12_sayPupil_29 rfl fk_X12_54 hc1 (by decide) (by decide) rfl ?_
    refine sm_iload_n (q := 33) dX12_sayPupil_32 rfl rfl 0 rfl ?_
    refine sm_aload_n (q := 34) dX12_sayPupil_33 rfl rfl 1 rfl ?_
    refine sm_iconst (v := 0) (q := 35) dX12_sayPupil_34 rfl (by decide) ?_
    refine sm_bipush (v := 99) (q := 37) dX12_sayPupil_35 rfl (by decide) ?_
    obtain ⟨p7, hc_p7, h⟩ := sm_bd_e h
    refine sm_callVi (q := 40) (As := [.inl (0 : Int32), .inl (99 : Int32)]) (S := [.inl ((7 : Int32) + (p2.2 (R a0 4) ((5 : Int32)).toNatClampNeg)), .inr (.inl (R a0 9))]) (e_X12_readNumber hc_p7) mv_X12_232 hc1 rfl (by decide) (Nat.le_of_ble_eq_true rfl) dX12_sayPupil_37 rfl ?_
    obtain ⟨hc8, h⟩ := sm_gd_e h
    obtain ⟨I9, hI9, h⟩ := sm_lt_e h
    refine sm_iast (n := (sm_kd (R a0 9)).2) (q := 41) dX12_sayPupil_40 rfl (Prod.ext hc8.1 rfl) hc8.2 ?_
    refine sm_memI hI9 ?_
    refine sm_aload_n (q := 42) dX12_sayPupil_41 rfl rfl 1 rfl ?_
    refine sm_getR (r := R a0 10) (q := 45) dX12_sayPupil_42 rfl fk_X12_57 hc1 (by decide) (by decide) rfl ?_
    refine sm_iload_n (q := 46) dX12_sayPupil_45 rfl rfl 0 rfl ?_
    refine sm_aload_n (q := 47) dX12_sayPupil_46 rfl rfl 1 rfl ?_
    refine sm_iconst (v := 0) (q := 48) dX12_sayPupil_47 rfl (by decide) ?_
    refine sm_bipush (v := 9) (q := 50) dX12_sayPupil_48 rfl (by decide) ?_
    obtain ⟨p10, hc_p10, h⟩ := sm_bd_e h
    refine sm_callVi (q := 53) (As := [.inl (0 : Int32), .inl (9 : Int32)]) (S := [.inl ((7 : Int32) + (p2.2 (R a0 4) ((5 : Int32)).toNatClampNeg)), .inr (.inl (R a0 10))]) (e_X12_readNumber hc_p10) mv_X12_232 hc1 rfl (by decide) (Nat.le_of_ble_eq_true rfl) dX12_sayPupil_50 rfl ?_
    obtain ⟨hc11, h⟩ := sm_gd_e h
    obtain ⟨I12, hI12, h⟩ := sm_lt_e h
    refine sm_iast (n := (sm_kd (R a0 10)).2) (q := 54) dX12_sayPupil_53 rfl (Prod.ext hc11.1 rfl) hc11.2 ?_
    refine sm_memI hI12 ?_
    refine sm_aload_n (q := 55) dX12_sayPupil_54 rfl rfl 1 rfl ?_
    refine sm_iconst (v := 0) (q := 56) dX12_sayPupil_55 rfl (by decide) ?_
    refine sm_sipush (v := 9999) (q := 59) dX12_sayPupil_56 rfl (by decide) ?_
    obtain ⟨p13, hc_p13, h⟩ := sm_bd_e h
    refine sm_callVi (q := 62) (As := [.inl (0 : Int32), .inl (9999 : Int32)]) (S := []) (e_X12_numberNow hc_p13) mv_X12_229 hc1 rfl (by decide) (Nat.le_of_ble_eq_true rfl) dX12_sayPupil_59 rfl ?_
    refine sm_istore_n (L' := [(3, .inl p13.1), (2, .inl ((7 : Int32) + (p2.2 (R a0 4) ((5 : Int32)).toNatClampNeg))), (0, .inr (.inl a0)), (1, .inl a1)]) (q := 63) dX12_sayPupil_62 rfl rfl (by decide) rfl ?_
    refine sm_aload_n (q := 64) dX12_sayPupil_63 rfl rfl 2 rfl ?_
    refine sm_getI (q := 67) dX12_sayPupil_64 rfl fk_X12_201 hc1 (by decide) (by decide) ?_
    rcases sm_if_e h with ⟨hb14, h⟩ | ⟨hb14, h⟩
    · refine sm_if_ne (tgt := 85) (q := 70) dX12_sayPupil_67 (by decide) rfl (fun hn => absurd hb14 hn) (fun _ => ?_)
      refine sm_iload_n (q := 71) dX12_sayPupil_70 rfl rfl 0 rfl ?_
      refine sm_aload_n (q := 72) dX12_sayPupil_71 rfl rfl 2 rfl ?_
      refine sm_getR (r := R a0 4) (q := 75) dX12_sayPupil_72 rfl fk_X12_41 hc1 (by decide) (by decide) rfl ?_
      refine sm_iconst (v := 4) (q := 76) dX12_sayPupil_75 rfl (by decide) ?_
      obtain ⟨hc15, h⟩ := sm_gd_e h
      refine sm_iald (n := (sm_kd (R a0 4)).2) (q := 77) dX12_sayPupil_76 rfl (Prod.ext hc15.1 rfl) hc15.2 ?_
      rcases sm_if_e h with ⟨hb16, h⟩ | ⟨hb16, h⟩
      · refine sm_icmp_lt (tgt := 85) (q := 80) dX12_sayPupil_77 (by decide) rfl (fun _ => ?_) (fun hn => absurd hb16 hn)
        refine sm_pick [2, 1, 0] rfl ?_
        exact w_X12_sayPupil_85 N R _ _ _ _ _ h
      · refine sm_icmp_lt (tgt := 85) (q := 80) dX12_sayPupil_77 (by decide) rfl (fun ht => absurd ht hb16) (fun _ => ?_)
        refine sm_aload_n (q := 81) dX12_sayPupil_80 rfl rfl 2 rfl ?_
        refine sm_iconst (v := 3) (q := 82) dX12_sayPupil_81 rfl (by decide) ?_
        obtain ⟨p17, hc_p17, h⟩ := sm_bd_e h
        refine sm_callVv (q := 85) (As := [.inl (3 : Int32)]) (S := []) (e_X12_wrong hc_p17) mv_X12_222 hc1 rfl (by decide) (Nat.le_of_ble_eq_true rfl) dX12_sayPupil_82 rfl ?_
        refine sm_pick [2, 1, 0] rfl ?_
        exact w_X12_sayPupil_85 N R _ _ _ _ _ h
    · refine sm_if_ne (tgt := 85) (q := 70) dX12_sayPupil_67 (by decide) rfl (fun _ => ?_) (fun he => absurd he hb14)
      refine sm_pick [2, 1, 0] rfl ?_
      exact w_X12_sayPupil_85 N R _ _ _ _ _ h
theorem e_X12_sayPupil {l : Launch} {N : Nat} {R : Nat → Nat → Nat} {a0 : Nat} {a1 : Int32} {I : (Nat → Nat → Int32)} {y : (Unit × (Nat → Nat → Int32))} (h : f_X12_sayPupil N R a0 a1 I = some y) : sm_E l 3 mX12_sayPupil [.inr (.inl a0), .inl a1] (I, R) (.inl none) (y.2, R) :=
  sm_meth (by decide) (Nat.le_of_ble_eq_true rfl) (w_X12_sayPupil N R a0 a1 I y h)
def f_X12_readLine_77 (N : Nat) (R : Nat → Nat → Nat) : Nat → Int32 → Int32 → (Nat → Nat → Int32) → Option (Int32 × (Nat → Nat → Int32)) := fun a0 a1 a4 I =>
  if a4 = (1 : Int32) then (
    sm_gd (sm_kd a0 = (12, 59)) <|
    (f_X12_readNumber N R a0 (1 : Int32) (4 : Int32) I).bind fun p3 =>
    sm_gd ((sm_kd (R a0 4)).1 = 13 ∧ ¬ ((6 : Int32) < 0 ∨ (sm_kd (R a0 4)).2 ≤ ((6 : Int32)).toNatClampNeg)) <|
    sm_lt (sm_up p3.2 (R a0 4) (sm_up (p3.2 (R a0 4)) ((6 : Int32)).toNatClampNeg p3.1)) fun I5 =>
    (f_X12_mark N R a0 (59 : Int32) I5).bind fun p6 =>
    some ((a1 ||| a4), p6.2))
  else (
    sm_gd (sm_kd a0 = (12, 59)) <|
    (g_X12_readExpression N R a0 (0 : Int32) I).bind fun p8 =>
    (f_X12_mark N R a0 (59 : Int32) p8.2).bind fun p9 =>
    some ((a1 ||| a4), p9.2))
def f_X12_readLine_61 (N : Nat) (R : Nat → Nat → Nat) : Nat → Int32 → Int32 → Int32 → Int32 → (Nat → Nat → Int32) → Option (Int32 × (Nat → Nat → Int32)) := fun a0 a1 a2 a3 a4 I =>
  if a4 ≤ 0 then (
    if a2 = (-1 : Int32) then (
      if a3 = (-1 : Int32) then (
        sm_gd (sm_kd a0 = (12, 59)) <|
        (f_X12_wrong N R a0 (1 : Int32) I).bind fun p5 =>
        (f_X12_mark N R a0 (59 : Int32) p5.2).bind fun p6 =>
        some ((a1 ||| a4), p6.2))
      else (
        sm_gd (sm_kd a0 = (12, 59)) <|
        (f_X12_sayPupil N R a0 a3 I).bind fun p8 =>
        (f_X12_mark N R a0 (59 : Int32) p8.2).bind fun p9 =>
        some ((a1 ||| a4), p9.2)))
    else (
      sm_gd (sm_kd a0 = (12, 59)) <|
      (f_X12_sayPiece N R a0 a2 I).bind fun p11 =>
      (f_X12_mark N R a0 (59 : Int32) p11.2).bind fun p12 =>
      some ((a1 ||| a4), p12.2)))
  else (
    sm_gd (sm_kd a0 = (12, 59)) <|
    if (I a0 22) = 0 then (
      (f_X12_stepOn N R a0 I).bind fun p15 =>
      f_X12_readLine_77 N R a0 a1 a4 p15.2)
    else (
      f_X12_readLine_77 N R a0 a1 a4 I))
def f_X12_readLine_47 (N : Nat) (R : Nat → Nat → Nat) : Nat → Int32 → Int32 → Int32 → Int32 → (Nat → Nat → Int32) → Option (Int32 × (Nat → Nat → Int32)) := fun a0 a1 a2 a3 b0 I =>
  if (b0 &&& a1) = 0 then (
    f_X12_readLine_61 N R a0 a1 a2 a3 b0 I)
  else (
    sm_gd (sm_kd a0 = (12, 59)) <|
    (f_X12_wrong N R a0 (5 : Int32) I).bind fun p3 =>
    f_X12_readLine_61 N R a0 a1 a2 a3 b0 p3.2)
def f_X12_readLine (N : Nat) (R : Nat → Nat → Nat) : Nat → Int32 → (Nat → Nat → Int32) → Option (Int32 × (Nat → Nat → Int32)) := fun a0 a1 I =>
  sm_gd (sm_kd a0 = (12, 59)) <|
  (f_X12_which N R a0 (R a0 0) I).bind fun p2 =>
  (f_X12_which N R a0 (R a0 1) p2.2).bind fun p3 =>
  (f_X12_is N R a0 (1000 + 5) p3.2).bind fun p4 =>
  if p4.1 = 0 then (
    (f_X12_is N R a0 (1000 + 6) p4.2).bind fun p6 =>
    if p6.1 = 0 then (
      f_X12_readLine_47 N R a0 a1 p2.1 p3.1 (0 : Int32) p6.2)
    else (
      f_X12_readLine_47 N R a0 a1 p2.1 p3.1 (2 : Int32) p6.2))
  else (
    f_X12_readLine_47 N R a0 a1 p2.1 p3.1 (1 : Int32) p4.2)
set_option maxHeartbeats 4000000 in
set_option maxRecDepth 100000 in
theorem w_X12_readLine_77 {l : Launch} (N : Nat) (R : Nat → Nat → Nat) : ∀ (a0 : Nat) (a1 : Int32) (a4 : Int32) (I : (Nat → Nat → Int32)) (y : (Int32 × (Nat → Nat → Int32))), f_X12_readLine_77 N R a0 a1 a4 I = some y → sm_W l 71 mX12_readLine 77 [(0, .inr (.inl a0)), (1, .inl a1), (4, .inl a4)] [] (I, R) (.inl (some (.inl y.1))) (y.2, R) := by
  intro a0 a1 a4 I y h
  unfold f_X12_readLine_77 at h
  refine sm_iload (q := 79) dX12_readLine_77 rfl 2 rfl ?_
  refine sm_iconst (v := 1) (q := 80) dX12_readLine_79 rfl (by decide) ?_
  rcases sm_if_e h with ⟨hb1, h⟩ | ⟨hb1, h⟩
  · refine sm_icmp_ne (tgt := 99) (q := 83) dX12_readLine_80 (by decide) rfl (fun hn => absurd hb1 hn) (fun _ => ?_)
    refine sm_aload_n (q := 84) dX12_readLine_83 rfl rfl 0 rfl ?_
    obtain ⟨hc2, h⟩ := sm_gd_e h
    refine sm_getR (r := R a0 4) (q := 87) dX12_readLine_84 rfl fk_X12_41 hc2 (by decide) (by decide) rfl ?_
    refine sm_bipush (v := 6) (q := 89) dX12_readLine_87 rfl (by decide) ?_
    refine sm_aload_n (q := 90) dX12_readLine_89 rfl rfl 0 rfl ?_
    refine sm_iconst (v := 1) (q := 91) dX12_readLine_90 rfl (by decide) ?_
    refine sm_iconst (v := 4) (q := 92) dX12_readLine_91 rfl (by decide) ?_
    obtain ⟨p3, hc_p3, h⟩ := sm_bd_e h
    refine sm_callVi (q := 95) (As := [.inl (1 : Int32), .inl (4 : Int32)]) (S := [.inl (6 : Int32), .inr (.inl (R a0 4))]) (e_X12_readNumber hc_p3) mv_X12_232 hc2 rfl (by decide) (Nat.le_of_ble_eq_true rfl) dX12_readLine_92 rfl ?_
    obtain ⟨hc4, h⟩ := sm_gd_e h
    obtain ⟨I5, hI5, h⟩ := sm_lt_e h
    refine sm_iast (n := (sm_kd (R a0 4)).2) (q := 96) dX12_readLine_95 rfl (Prod.ext hc4.1 rfl) hc4.2 ?_
    refine sm_memI hI5 ?_
    refine sm_goto (q := 138) dX12_readLine_96 (by decide) ?_
    refine sm_aload_n (q := 139) dX12_readLine_138 rfl rfl 0 rfl ?_
    refine sm_bipush (v := 59) (q := 141) dX12_readLine_139 rfl (by decide) ?_
    obtain ⟨p6, hc_p6, h⟩ := sm_bd_e h
    refine sm_callVv (q := 144) (As := [.inl (59 : Int32)]) (S := []) (e_X12_mark hc_p6) mv_X12_242 hc2 rfl (by decide) (Nat.le_of_ble_eq_true rfl) dX12_readLine_141 rfl ?_
    refine sm_iload_n (q := 145) dX12_readLine_144 rfl rfl 1 rfl ?_
    refine sm_iload (q := 147) dX12_readLine_145 rfl 2 rfl ?_
    refine sm_ior (q := 148) dX12_readLine_147 rfl ?_
    obtain rfl := Option.some.inj h
    exact sm_iret dX12_readLine_148 rfl
  · refine sm_icmp_ne (tgt := 99) (q := 83) dX12_readLine_80 (by decide) rfl (fun _ => ?_) (fun he => absurd he hb1)
    refine sm_aload_n (q := 100) dX12_readLine_99 rfl rfl 0 rfl ?_
    refine sm_iconst (v := 0) (q := 101) dX12_readLine_100 rfl (by decide) ?_
    obtain ⟨hc7, h⟩ := sm_gd_e h
    obtain ⟨p8, hc_p8, h⟩ := sm_bd_e h
    refine sm_callVv (q := 104) (As := [.inl (0 : Int32)]) (S := []) (e_X12_readExpression hc_p8) mv_X12_245 hc7 rfl (by decide) (Nat.le_of_ble_eq_true rfl) dX12_readLine_101 rfl ?_
    refine sm_goto (q := 138) dX12_readLine_104 (by decide) ?_
    refine sm_aload_n (q := 139) dX12_readLine_138 rfl rfl 0 rfl ?_
    refine sm_bipush (v := 59) (q := 141) dX12_readLine_139 rfl (by decide) ?_
    obtain ⟨p9, hc_p9, h⟩ := sm_bd_e h
    refine sm_callVv (q := 144) (As := [.inl (59 : Int32)]) (S := []) (e_X12_mark hc_p9) mv_X12_242 hc7 rfl (by decide) (Nat.le_of_ble_eq_true rfl) dX12_readLine_141 rfl ?_
    refine sm_iload_n (q := 145) dX12_readLine_144 rfl rfl 1 rfl ?_
    refine sm_iload (q := 147) dX12_readLine_145 rfl 2 rfl ?_
    refine sm_ior (q := 148) dX12_readLine_147 rfl ?_
    obtain rfl := Option.some.inj h
    exact sm_iret dX12_readLine_148 rfl
set_option maxHeartbeats 4000000 in
set_option maxRecDepth 100000 in
theorem w_X12_readLine_61 {l : Launch} (N : Nat) (R : Nat → Nat → Nat) : ∀ (a0 : Nat) (a1 : Int32) (a2 : Int32) (a3 : Int32) (a4 : Int32) (I : (Nat → Nat → Int32)) (y : (Int32 × (Nat → Nat → Int32))), f_X12_readLine_61 N R a0 a1 a2 a3 a4 I = some y → sm_W l 71 mX12_readLine 61 [(0, .inr (.inl a0)), (1, .inl a1), (2, .inl a2), (3, .inl a3), (4, .inl a4)] [] (I, R) (.inl (some (.inl y.1))) (y.2, R) := by
  intro a0 a1 a2 a3 a4 I y h
  unfold f_X12_readLine_61 at h
  refine sm_iload (q := 63) dX12_readLine_61 rfl 4 rfl ?_
  rcases sm_if_e h with ⟨hb1, h⟩ | ⟨hb1, h⟩
  · refine sm_if_le (tgt := 107) (q := 66) dX12_readLine_63 (by decide) rfl (fun _ => ?_) (fun hn => absurd hb1 hn)
    refine sm_iload_n (q := 108) dX12_readLine_107 rfl rfl 2 rfl ?_
    refine sm_iconst (v := -1) (q := 109) dX12_readLine_108 rfl (by decide) ?_
    rcases sm_if_e h with ⟨hb2, h⟩ | ⟨hb2, h⟩
    · refine sm_icmp_eq (tgt := 120) (q := 112) dX12_readLine_109 (by decide) rfl (fun _ => ?_) (fun hn => absurd hb2 hn)
      refine sm_iload_n (q := 121) dX12_readLine_120 rfl rfl 3 rfl ?_
      refine sm_iconst (v := -1) (q := 122) dX12_readLine_121 rfl (by decide) ?_
      rcases sm_if_e h with ⟨hb3, h⟩ | ⟨hb3, h⟩
      · refine sm_icmp_eq (tgt := 133) (q := 125) dX12_readLine_122 (by decide) rfl (fun _ => ?_) (fun hn => absurd hb3 hn)
        refine sm_aload_n (q := 134) dX12_readLine_133 rfl rfl 0 rfl ?_
        refine sm_iconst (v := 1) (q := 135) dX12_readLine_134 rfl (by decide) ?_
        obtain ⟨hc4, h⟩ := sm_gd_e h
        obtain ⟨p5, hc_p5, h⟩ := sm_bd_e h
        refine sm_callVv (q := 138) (As := [.inl (1 : Int32)]) (S := []) (e_X12_wrong hc_p5) mv_X12_222 hc4 rfl (by decide) (Nat.le_of_ble_eq_true rfl) dX12_readLine_135 rfl ?_
        refine sm_aload_n (q := 139) dX12_readLine_138 rfl rfl 0 rfl ?_
        refine sm_bipush (v := 59) (q := 141) dX12_readLine_139 rfl (by decide) ?_
        obtain ⟨p6, hc_p6, h⟩ := sm_bd_e h
        refine sm_callVv (q := 144) (As := [.inl (59 : Int32)]) (S := []) (e_X12_mark hc_p6) mv_X12_242 hc4 rfl (by decide) (Nat.le_of_ble_eq_true rfl) dX12_readLine_141 rfl ?_
        refine sm_iload_n (q := 145) dX12_readLine_144 rfl rfl 1 rfl ?_
        refine sm_iload (q := 147) dX12_readLine_145 rfl 4 rfl ?_
        refine sm_ior (q := 148) dX12_readLine_147 rfl ?_
        obtain rfl := Option.some.inj h
        exact sm_iret dX12_readLine_148 rfl
      · refine sm_icmp_eq (tgt := 133) (q := 125) dX12_readLine_122 (by decide) rfl (fun ht => absurd ht hb3) (fun _ => ?_)
        refine sm_aload_n (q := 126) dX12_readLine_125 rfl rfl 0 rfl ?_
        refine sm_iload_n (q := 127) dX12_readLine_126 rfl rfl 3 rfl ?_
        obtain ⟨hc7, h⟩ := sm_gd_e h
        obtain ⟨p8, hc_p8, h⟩ := sm_bd_e h
        refine sm_callVv (q := 130) (As := [.inl a3]) (S := []) (e_X12_sayPupil hc_p8) mv_X12_280 hc7 rfl (by decide) (Nat.le_of_ble_eq_true rfl) dX12_readLine_127 rfl ?_
        refine sm_goto (q := 138) dX12_readLine_130 (by decide) ?_
        refine sm_aload_n (q := 139) dX12_readLine_138 rfl rfl 0 rfl ?_
        refine sm_bipush (v := 59) (q := 141) dX12_readLine_139 rfl (by decide) ?_
        obtain ⟨p9, hc_p9, h⟩ := sm_bd_e h
        refine sm_callVv (q := 144) (As := [.inl (59 : Int32)]) (S := []) (e_X12_mark hc_p9) mv_X12_242 hc7 rfl (by decide) (Nat.le_of_ble_eq_true rfl) dX12_readLine_141 rfl ?_
        refine sm_iload_n (q := 145) dX12_readLine_144 rfl rfl 1 rfl ?_
        refine sm_iload (q := 147) dX12_readLine_145 rfl 4 rfl ?_
        refine sm_ior (q := 148) dX12_readLine_147 rfl ?_
        obtain rfl := Option.some.inj h
        exact sm_iret dX12_readLine_148 rfl
    · refine sm_icmp_eq (tgt := 120) (q := 112) dX12_readLine_109 (by decide) rfl (fun ht => absurd ht hb2) (fun _ => ?_)
      refine sm_aload_n (q := 113) dX12_readLine_112 rfl rfl 0 rfl ?_
      refine sm_iload_n (q := 114) dX12_readLine_113 rfl rfl 2 rfl ?_
      obtain ⟨hc10, h⟩ := sm_gd_e h
      obtain ⟨p11, hc_p11, h⟩ := sm_bd_e h
      refine sm_callVv (q := 117) (As := [.inl a2]) (S := []) (e_X12_sayPiece hc_p11) mv_X12_277 hc10 rfl (by decide) (Nat.le_of_ble_eq_true rfl) dX12_readLine_114 rfl ?_
      refine sm_goto (q := 138) dX12_readLine_117 (by decide) ?_
      refine sm_aload_n (q := 139) dX12_readLine_138 rfl rfl 0 rfl ?_
      refine sm_bipush (v := 59) (q := 141) dX12_readLine_139 rfl (by decide) ?_
      obtain ⟨p12, hc_p12, h⟩ := sm_bd_e h
      refine sm_callVv (q := 144) (As := [.inl (59 : Int32)]) (S := []) (e_X12_mark hc_p12) mv_X12_242 hc10 rfl (by decide) (Nat.le_of_ble_eq_true rfl) dX12_readLine_141 rfl ?_
      refine sm_iload_n (q := 145) dX12_readLine_144 rfl rfl 1 rfl ?_
      refine sm_iload (q := 147) dX12_readLine_145 rfl 4 rfl ?_
      refine sm_ior (q := 148) dX12_readLine_147 rfl ?_
      obtain rfl := Option.some.inj h
      exact sm_iret dX12_readLine_148 rfl
  · refine sm_if_le (tgt := 107) (q := 66) dX12_readLine_63 (by decide) rfl (fun ht => absurd ht hb1) (fun _ => ?_)
    refine sm_aload_n (q := 67) dX12_readLine_66 rfl rfl 0 rfl ?_
    obtain ⟨hc13, h⟩ := sm_gd_e h
    refine sm_getI (q := 70) dX12_readLine_67 rfl fk_X12_201 hc13 (by decide) (by decide) ?_
    rcases sm_if_e h with ⟨hb14, h⟩ | ⟨hb14, h⟩
    · refine sm_if_ne (tgt := 77) (q := 73) dX12_readLine_70 (by decide) rfl (fun hn => absurd hb14 hn) (fun _ => ?_)
      refine sm_aload_n (q := 74) dX12_readLine_73 rfl rfl 0 rfl ?_
      obtain ⟨p15, hc_p15, h⟩ := sm_bd_e h
      refine sm_callVv (q := 77) (As := []) (S := []) (e_X12_stepOn hc_p15) mv_X12_226 hc13 rfl (by decide) (Nat.le_of_ble_eq_true rfl) dX12_readLine_74 rfl ?_
      refine sm_pick [0, 1, 4] rfl ?_
      exact w_X12_readLine_77 N R _ _ _ _ _ h
    · refine sm_if_ne (tgt := 77) (q := 73) dX12_readLine_70 (by decide) rfl (fun _ => ?_) (fun he => absurd he hb14)
      refine sm_pick [0, 1, 4] rfl ?_
      exact w_X12_readLine_77 N R _ _ _ _ _ h
set_option maxHeartbeats 4000000 in
set_option maxRecDepth 100000 in
theorem w_X12_readLine_47 {l : Launch} (N : Nat) (R : Nat → Nat → Nat) : ∀ (a0 : Nat) (a1 : Int32) (a2 : Int32) (a3 : Int32) (b0 : Int32) (I : (Nat → Nat → Int32)) (y : (Int32 × (Nat → Nat → Int32))), f_X12_readLine_47 N R a0 a1 a2 a3 b0 I = some y → sm_W l 71 mX12_readLine 47 [(0, .inr (.inl a0)), (1, .inl a1), (2, .inl a2), (3, .inl a3)] [.inl b0] (I, R) (.inl (some (.inl y.1))) (y.2, R) := by
  intro a0 a1 a2 a3 b0 I y h
  unfold f_X12_readLine_47 at h
  refine sm_istore (L' := [(4, .inl b0), (0, .inr (.inl a0)), (1, .inl a1), (2, .inl a2), (3, .inl a3)]) (q := 49) dX12_readLine_47 rfl (by decide) rfl ?_
  refine sm_iload (q := 51) dX12_readLine_49 rfl 0 rfl ?_
  refine sm_iload_n (q := 52) dX12_readLine_51 rfl rfl 2 rfl ?_
  refine sm_iand (q := 53) dX12_readLine_52 rfl ?_
  rcases sm_if_e h with ⟨hb1, h⟩ | ⟨hb1, h⟩
  · refine sm_if_eq (tgt := 61) (q := 56) dX12_readLine_53 (by decide) rfl (fun _ => ?_) (fun hn => absurd hb1 hn)
    refine sm_pick [1, 2, 3, 4, 0] rfl ?_
    exact w_X12_readLine_61 N R _ _ _ _ _ _ _ h
  · refine sm_if_eq (tgt := 61) (q := 56) dX12_readLine_53 (by decide) rfl (fun ht => absurd ht hb1) (fun _ => ?_)
    refine sm_aload_n (q := 57) dX12_readLine_56 rfl rfl 1 rfl ?_
    refine sm_iconst (v := 5) (q := 58) dX12_readLine_57 rfl (by decide) ?_
    obtain ⟨hc2, h⟩ := sm_gd_e h
    obtain ⟨p3, hc_p3, h⟩ := sm_bd_e h
    refine sm_callVv (q := 61) (As := [.inl (5 : Int32)]) (S := []) (e_X12_wrong hc_p3) mv_X12_222 hc2 rfl (by decide) (Nat.le_of_ble_eq_true rfl) dX12_readLine_58 rfl ?_
    refine sm_pick [1, 2, 3, 4, 0] rfl ?_
    exact w_X12_readLine_61 N R _ _ _ _ _ _ _ h
set_option maxHeartbeats 4000000 in
set_option maxRecDepth 100000 in
theorem w_X12_readLine {l : Launch} (N : Nat) (R : Nat → Nat → Nat) : ∀ (a0 : Nat) (a1 : Int32) (I : (Nat → Nat → Int32)) (y : (Int32 × (Nat → Nat → Int32))), f_X12_readLine N R a0 a1 I = some y → sm_W l 71 mX12_readLine 0 [(0, .inr (.inl a0)), (1, .inl a1)] [] (I, R) (.inl (some (.inl y.1))) (y.2, R) := by
  intro a0 a1 I y h
  unfold f_X12_readLine at h
  refine sm_aload_n (q := 1) dX12_readLine_0 rfl rfl 0 rfl ?_
  refine sm_aload_n (q := 2) dX12_readLine_1 rfl rfl 0 rfl ?_
  obtain ⟨hc1, h⟩ := sm_gd_e h
  refine sm_getR (r := R a0 0) (q := 5) dX12_readLine_2 rfl fk_X12_15 hc1 (by decide) (by decide) rfl ?_
  obtain ⟨p2, hc_p2, h⟩ := sm_bd_e h
  refine sm_callVi (q := 8) (As := [.inr (.inl (R a0 0))]) (S := []) (e_X12_which hc_p2) mv_X12_238 hc1 rfl (by decide) (Nat.le_of_ble_eq_true rfl) dX12_readLine_5 rfl ?_
  refine sm_istore_n (L' := [(2, .inl p2.1), (0, .inr (.inl a0)), (1, .inl a1)]) (q := 9) dX12_readLine_8 rfl rfl (by decide) rfl ?_
  refine sm_aload_n (q := 10) dX12_readLine_9 rfl rfl 1 rfl ?_
  refine sm_aload_n (q := 11) dX12_readLine_10 rfl rfl 1 rfl ?_
  refine sm_getR (r := R a0 1) (q := 14) dX12_readLine_11 rfl fk_X12_23 hc1 (by decide) (by decide) rfl ?_
  obtain ⟨p3, hc_p3, h⟩ := sm_bd_e h
  refine sm_callVi (q := 17) (As := [.inr (.inl (R a0 1))]) (S := []) (e_X12_which hc_p3) mv_X12_238 hc1 rfl (by decide) (Nat.le_of_ble_eq_true rfl) dX12_readLine_14 rfl ?_
  refine sm_istore_n (L' := [(3, .inl p3.1), (2, .inl p2.1), (0, .inr (.inl a0)), (1, .inl a1)]) (q := 18) dX12_readLine_17 rfl rfl (by decide) rfl ?_
  refine sm_aload_n (q := 19) dX12_readLine_18 rfl rfl 2 rfl ?_
  refine sm_ldcSw (tx := "pianos") (q := 22) dX12_readLine_19 rfl (List.mem_of_getElem? (i := 36) rfl) ?_
  obtain ⟨p4, hc_p4, h⟩ := sm_bd_e h
  refine sm_callVi (q := 25) (As := [.inr (.inl (1000 + 5))]) (S := []) (e_X12_is hc_p4) mv_X12_215 hc1 rfl (by decide) (Nat.le_of_ble_eq_true rfl) dX12_readLine_22 rfl ?_
  rcases sm_if_e h with ⟨hb5, h⟩ | ⟨hb5, h⟩
  · refine sm_if_eq (tgt := 32) (q := 28) dX12_readLine_25 (by decide) rfl (fun _ => ?_) (fun hn => absurd hb5 hn)
    refine sm_aload_n (q := 33) dX12_readLine_32 rfl rfl 2 rfl ?_
    refine sm_ldcSw (tx := "learns") (q := 36) dX12_readLine_33 rfl (List.mem_of_getElem? (i := 37) rfl) ?_
    obtain ⟨p6, hc_p6, h⟩ := sm_bd_e h
    refine sm_callVi (q := 39) (As := [.inr (.inl (1000 + 6))]) (S := []) (e_X12_is hc_p6) mv_X12_215 hc1 rfl (by decide) (Nat.le_of_ble_eq_true rfl) dX12_readLine_36 rfl ?_
    rcases sm_if_e h with ⟨hb7, h⟩ | ⟨hb7, h⟩
    · refine sm_if_eq (tgt := 46) (q := 42) dX12_readLine_39 (by decide) rfl (fun _ => ?_) (fun hn => absurd hb7 hn)
      refine sm_iconst (v := 0) (q := 47) dX12_readLine_46 rfl (by decide) ?_
      refine sm_pick [2, 3, 1, 0] rfl ?_
      exact w_X12_readLine_47 N R _ _ _ _ _ _ _ h
    · refine sm_if_eq (tgt := 46) (q := 42) dX12_readLine_39 (by decide) rfl (fun ht => absurd ht hb7) (fun _ => ?_)
      refine sm_iconst (v := 2) (q := 43) dX12_readLine_42 rfl (by decide) ?_
      refine sm_goto (q := 47) dX12_readLine_43 (by decide) ?_
      refine sm_pick [2, 3, 1, 0] rfl ?_
      exact w_X12_readLine_47 N R _ _ _ _ _ _ _ h
  · refine sm_if_eq (tgt := 32) (q := 28) dX12_readLine_25 (by decide) rfl (fun ht => absurd ht hb5) (fun _ => ?_)
    refine sm_iconst (v := 1) (q := 29) dX12_readLine_28 rfl (by decide) ?_
    refine sm_goto (q := 47) dX12_readLine_29 (by decide) ?_
    refine sm_pick [2, 3, 1, 0] rfl ?_
    exact w_X12_readLine_47 N R _ _ _ _ _ _ _ h
theorem e_X12_readLine {l : Launch} {N : Nat} {R : Nat → Nat → Nat} {a0 : Nat} {a1 : Int32} {I : (Nat → Nat → Int32)} {y : (Int32 × (Nat → Nat → Int32))} (h : f_X12_readLine N R a0 a1 I = some y) : sm_E l 71 mX12_readLine [.inr (.inl a0), .inl a1] (I, R) (.inl (some (.inl y.1))) (y.2, R) :=
  sm_meth (by decide) (Nat.le_of_ble_eq_true rfl) (w_X12_readLine N R a0 a1 I y h)
def f_X12_takeHalf_2 (N : Nat) (R : Nat → Nat → Nat) : Nat → Nat → Int32 → (Nat → Nat → Int32) → Option (Unit × (Nat → Nat → Int32))
  | 0, _, _, _ => none
  | n + 1, a0, a1, I =>
    sm_gd ((sm_kd a0).1 = 13) <|
    if ((Int32.ofNat (sm_kd a0).2) / (2 : Int32)) ≤ a1 then (
      some ((), I))
    else (
      sm_gd ((sm_kd a0).1 = 13 ∧ ¬ ((((Int32.ofNat (sm_kd a0).2) / (2 : Int32)) + a1) < 0 ∨ (sm_kd a0).2 ≤ ((((Int32.ofNat (sm_kd a0).2) / (2 : Int32)) + a1)).toNatClampNeg)) <|
      sm_gd ((sm_kd a0).1 = 13 ∧ ¬ (a1 < 0 ∨ (sm_kd a0).2 ≤ (a1).toNatClampNeg)) <|
      sm_lt (sm_up I a0 (sm_up (I a0) (a1).toNatClampNeg (I a0 ((((Int32.ofNat (sm_kd a0).2) / (2 : Int32)) + a1)).toNatClampNeg))) fun I5 =>
      f_X12_takeHalf_2 N R n a0 (a1 + 1) I5)
def f_X12_takeHalf (N : Nat) (R : Nat → Nat → Nat) : Nat → (Nat → Nat → Int32) → Option (Unit × (Nat → Nat → Int32)) := fun a0 I =>
  f_X12_takeHalf_2 N R N a0 (0 : Int32) I
set_option maxHeartbeats 4000000 in
set_option maxRecDepth 100000 in
theorem w_X12_takeHalf_2 {l : Launch} (N : Nat) (R : Nat → Nat → Nat) : ∀ (n : Nat) (a0 : Nat) (a1 : Int32) (I : (Nat → Nat → Int32)) (y : (Unit × (Nat → Nat → Int32))), f_X12_takeHalf_2 N R n a0 a1 I = some y → sm_W l 0 mX12_takeHalf 2 [(0, .inr (.inl a0)), (1, .inl a1)] [] (I, R) (.inl none) (y.2, R) := by
  intro n
  induction n with
  | zero => intro a0 a1 I y h; cases h
  | succ n ih =>
    intro a0 a1 I y h
    rw [f_X12_takeHalf_2] at h
    refine sm_iload_n (q := 3) dX12_takeHalf_2 rfl rfl 1 rfl ?_
    refine sm_aload_n (q := 4) dX12_takeHalf_3 rfl rfl 0 rfl ?_
    obtain ⟨hc1, h⟩ := sm_gd_e h
    refine sm_alenI (t := 0) (v := (Int32.ofNat (sm_kd a0).2)) (q := 5) dX12_takeHalf_4 rfl (Prod.ext hc1 rfl) (by decide) rfl ?_
    refine sm_iconst (v := 2) (q := 6) dX12_takeHalf_5 rfl (by decide) ?_
    refine sm_idiv (q := 7) dX12_takeHalf_6 rfl (by decide) ?_
    rcases sm_if_e h with ⟨hb2, h⟩ | ⟨hb2, h⟩
    · refine sm_icmp_ge (tgt := 27) (q := 10) dX12_takeHalf_7 (by decide) rfl (fun _ => ?_) (fun hn => absurd hb2 hn)
      obtain rfl := Option.some.inj h
      exact sm_vret dX12_takeHalf_27 rfl
    · refine sm_icmp_ge (tgt := 27) (q := 10) dX12_takeHalf_7 (by decide) rfl (fun ht => absurd ht hb2) (fun _ => ?_)
      refine sm_aload_n (q := 11) dX12_takeHalf_10 rfl rfl 0 rfl ?_
      refine sm_iload_n (q := 12) dX12_takeHalf_11 rfl rfl 1 rfl ?_
      refine sm_aload_n (q := 13) dX12_takeHalf_12 rfl rfl 0 rfl ?_
      refine sm_aload_n (q := 14) dX12_takeHalf_13 rfl rfl 0 rfl ?_
      refine sm_alenI (t := 0) (v := (Int32.ofNat (sm_kd a0).2)) (q := 15) dX12_takeHalf_14 rfl (Prod.ext hc1 rfl) (by decide) rfl ?_
      refine sm_iconst (v := 2) (q := 16) dX12_takeHalf_15 rfl (by decide) ?_
      refine sm_idiv (q := 17) dX12_takeHalf_16 rfl (by decide) ?_
      refine sm_iload_n (q := 18) dX12_takeHalf_17 rfl rfl 1 rfl ?_
      refine sm_iadd (q := 19) dX12_takeHalf_18 rfl ?_
      obtain ⟨hc3, h⟩ := sm_gd_e h
      refine sm_iald (n := (sm_kd a0).2) (q := 20) dX12_takeHalf_19 rfl (Prod.ext hc3.1 rfl) hc3.2 ?_
      obtain ⟨hc4, h⟩ := sm_gd_e h
      obtain ⟨I5, hI5, h⟩ := sm_lt_e h
      refine sm_iast (n := (sm_kd a0).2) (q := 21) dX12_takeHalf_20 rfl (Prod.ext hc4.1 rfl) hc4.2 ?_
      refine sm_memI hI5 ?_
      refine sm_iinc (v := (a1 + 1)) (L' := [(1, .inl (a1 + 1)), (0, .inr (.inl a0))]) (q := 24) dX12_takeHalf_21 rfl 1 rfl rfl (by decide) rfl ?_
      refine sm_goto (q := 2) dX12_takeHalf_24 (by decide) ?_
      refine sm_pick [1, 0] rfl ?_
      exact ih _ _ _ _ h
set_option maxHeartbeats 4000000 in
set_option maxRecDepth 100000 in
theorem w_X12_takeHalf {l : Launch} (N : Nat) (R : Nat → Nat → Nat) : ∀ (a0 : Nat) (I : (Nat → Nat → Int32)) (y : (Unit × (Nat → Nat → Int32))), f_X12_takeHalf N R a0 I = some y → sm_W l 0 mX12_takeHalf 0 [(0, .inr (.inl a0))] [] (I, R) (.inl none) (y.2, R) := by
  intro a0 I y h
  unfold f_X12_takeHalf at h
  refine sm_iconst (v := 0) (q := 1) dX12_takeHalf_0 rfl (by decide) ?_
  refine sm_istore_n (L' := [(1, .inl (0 : Int32)), (0, .inr (.inl a0))]) (q := 2) dX12_takeHalf_1 rfl rfl (by decide) rfl ?_
  refine sm_pick [1, 0] rfl ?_
  exact w_X12_takeHalf_2 N R N _ _ _ _ h
theorem e_X12_takeHalf {l : Launch} {N : Nat} {R : Nat → Nat → Nat} {a0 : Nat} {I : (Nat → Nat → Int32)} {y : (Unit × (Nat → Nat → Int32))} (h : f_X12_takeHalf N R a0 I = some y) : sm_E l 0 mX12_takeHalf [.inr (.inl a0)] (I, R) (.inl none) (y.2, R) :=
  sm_meth (by decide) (Nat.le_of_ble_eq_true rfl) (w_X12_takeHalf N R a0 I y h)
def f_X12_takeOver_141 (N : Nat) (R : Nat → Nat → Nat) (k_80 : Nat → Int32 → (Nat → Nat → Int32) → Option (Unit × (Nat → Nat → Int32))) : Nat → Int32 → Int32 → Nat → Int32 → Int32 → (Nat → Nat → Int32) → Option (Unit × (Nat → Nat → Int32)) := fun a0 a1 a2 b0 b1 b2 I =>
  sm_gd ((sm_kd b0).1 = 13 ∧ ¬ (b1 < 0 ∨ (sm_kd b0).2 ≤ (b1).toNatClampNeg)) <|
  sm_lt (sm_up I b0 (sm_up (I b0) (b1).toNatClampNeg b2)) fun I2 =>
  sm_gd (sm_kd a0 = (12, 59)) <|
  if a2 = 0 then (
    sm_gd ((sm_kd (R a0 27)).1 = 13 ∧ ¬ (a1 < 0 ∨ (sm_kd (R a0 27)).2 ≤ (a1).toNatClampNeg)) <|
    sm_lt (sm_up I2 (R a0 27) (sm_up (I2 (R a0 27)) (a1).toNatClampNeg (0 : Int32))) fun I6 =>
    sm_gd ((sm_kd (R a0 28)).1 = 13 ∧ ¬ (a1 < 0 ∨ (sm_kd (R a0 28)).2 ≤ (a1).toNatClampNeg)) <|
    sm_lt (sm_up I6 (R a0 28) (sm_up (I6 (R a0 28)) (a1).toNatClampNeg (0 : Int32))) fun I8 =>
    sm_gd ((sm_kd (R a0 29)).1 = 13 ∧ ¬ (a1 < 0 ∨ (sm_kd (R a0 29)).2 ≤ (a1).toNatClampNeg)) <|
    sm_lt (sm_up I8 (R a0 29) (sm_up (I8 (R a0 29)) (a1).toNatClampNeg (0 : Int32))) fun I10 =>
    k_80 a0 (a1 + 1) I10)
  else (
    sm_gd ((sm_kd (R a0 11)).1 = 13 ∧ ¬ (a1 < 0 ∨ (sm_kd (R a0 11)).2 ≤ (a1).toNatClampNeg)) <|
    sm_gd ((sm_kd (R a0 27)).1 = 13 ∧ ¬ (a1 < 0 ∨ (sm_kd (R a0 27)).2 ≤ (a1).toNatClampNeg)) <|
    sm_lt (sm_up I2 (R a0 27) (sm_up (I2 (R a0 27)) (a1).toNatClampNeg (I2 (R a0 11) (a1).toNatClampNeg))) fun I13 =>
    sm_gd ((sm_kd (R a0 28)).1 = 13 ∧ ¬ (a1 < 0 ∨ (sm_kd (R a0 28)).2 ≤ (a1).toNatClampNeg)) <|
    sm_lt (sm_up I13 (R a0 28) (sm_up (I13 (R a0 28)) (a1).toNatClampNeg (0 : Int32))) fun I15 =>
    sm_gd ((sm_kd (R a0 29)).1 = 13 ∧ ¬ (a1 < 0 ∨ (sm_kd (R a0 29)).2 ≤ (a1).toNatClampNeg)) <|
    sm_lt (sm_up I15 (R a0 29) (sm_up (I15 (R a0 29)) (a1).toNatClampNeg (0 : Int32))) fun I17 =>
    k_80 a0 (a1 + 1) I17)
def f_X12_takeOver_121 (N : Nat) (R : Nat → Nat → Nat) (k_80 : Nat → Int32 → (Nat → Nat → Int32) → Option (Unit × (Nat → Nat → Int32))) : Nat → Int32 → Int32 → Nat → Int32 → Int32 → (Nat → Nat → Int32) → Option (Unit × (Nat → Nat → Int32)) := fun a0 a1 a2 b0 b1 b2 I =>
  sm_gd ((sm_kd b0).1 = 13 ∧ ¬ (b1 < 0 ∨ (sm_kd b0).2 ≤ (b1).toNatClampNeg)) <|
  sm_lt (sm_up I b0 (sm_up (I b0) (b1).toNatClampNeg b2)) fun I2 =>
  sm_gd (sm_kd a0 = (12, 59)) <|
  if a2 = 0 then (
    f_X12_takeOver_141 N R k_80 a0 a1 a2 (R a0 26) a1 (0 : Int32) I2)
  else (
    sm_gd ((sm_kd (R a0 10)).1 = 13 ∧ ¬ (a1 < 0 ∨ (sm_kd (R a0 10)).2 ≤ (a1).toNatClampNeg)) <|
    f_X12_takeOver_141 N R k_80 a0 a1 a2 (R a0 26) a1 (I2 (R a0 10) (a1).toNatClampNeg) I2)
def f_X12_takeOver_101 (N : Nat) (R : Nat → Nat → Nat) (k_80 : Nat → Int32 → (Nat → Nat → Int32) → Option (Unit × (Nat → Nat → Int32))) : Nat → Int32 → Int32 → (Nat → Nat → Int32) → Option (Unit × (Nat → Nat → Int32)) := fun a0 a1 b0 I =>
  sm_gd (sm_kd a0 = (12, 59)) <|
  if b0 = 0 then (
    f_X12_takeOver_121 N R k_80 a0 a1 b0 (R a0 25) a1 (0 : Int32) I)
  else (
    sm_gd ((sm_kd (R a0 9)).1 = 13 ∧ ¬ (a1 < 0 ∨ (sm_kd (R a0 9)).2 ≤ (a1).toNatClampNeg)) <|
    f_X12_takeOver_121 N R k_80 a0 a1 b0 (R a0 25) a1 (I (R a0 9) (a1).toNatClampNeg) I)
def f_X12_takeOver_80 (N : Nat) (R : Nat → Nat → Nat) : Nat → Nat → Int32 → (Nat → Nat → Int32) → Option (Unit × (Nat → Nat → Int32))
  | 0, _, _, _ => none
  | n + 1, a0, a1, I =>
    if (7 : Int32) ≤ a1 then (
      sm_gd (sm_kd a0 = (12, 59)) <|
      sm_lt (sm_up I a0 (sm_up (I a0) 33 (0 : Int32))) fun I3 =>
      sm_lt (sm_up I3 a0 (sm_up (I3 a0) 34 (0 : Int32))) fun I4 =>
      sm_lt (sm_up I4 a0 (sm_up (I4 a0) 50 (0 : Int32))) fun I5 =>
      some ((), I5))
    else (
      sm_gd (sm_kd a0 = (12, 59)) <|
      sm_gd ((sm_kd (R a0 4)).1 = 13 ∧ ¬ ((1 : Int32) < 0 ∨ (sm_kd (R a0 4)).2 ≤ ((1 : Int32)).toNatClampNeg)) <|
      if (I (R a0 4) ((1 : Int32)).toNatClampNeg) ≤ a1 then (
        f_X12_takeOver_101 N R (fun z0 z1 J => f_X12_takeOver_80 N R n z0 z1 J) a0 a1 (0 : Int32) I)
      else (
        f_X12_takeOver_101 N R (fun z0 z1 J => f_X12_takeOver_80 N R n z0 z1 J) a0 a1 (1 : Int32) I))
def f_X12_takeOver (N : Nat) (R : Nat → Nat → Nat) : Nat → (Nat → Nat → Int32) → Option (Unit × (Nat → Nat → Int32)) := fun a0 I =>
  sm_gd (sm_kd a0 = (12, 59)) <|
  (f_X12_takeHalf N R (R a0 4) I).bind fun p2 =>
  (f_X12_takeHalf N R (R a0 5) p2.2).bind fun p3 =>
  (f_X12_takeHalf N R (R a0 6) p3.2).bind fun p4 =>
  (f_X12_takeHalf N R (R a0 7) p4.2).bind fun p5 =>
  (f_X12_takeHalf N R (R a0 8) p5.2).bind fun p6 =>
  (f_X12_takeHalf N R (R a0 9) p6.2).bind fun p7 =>
  (f_X12_takeHalf N R (R a0 10) p7.2).bind fun p8 =>
  (f_X12_takeHalf N R (R a0 11) p8.2).bind fun p9 =>
  (f_X12_takeHalf N R (R a0 12) p9.2).bind fun p10 =>
  sm_lt (sm_up p10.2 a0 (sm_up (p10.2 a0) 31 (0 : Int32))) fun I11 =>
  sm_gd ((sm_kd (R a0 4)).1 = 13 ∧ ¬ ((2 : Int32) < 0 ∨ (sm_kd (R a0 4)).2 ≤ ((2 : Int32)).toNatClampNeg)) <|
  sm_lt (sm_up I11 a0 (sm_up (I11 a0) 32 (I11 (R a0 4) ((2 : Int32)).toNatClampNeg))) fun I13 =>
  f_X12_takeOver_80 N R N a0 (0 : Int32) I13
set_option maxHeartbeats 4000000 in
set_option maxRecDepth 100000 in
theorem w_X12_takeOver_141 {l : Launch} (N : Nat) (R : Nat → Nat → Nat) (k_80 : Nat → Int32 → (Nat → Nat → Int32) → Option (Unit × (Nat → Nat → Int32))) (hk_80 : ∀ (a0 : Nat) (a1 : Int32) (I : (Nat → Nat → Int32)) (y : (Unit × (Nat → Nat → Int32))), k_80 a0 a1 I = some y → sm_W l 1 mX12_takeOver 80 [(0, .inr (.inl a0)), (1, .inl a1)] [] (I, R) (.inl none) (y.2, R)) : ∀ (a0 : Nat) (a1 : Int32) (a2 : Int32) (b0 : Nat) (b1 : Int32) (b2 : Int32) (I : (Nat → Nat → Int32)) (y : (Unit × (Nat → Nat → Int32))), f_X12_takeOver_141 N R k_80 a0 a1 a2 b0 b1 b2 I = some y → sm_W l 1 mX12_takeOver 141 [(0, .inr (.inl a0)), (1, .inl a1), (2, .inl a2)] [.inl b2, .inl b1, .inr (.inl b0)] (I, R) (.inl none) (y.2, R) := by
  intro a0 a1 a2 b0 b1 b2 I y h
  unfold f_X12_takeOver_141 at h
  obtain ⟨hc1, h⟩ := sm_gd_e h
  obtain ⟨I2, hI2, h⟩ := sm_lt_e h
  refine sm_iast (n := (sm_kd b0).2) (q := 142) dX12_takeOver_141 rfl (Prod.ext hc1.1 rfl) hc1.2 ?_
  refine sm_memI hI2 ?_
  refine sm_aload_n (q := 143) dX12_takeOver_142 rfl rfl 0 rfl ?_
  obtain ⟨hc3, h⟩ := sm_gd_e h
  refine sm_getR (r := R a0 27) (q := 146) dX12_takeOver_143 rfl fk_X12_82 hc3 (by decide) (by decide) rfl ?_
  refine sm_iload_n (q := 147) dX12_takeOver_146 rfl rfl 1 rfl ?_
  refine sm_iload_n (q := 148) dX12_takeOver_147 rfl rfl 2 rfl ?_
  rcases sm_if_e h with ⟨hb4, h⟩ | ⟨hb4, h⟩
  · refine sm_if_eq (tgt := 160) (q := 151) dX12_takeOver_148 (by decide) rfl (fun _ => ?_) (fun hn => absurd hb4 hn)
    refine sm_iconst (v := 0) (q := 161) dX12_takeOver_160 rfl (by decide) ?_
    obtain ⟨hc5, h⟩ := sm_gd_e h
    obtain ⟨I6, hI6, h⟩ := sm_lt_e h
    refine sm_iast (n := (sm_kd (R a0 27)).2) (q := 162) dX12_takeOver_161 rfl (Prod.ext hc5.1 rfl) hc5.2 ?_
    refine sm_memI hI6 ?_
    refine sm_aload_n (q := 163) dX12_takeOver_162 rfl rfl 0 rfl ?_
    refine sm_getR (r := R a0 28) (q := 166) dX12_takeOver_163 rfl fk_X12_85 hc3 (by decide) (by decide) rfl ?_
    refine sm_iload_n (q := 167) dX12_takeOver_166 rfl rfl 1 rfl ?_
    refine sm_iconst (v := 0) (q := 168) dX12_takeOver_167 rfl (by decide) ?_
    obtain ⟨hc7, h⟩ := sm_gd_e h
    obtain ⟨I8, hI8, h⟩ := sm_lt_e h
    refine sm_iast (n := (sm_kd (R a0 28)).2) (q := 169) dX12_takeOver_168 rfl (Prod.ext hc7.1 rfl) hc7.2 ?_
    refine sm_memI hI8 ?_
    refine sm_aload_n (q := 170) dX12_takeOver_169 rfl rfl 0 rfl ?_
    refine sm_getR (r := R a0 29) (q := 173) dX12_takeOver_170 rfl fk_X12_87 hc3 (by decide) (by decide) rfl ?_
    refine sm_iload_n (q := 174) dX12_takeOver_173 rfl rfl 1 rfl ?_
    refine sm_iconst (v := 0) (q := 175) dX12_takeOver_174 rfl (by decide) ?_
    obtain ⟨hc9, h⟩ := sm_gd_e h
    obtain ⟨I10, hI10, h⟩ := sm_lt_e h
    refine sm_iast (n := (sm_kd (R a0 29)).2) (q := 176) dX12_takeOver_175 rfl (Prod.ext hc9.1 rfl) hc9.2 ?_
    refine sm_memI hI10 ?_
    refine sm_iinc (v := (a1 + 1)) (L' := [(1, .inl (a1 + 1)), (0, .inr (.inl a0)), (2, .inl a2)]) (q := 179) dX12_takeOver_176 rfl 1 rfl rfl (by decide) rfl ?_
    refine sm_goto (q := 80) dX12_takeOver_179 (by decide) ?_
    refine sm_pick [1, 0] rfl ?_
    exact hk_80 _ _ _ _ h
  · refine sm_if_eq (tgt := 160) (q := 151) dX12_takeOver_148 (by decide) rfl (fun ht => absurd ht hb4) (fun _ => ?_)
    refine sm_aload_n (q := 152) dX12_takeOver_151 rfl rfl 0 rfl ?_
    refine sm_getR (r := R a0 11) (q := 155) dX12_takeOver_152 rfl fk_X12_60 hc3 (by decide) (by decide) rfl ?_
    refine sm_iload_n (q := 156) dX12_takeOver_155 rfl rfl 1 rfl ?_
    obtain ⟨hc11, h⟩ := sm_gd_e h
    refine sm_iald (n := (sm_kd (R a0 11)).2) (q := 157) dX12_takeOver_156 rfl (Prod.ext hc11.1 rfl) hc11.2 ?_
    refine sm_goto (q := 161) dX12_takeOver_157 (by decide) ?_
    obtain ⟨hc12, h⟩ := sm_gd_e h
    obtain ⟨I13, hI13, h⟩ := sm_lt_e h
    refine sm_iast (n := (sm_kd (R a0 27)).2) (q := 162) dX12_takeOver_161 rfl (Prod.ext hc12.1 rfl) hc12.2 ?_
    refine sm_memI hI13 ?_
    refine sm_aload_n (q := 163) dX12_takeOver_162 rfl rfl 0 rfl ?_
    refine sm_getR (r := R a0 28) (q := 166) dX12_takeOver_163 rfl fk_X12_85 hc3 (by decide) (by decide) rfl ?_
    refine sm_iload_n (q := 167) dX12_takeOver_166 rfl rfl 1 rfl ?_
    refine sm_iconst (v := 0) (q := 168) dX12_takeOver_167 rfl (by decide) ?_
    obtain ⟨hc14, h⟩ := sm_gd_e h
    obtain ⟨I15, hI15, h⟩ := sm_lt_e h
    refine sm_iast (n := (sm_kd (R a0 28)).2) (q := 169) dX12_takeOver_168 rfl (Prod.ext hc14.1 rfl) hc14.2 ?_
    refine sm_memI hI15 ?_
    refine sm_aload_n (q := 170) dX12_takeOver_169 rfl rfl 0 rfl ?_
    refine sm_getR (r := R a0 29) (q := 173) dX12_takeOver_170 rfl fk_X12_87 hc3 (by decide) (by decide) rfl ?_
    refine sm_iload_n (q := 174) dX12_takeOver_173 rfl rfl 1 rfl ?_
    refine sm_iconst (v := 0) (q := 175) dX12_takeOver_174 rfl (by decide) ?_
    obtain ⟨hc16, h⟩ := sm_gd_e h
    obtain ⟨I17, hI17, h⟩ := sm_lt_e h
    refine sm_iast (n := (sm_kd (R a0 29)).2) (q := 176) dX12_takeOver_175 rfl (Prod.ext hc16.1 rfl) hc16.2 ?_
    refine sm_memI hI17 ?_
    refine sm_iinc (v := (a1 + 1)) (L' := [(1, .inl (a1 + 1)), (0, .inr (.inl a0)), (2, .inl a2)]) (q := 179) dX12_takeOver_176 rfl 1 rfl rfl (by decide) rfl ?_
    refine sm_goto (q := 80) dX12_takeOver_179 (by decide) ?_
    refine sm_pick [1, 0] rfl ?_
    exact hk_80 _ _ _ _ h
set_option maxHeartbeats 4000000 in
set_option maxRecDepth 100000 in
theorem w_X12_takeOver_121 {l : Launch} (N : Nat) (R : Nat → Nat → Nat) (k_80 : Nat → Int32 → (Nat → Nat → Int32) → Option (Unit × (Nat → Nat → Int32))) (hk_80 : ∀ (a0 : Nat) (a1 : Int32) (I : (Nat → Nat → Int32)) (y : (Unit × (Nat → Nat → Int32))), k_80 a0 a1 I = some y → sm_W l 1 mX12_takeOver 80 [(0, .inr (.inl a0)), (1, .inl a1)] [] (I, R) (.inl none) (y.2, R)) : ∀ (a0 : Nat) (a1 : Int32) (a2 : Int32) (b0 : Nat) (b1 : Int32) (b2 : Int32) (I : (Nat → Nat → Int32)) (y : (Unit × (Nat → Nat → Int32))), f_X12_takeOver_121 N R k_80 a0 a1 a2 b0 b1 b2 I = some y → sm_W l 1 mX12_takeOver 121 [(0, .inr (.inl a0)), (1, .inl a1), (2, .inl a2)] [.inl b2, .inl b1, .inr (.inl b0)] (I, R) (.inl none) (y.2, R) := by
  intro a0 a1 a2 b0 b1 b2 I y h
  unfold f_X12_takeOver_121 at h
  obtain ⟨hc1, h⟩ := sm_gd_e h
  obtain ⟨I2, hI2, h⟩ := sm_lt_e h
  refine sm_iast (n := (sm_kd b0).2) (q := 122) dX12_takeOver_121 rfl (Prod.ext hc1.1 rfl) hc1.2 ?_
  refine sm_memI hI2 ?_
  refine sm_aload_n (q := 123) dX12_takeOver_122 rfl rfl 0 rfl ?_
  obtain ⟨hc3, h⟩ := sm_gd_e h
  refine sm_getR (r := R a0 26) (q := 126) dX12_takeOver_123 rfl fk_X12_79 hc3 (by decide) (by decide) rfl ?_
  refine sm_iload_n (q := 127) dX12_takeOver_126 rfl rfl 1 rfl ?_
  refine sm_iload_n (q := 128) dX12_takeOver_127 rfl rfl 2 rfl ?_
  rcases sm_if_e h with ⟨hb4, h⟩ | ⟨hb4, h⟩
  · refine sm_if_eq (tgt := 140) (q := 131) dX12_takeOver_128 (by decide) rfl (fun _ => ?_) (fun hn => absurd hb4 hn)
    refine sm_iconst (v := 0) (q := 141) dX12_takeOver_140 rfl (by decide) ?_
    refine sm_pick [0, 1, 2] rfl ?_
    exact w_X12_takeOver_141 N R k_80 hk_80 _ _ _ _ _ _ _ _ h
  · refine sm_if_eq (tgt := 140) (q := 131) dX12_takeOver_128 (by decide) rfl (fun ht => absurd ht hb4) (fun _ => ?_)
    refine sm_aload_n (q := 132) dX12_takeOver_131 rfl rfl 0 rfl ?_
    refine sm_getR (r := R a0 10) (q := 135) dX12_takeOver_132 rfl fk_X12_57 hc3 (by decide) (by decide) rfl ?_
    refine sm_iload_n (q := 136) dX12_takeOver_135 rfl rfl 1 rfl ?_
    obtain ⟨hc5, h⟩ := sm_gd_e h
    refine sm_iald (n := (sm_kd (R a0 10)).2) (q := 137) dX12_takeOver_136 rfl (Prod.ext hc5.1 rfl) hc5.2 ?_
    refine sm_goto (q := 141) dX12_takeOver_137 (by decide) ?_
    refine sm_pick [0, 1, 2] rfl ?_
    exact w_X12_takeOver_141 N R k_80 hk_80 _ _ _ _ _ _ _ _ h
set_option maxHeartbeats 4000000 in
set_option maxRecDepth 100000 in
theorem w_X12_takeOver_101 {l : Launch} (N : Nat) (R : Nat → Nat → Nat) (k_80 : Nat → Int32 → (Nat → Nat → Int32) → Option (Unit × (Nat → Nat → Int32))) (hk_80 : ∀ (a0 : Nat) (a1 : Int32) (I : (Nat → Nat → Int32)) (y : (Unit × (Nat → Nat → Int32))), k_80 a0 a1 I = some y → sm_W l 1 mX12_takeOver 80 [(0, .inr (.inl a0)), (1, .inl a1)] [] (I, R) (.inl none) (y.2, R)) : ∀ (a0 : Nat) (a1 : Int32) (b0 : Int32) (I : (Nat → Nat → Int32)) (y : (Unit × (Nat → Nat → Int32))), f_X12_takeOver_101 N R k_80 a0 a1 b0 I = some y → sm_W l 1 mX12_takeOver 101 [(0, .inr (.inl a0)), (1, .inl a1)] [.inl b0] (I, R) (.inl none) (y.2, R) := by
  intro a0 a1 b0 I y h
  unfold f_X12_takeOver_101 at h
  refine sm_istore_n (L' := [(2, .inl b0), (0, .inr (.inl a0)), (1, .inl a1)]) (q := 102) dX12_takeOver_101 rfl rfl (by decide) rfl ?_
  refine sm_aload_n (q := 103) dX12_takeOver_102 rfl rfl 1 rfl ?_
  obtain ⟨hc1, h⟩ := sm_gd_e h
  refine sm_getR (r := R a0 25) (q := 106) dX12_takeOver_103 rfl fk_X12_76 hc1 (by decide) (by decide) rfl ?_
  refine sm_iload_n (q := 107) dX12_takeOver_106 rfl rfl 2 rfl ?_
  refine sm_iload_n (q := 108) dX12_takeOver_107 rfl rfl 0 rfl ?_
  rcases sm_if_e h with ⟨hb2, h⟩ | ⟨hb2, h⟩
  · refine sm_if_eq (tgt := 120) (q := 111) dX12_takeOver_108 (by decide) rfl (fun _ => ?_) (fun hn => absurd hb2 hn)
    refine sm_iconst (v := 0) (q := 121) dX12_takeOver_120 rfl (by decide) ?_
    refine sm_pick [1, 2, 0] rfl ?_
    exact w_X12_takeOver_121 N R k_80 hk_80 _ _ _ _ _ _ _ _ h
  · refine sm_if_eq (tgt := 120) (q := 111) dX12_takeOver_108 (by decide) rfl (fun ht => absurd ht hb2) (fun _ => ?_)
    refine sm_aload_n (q := 112) dX12_takeOver_111 rfl rfl 1 rfl ?_
    refine sm_getR (r := R a0 9) (q := 115) dX12_takeOver_112 rfl fk_X12_54 hc1 (by decide) (by decide) rfl ?_
    refine sm_iload_n (q := 116) dX12_takeOver_115 rfl rfl 2 rfl ?_
    obtain ⟨hc3, h⟩ := sm_gd_e h
    refine sm_iald (n := (sm_kd (R a0 9)).2) (q := 117) dX12_takeOver_116 rfl (Prod.ext hc3.1 rfl) hc3.2 ?_
    refine sm_goto (q := 121) dX12_takeOver_117 (by decide) ?_
    refine sm_pick [1, 2, 0] rfl ?_
    exact w_X12_takeOver_121 N R k_80 hk_80 _ _ _ _ _ _ _ _ h
set_option maxHeartbeats 4000000 in
set_option maxRecDepth 100000 in
theorem w_X12_takeOver_80 {l : Launch} (N : Nat) (R : Nat → Nat → Nat) : ∀ (n : Nat) (a0 : Nat) (a1 : Int32) (I : (Nat → Nat → Int32)) (y : (Unit × (Nat → Nat → Int32))), f_X12_takeOver_80 N R n a0 a1 I = some y → sm_W l 1 mX12_takeOver 80 [(0, .inr (.inl a0)), (1, .inl a1)] [] (I, R) (.inl none) (y.2, R) := by
  intro n
  induction n with
  | zero => intro a0 a1 I y h; cases h
  | succ n ih =>
    intro a0 a1 I y h
    rw [f_X12_takeOver_80] at h
    refine sm_iload_n (q := 81) dX12_takeOver_80 rfl rfl 1 rfl ?_
    refine sm_bipush (v := 7) (q := 83) dX12_takeOver_81 rfl (by decide) ?_
    rcases sm_if_e h with ⟨hb1, h⟩ | ⟨hb1, h⟩
    · refine sm_icmp_ge (tgt := 182) (q := 86) dX12_takeOver_83 (by decide) rfl (fun _ => ?_) (fun hn => absurd hb1 hn)
      refine sm_aload_n (q := 183) dX12_takeOver_182 rfl rfl 0 rfl ?_
      refine sm_iconst (v := 0) (q := 184) dX12_takeOver_183 rfl (by decide) ?_
      obtain ⟨hc2, h⟩ := sm_gd_e h
      obtain ⟨I3, hI3, h⟩ := sm_lt_e h
      refine sm_putI (q := 187) dX12_takeOver_184 rfl fk_X12_299 hc2 (by decide) (by decide) ?_
      refine sm_memI hI3 ?_
      refine sm_aload_n (q := 188) dX12_takeOver_187 rfl rfl 0 rfl ?_
      refine sm_iconst (v := 0) (q := 189) dX12_takeOver_188 rfl (by decide) ?_
      obtain ⟨I4, hI4, h⟩ := sm_lt_e h
      refine sm_putI (q := 192) dX12_takeOver_189 rfl fk_X12_302 hc2 (by decide) (by decide) ?_
      refine sm_memI hI4 ?_
      refine sm_aload_n (q := 193) dX12_takeOver_192 rfl rfl 0 rfl ?_
      refine sm_iconst (v := 0) (q := 194) dX12_takeOver_193 rfl (by decide) ?_
      obtain ⟨I5, hI5, h⟩ := sm_lt_e h
      refine sm_putZ (q := 197) dX12_takeOver_194 rfl fk_X12_305 hc2 (by decide) (by decide) (by decide) ?_
      refine sm_memI hI5 ?_
      obtain rfl := Option.some.inj h
      exact sm_vret dX12_takeOver_197 rfl
    · refine sm_icmp_ge (tgt := 182) (q := 86) dX12_takeOver_83 (by decide) rfl (fun ht => absurd ht hb1) (fun _ => ?_)
      refine sm_iload_n (q := 87) dX12_takeOver_86 rfl rfl 1 rfl ?_
      refine sm_aload_n (q := 88) dX12_takeOver_87 rfl rfl 0 rfl ?_
      obtain ⟨hc6, h⟩ := sm_gd_e h
      refine sm_getR (r := R a0 4) (q := 91) dX12_takeOver_88 rfl fk_X12_41 hc6 (by decide) (by decide) rfl ?_
      refine sm_iconst (v := 1) (q := 92) dX12_takeOver_91 rfl (by decide) ?_
      obtain ⟨hc7, h⟩ := sm_gd_e h
      refine sm_iald (n := (sm_kd (R a0 4)).2) (q := 93) dX12_takeOver_92 rfl (Prod.ext hc7.1 rfl) hc7.2 ?_
      rcases sm_if_e h with ⟨hb8, h⟩ | ⟨hb8, h⟩
      · refine sm_icmp_ge (tgt := 100) (q := 96) dX12_takeOver_93 (by decide) rfl (fun _ => ?_) (fun hn => absurd hb8 hn)
        refine sm_iconst (v := 0) (q := 101) dX12_takeOver_100 rfl (by decide) ?_
        refine sm_pick [0, 1] rfl ?_
        exact w_X12_takeOver_101 N R (fun z0 z1 J => f_X12_takeOver_80 N R n z0 z1 J) (fun z0 z1 J y h => ih z0 z1 J y h) _ _ _ _ _ h
      · refine sm_icmp_ge (tgt := 100) (q := 96) dX12_takeOver_93 (by decide) rfl (fun ht => absurd ht hb8) (fun _ => ?_)
        refine sm_iconst (v := 1) (q := 97) dX12_takeOver_96 rfl (by decide) ?_
        refine sm_goto (q := 101) dX12_takeOver_97 (by decide) ?_
        refine sm_pick [0, 1] rfl ?_
        exact w_X12_takeOver_101 N R (fun z0 z1 J => f_X12_takeOver_80 N R n z0 z1 J) (fun z0 z1 J y h => ih z0 z1 J y h) _ _ _ _ _ h
set_option maxHeartbeats 4000000 in
set_option maxRecDepth 100000 in
theorem w_X12_takeOver {l : Launch} (N : Nat) (R : Nat → Nat → Nat) : ∀ (a0 : Nat) (I : (Nat → Nat → Int32)) (y : (Unit × (Nat → Nat → Int32))), f_X12_takeOver N R a0 I = some y → sm_W l 1 mX12_takeOver 0 [(0, .inr (.inl a0))] [] (I, R) (.inl none) (y.2, R) := by
  intro a0 I y h
  unfold f_X12_takeOver at h
  refine sm_aload_n (q := 1) dX12_takeOver_0 rfl rfl 0 rfl ?_
  obtain ⟨hc1, h⟩ := sm_gd_e h
  refine sm_getR (r := R a0 4) (q := 4) dX12_takeOver_1 rfl fk_X12_41 hc1 (by decide) (by decide) rfl ?_
  obtain ⟨p2, hc_p2, h⟩ := sm_bd_e h
  refine sm_callSv (q := 7) (As := [.inr (.inl (R a0 4))]) (S := []) (e_X12_takeHalf hc_p2) ms_X12_292 rfl (by decide) (Nat.le_of_ble_eq_true rfl) dX12_takeOver_4 rfl ?_
  refine sm_aload_n (q := 8) dX12_takeOver_7 rfl rfl 0 rfl ?_
  refine sm_getR (r := R a0 5) (q := 11) dX12_takeOver_8 rfl fk_X12_45 hc1 (by decide) (by decide) rfl ?_
  obtain ⟨p3, hc_p3, h⟩ := sm_bd_e h
  refine sm_callSv (q := 14) (As := [.inr (.inl (R a0 5))]) (S := []) (e_X12_takeHalf hc_p3) ms_X12_292 rfl (by decide) (Nat.le_of_ble_eq_true rfl) dX12_takeOver_11 rfl ?_
  refine sm_aload_n (q := 15) dX12_takeOver_14 rfl rfl 0 rfl ?_
  refine sm_getR (r := R a0 6) (q := 18) dX12_takeOver_15 rfl fk_X12_47 hc1 (by decide) (by decide) rfl ?_
  obtain ⟨p4, hc_p4, h⟩ := sm_bd_e h
  refine sm_callSv (q := 21) (As := [.inr (.inl (R a0 6))]) (S := []) (e_X12_takeHalf hc_p4) ms_X12_292 rfl (by decide) (Nat.le_of_ble_eq_true rfl) dX12_takeOver_18 rfl ?_
  refine sm_aload_n (q := 22) dX12_takeOver_21 rfl rfl 0 rfl ?_
  refine sm_getR (r := R a0 7) (q := 25) dX12_takeOver_22 rfl fk_X12_50 hc1 (by decide) (by decide) rfl ?_
  obtain ⟨p5, hc_p5, h⟩ := sm_bd_e h
  refine sm_callSv (q := 28) (As := [.inr (.inl (R a0 7))]) (S := []) (e_X12_takeHalf hc_p5) ms_X12_292 rfl (by decide) (Nat.le_of_ble_eq_true rfl) dX12_takeOver_25 rfl ?_
  refine sm_aload_n (q := 29) dX12_takeOver_28 rfl rfl 0 rfl ?_
  refine sm_getR (r := R a0 8) (q := 32) dX12_takeOver_29 rfl fk_X12_52 hc1 (by decide) (by decide) rfl ?_
  obtain ⟨p6, hc_p6, h⟩ := sm_bd_e h
  refine sm_callSv (q := 35) (As := [.inr (.inl (R a0 8))]) (S := []) (e_X12_takeHalf hc_p6) ms_X12_292 rfl (by decide) (Nat.le_of_ble_eq_true rfl) dX12_takeOver_32 rfl ?_
  refine sm_aload_n (q := 36) dX12_takeOver_35 rfl rfl 0 rfl ?_
  refine sm_getR (r := R a0 9) (q := 39) dX12_takeOver_36 rfl fk_X12_54 hc1 (by decide) (by decide) rfl ?_
  obtain ⟨p7, hc_p7, h⟩ := sm_bd_e h
  refine sm_callSv (q := 42) (As := [.inr (.inl (R a0 9))]) (S := []) (e_X12_takeHalf hc_p7) ms_X12_292 rfl (by decide) (Nat.le_of_ble_eq_true rfl) dX12_takeOver_39 rfl ?_
  refine sm_aload_n (q := 43) dX12_takeOver_42 rfl rfl 0 rfl ?_
  refine sm_getR (r := R a0 10) (q := 46) dX12_takeOver_43 rfl fk_X12_57 hc1 (by decide) (by decide) rfl ?_
  obtain ⟨p8, hc_p8, h⟩ := sm_bd_e h
  refine sm_callSv (q := 49) (As := [.inr (.inl (R a0 10))]) (S := []) (e_X12_takeHalf hc_p8) ms_X12_292 rfl (by decide) (Nat.le_of_ble_eq_true rfl) dX12_takeOver_46 rfl ?_
  refine sm_aload_n (q := 50) dX12_takeOver_49 rfl rfl 0 rfl ?_
  refine sm_getR (r := R a0 11) (q := 53) dX12_takeOver_50 rfl fk_X12_60 hc1 (by decide) (by decide) rfl ?_
  obtain ⟨p9, hc_p9, h⟩ := sm_bd_e h
  refine sm_callSv (q := 56) (As := [.inr (.inl (R a0 11))]) (S := []) (e_X12_takeHalf hc_p9) ms_X12_292 rfl (by decide) (Nat.le_of_ble_eq_true rfl) dX12_takeOver_53 rfl ?_
  refine sm_aload_n (q := 57) dX12_takeOver_56 rfl rfl 0 rfl ?_
  refine sm_getR (r := R a0 12) (q := 60) dX12_takeOver_57 rfl fk_X12_63 hc1 (by decide) (by decide) rfl ?_
  obtain ⟨p10, hc_p10, h⟩ := sm_bd_e h
  refine sm_callSv (q := 63) (As := [.inr (.inl (R a0 12))]) (S := []) (e_X12_takeHalf hc_p10) ms_X12_292 rfl (by decide) (Nat.le_of_ble_eq_true rfl) dX12_takeOver_60 rfl ?_
  refine sm_aload_n (q := 64) dX12_takeOver_63 rfl rfl 0 rfl ?_
  refine sm_iconst (v := 0) (q := 65) dX12_takeOver_64 rfl (by decide) ?_
  obtain ⟨I11, hI11, h⟩ := sm_lt_e h
  refine sm_putI (q := 68) dX12_takeOver_65 rfl fk_X12_296 hc1 (by decide) (by decide) ?_
  refine sm_memI hI11 ?_
  refine sm_aload_n (q := 69) dX12_takeOver_68 rfl rfl 0 rfl ?_
  refine sm_aload_n (q := 70) dX12_takeOver_69 rfl rfl 0 rfl ?_
  refine sm_getR (r := R a0 4) (q := 73) dX12_takeOver_70 rfl fk_X12_41 hc1 (by decide) (by decide) rfl ?_
  refine sm_iconst (v := 2) (q := 74) dX12_takeOver_73 rfl (by decide) ?_
  obtain ⟨hc12, h⟩ := sm_gd_e h
  refine sm_iald (n := (sm_kd (R a0 4)).2) (q := 75) dX12_takeOver_74 rfl (Prod.ext hc12.1 rfl) hc12.2 ?_
  obtain ⟨I13, hI13, h⟩ := sm_lt_e h
  refine sm_putI (q := 78) dX12_takeOver_75 rfl fk_X12_149 hc1 (by decide) (by decide) ?_
  refine sm_memI hI13 ?_
  refine sm_iconst (v := 0) (q := 79) dX12_takeOver_78 rfl (by decide) ?_
  refine sm_istore_n (L' := [(1, .inl (0 : Int32)), (0, .inr (.inl a0))]) (q := 80) dX12_takeOver_79 rfl rfl (by decide) rfl ?_
  refine sm_pick [1, 0] rfl ?_
  exact w_X12_takeOver_80 N R N _ _ _ _ h
theorem e_X12_takeOver {l : Launch} {N : Nat} {R : Nat → Nat → Nat} {a0 : Nat} {I : (Nat → Nat → Int32)} {y : (Unit × (Nat → Nat → Int32))} (h : f_X12_takeOver N R a0 I = some y) : sm_E l 1 mX12_takeOver [.inr (.inl a0)] (I, R) (.inl none) (y.2, R) :=
  sm_meth (by decide) (Nat.le_of_ble_eq_true rfl) (w_X12_takeOver N R a0 I y h)
