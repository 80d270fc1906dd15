def f_X5_advance_226 (N : Nat) (R : Nat → Nat → Nat) : Nat → (Nat → Nat → Int32) → Option (Unit × (Nat → Nat → Int32)) := fun a0 I =>
  sm_gd (sm_kd a0 = (5, 11)) <|
  if (I a0 5) ≤ (I a0 4) then (
    if (I a0 4) < (I a0 1) then (
      sm_lt (sm_up I a0 (sm_up (I a0) 3 (3 : Int32))) fun I4 =>
      sm_gd ((sm_kd (R a0 0)).1 = 14 ∧ ¬ ((I4 a0 4) < 0 ∨ (sm_kd (R a0 0)).2 ≤ ((I4 a0 4)).toNatClampNeg)) <|
      sm_lt (sm_up I4 a0 (sm_up (I4 a0) 7 (I4 (R a0 0) ((I4 a0 4)).toNatClampNeg))) fun I6 =>
      sm_lt (sm_up I6 a0 (sm_up (I6 a0) 5 ((I6 a0 5) + (1 : Int32)))) fun I7 =>
      some ((), I7))
    else (
      sm_lt (sm_up I a0 (sm_up (I a0) 3 (0 : Int32))) fun I8 =>
      some ((), I8)))
  else (
    sm_lt (sm_up I a0 (sm_up (I a0) 3 (1 : Int32))) fun I9 =>
    some ((), I9))
def f_X5_advance_150 (N : Nat) (R : Nat → Nat → Nat) : Nat → Nat → (Nat → Nat → Int32) → Option (Unit × (Nat → Nat → Int32))
  | 0, _, _ => none
  | n + 1, a0, I =>
    sm_gd (sm_kd a0 = (5, 11)) <|
    if (I a0 1) ≤ (I a0 5) then (
      f_X5_advance_226 N R a0 I)
    else (
      sm_gd ((sm_kd (R a0 0)).1 = 14 ∧ ¬ ((I a0 5) < 0 ∨ (sm_kd (R a0 0)).2 ≤ ((I a0 5)).toNatClampNeg)) <|
      if (I (R a0 0) ((I a0 5)).toNatClampNeg) < (48 : Int32) then (
        f_X5_advance_226 N R a0 I)
      else (
        if (57 : Int32) < (I (R a0 0) ((I a0 5)).toNatClampNeg) then (
          f_X5_advance_226 N R a0 I)
        else (
          sm_lt (sm_up I a0 (sm_up (I a0) 6 ((((I a0 6) * (10 : Int32)) + (I (R a0 0) ((I a0 5)).toNatClampNeg)) - (48 : Int32)))) fun I6 =>
          sm_lt (sm_up I6 a0 (sm_up (I6 a0) 5 ((I6 a0 5) + (1 : Int32)))) fun I7 =>
          f_X5_advance_150 N R n a0 I7)))
def f_X5_advance_128 (N : Nat) (R : Nat → Nat → Nat) : Nat → (Nat → Nat → Int32) → Option (Unit × (Nat → Nat → Int32)) := fun a0 I =>
  sm_gd (sm_kd a0 = (5, 11)) <|
  if (I a0 5) ≤ (I a0 4) then (
    sm_lt (sm_up I a0 (sm_up (I a0) 6 (0 : Int32))) fun I3 =>
    f_X5_advance_150 N R N a0 I3)
  else (
    sm_lt (sm_up I a0 (sm_up (I a0) 3 (2 : Int32))) fun I4 =>
    some ((), I4))
def f_X5_advance_76 (N : Nat) (R : Nat → Nat → Nat) : Nat → Nat → (Nat → Nat → Int32) → Option (Unit × (Nat → Nat → Int32))
  | 0, _, _ => none
  | n + 1, a0, I =>
    sm_gd (sm_kd a0 = (5, 11)) <|
    if (I a0 1) ≤ (I a0 5) then (
      f_X5_advance_128 N R a0 I)
    else (
      sm_gd ((sm_kd (R a0 0)).1 = 14 ∧ ¬ ((I a0 5) < 0 ∨ (sm_kd (R a0 0)).2 ≤ ((I a0 5)).toNatClampNeg)) <|
      if (I (R a0 0) ((I a0 5)).toNatClampNeg) < (97 : Int32) then (
        f_X5_advance_128 N R a0 I)
      else (
        if (122 : Int32) < (I (R a0 0) ((I a0 5)).toNatClampNeg) then (
          f_X5_advance_128 N R a0 I)
        else (
          sm_lt (sm_up I a0 (sm_up (I a0) 5 ((I a0 5) + (1 : Int32)))) fun I6 =>
          f_X5_advance_76 N R n a0 I6)))
def f_X5_advance_16 (N : Nat) (R : Nat → Nat → Nat) : Nat → Nat → (Nat → Nat → Int32) → Option (Unit × (Nat → Nat → Int32))
  | 0, _, _ => none
  | n + 1, a0, I =>
    sm_gd (sm_kd a0 = (5, 11)) <|
    if (I a0 1) ≤ (I a0 4) then (
      sm_lt (sm_up I a0 (sm_up (I a0) 5 (I a0 4))) fun I3 =>
      f_X5_advance_76 N R N a0 I3)
    else (
      sm_gd ((sm_kd (R a0 0)).1 = 14 ∧ ¬ ((I a0 4) < 0 ∨ (sm_kd (R a0 0)).2 ≤ ((I a0 4)).toNatClampNeg)) <|
      if (I (R a0 0) ((I a0 4)).toNatClampNeg) = (32 : Int32) then (
        sm_lt (sm_up I a0 (sm_up (I a0) 4 ((I a0 4) + (1 : Int32)))) fun I6 =>
        f_X5_advance_16 N R n a0 I6)
      else (
        if (I (R a0 0) ((I a0 4)).toNatClampNeg) = (10 : Int32) then (
          sm_lt (sm_up I a0 (sm_up (I a0) 4 ((I a0 4) + (1 : Int32)))) fun I8 =>
          f_X5_advance_16 N R n a0 I8)
        else (
          sm_lt (sm_up I a0 (sm_up (I a0) 5 (I a0 4))) fun I9 =>
          f_X5_advance_76 N R N a0 I9)))
def f_X5_advance (N : Nat) (R : Nat → Nat → Nat) : Nat → (Nat → Nat → Int32) → Option (Unit × (Nat → Nat → Int32)) := fun a0 I =>
  sm_gd (sm_kd a0 = (5, 11)) <|
  if (I a0 8) = 0 then (
    sm_lt (sm_up I a0 (sm_up (I a0) 4 (I a0 5))) fun I3 =>
    f_X5_advance_16 N R N a0 I3)
  else (
    some ((), I))
set_option maxHeartbeats 4000000 in
set_option maxRecDepth 100000 in
theorem w_X5_advance_226 {l : Launch} (N : Nat) (R : Nat → Nat → Nat) : ∀ (a0 : Nat) (I : (Nat → Nat → Int32)) (y : (Unit × (Nat → Nat → Int32))), f_X5_advance_226 N R a0 I = some y → sm_W l 0 mX5_advance 226 [(0, .inr (.inl a0))] [] (I, R) (.inl none) (y.2, R) := by
  intro a0 I y h
  unfold f_X5_advance_226 at h
  refine sm_aload_n (q := 227) dX5_advance_226 rfl rfl 0 rfl ?_
  obtain ⟨hc1, h⟩ := sm_gd_e h
  refine sm_getI (q := 230) dX5_advance_227 rfl fk_X5_38 hc1 (by decide) (by decide) ?_
  refine sm_aload_n (q := 231) dX5_advance_230 rfl rfl 0 rfl ?_
  refine sm_getI (q := 234) dX5_advance_231 rfl fk_X5_137 hc1 (by decide) (by decide) ?_
  rcases sm_if_e h with ⟨hb2, h⟩ | ⟨hb2, h⟩
  · refine sm_icmp_le (tgt := 245) (q := 237) dX5_advance_234 (by decide) rfl (fun _ => ?_) (fun hn => absurd hb2 hn)
    refine sm_aload_n (q := 246) dX5_advance_245 rfl rfl 0 rfl ?_
    refine sm_getI (q := 249) dX5_advance_246 rfl fk_X5_137 hc1 (by decide) (by decide) ?_
    refine sm_aload_n (q := 250) dX5_advance_249 rfl rfl 0 rfl ?_
    refine sm_getI (q := 253) dX5_advance_250 rfl fk_X5_31 hc1 (by decide) (by decide) ?_
    rcases sm_if_e h with ⟨hb3, h⟩ | ⟨hb3, h⟩
    · refine sm_icmp_lt (tgt := 264) (q := 256) dX5_advance_253 (by decide) rfl (fun _ => ?_) (fun hn => absurd hb3 hn)
      refine sm_aload_n (q := 265) dX5_advance_264 rfl rfl 0 rfl ?_
      refine sm_iconst (v := 3) (q := 266) dX5_advance_265 rfl (by decide) ?_
      obtain ⟨I4, hI4, h⟩ := sm_lt_e h
      refine sm_putI (q := 269) dX5_advance_266 rfl fk_X5_54 hc1 (by decide) (by decide) ?_
      refine sm_memI hI4 ?_
      refine sm_aload_n (q := 270) dX5_advance_269 rfl rfl 0 rfl ?_
      refine sm_aload_n (q := 271) dX5_advance_270 rfl rfl 0 rfl ?_
      refine sm_getR (r := R a0 0) (q := 274) dX5_advance_271 rfl fk_X5_9 hc1 (by decide) (by decide) rfl ?_
      refine sm_aload_n (q := 275) dX5_advance_274 rfl rfl 0 rfl ?_
      refine sm_getI (q := 278) dX5_advance_275 rfl fk_X5_137 hc1 (by decide) (by decide) ?_
      obtain ⟨hc5, h⟩ := sm_gd_e h
      refine sm_bald (n := (sm_kd (R a0 0)).2) (q := 279) dX5_advance_278 rfl (Prod.ext hc5.1 rfl) hc5.2 ?_
      obtain ⟨I6, hI6, h⟩ := sm_lt_e h
      refine sm_putI (q := 282) dX5_advance_279 rfl fk_X5_199 hc1 (by decide) (by decide) ?_
      refine sm_memI hI6 ?_
      refine sm_aload_n (q := 283) dX5_advance_282 rfl rfl 0 rfl ?_
      refine sm_dup (q := 284) dX5_advance_283 rfl rfl ?_
      refine sm_getI (q := 287) dX5_advance_284 rfl fk_X5_38 hc1 (by decide) (by decide) ?_
      refine sm_iconst (v := 1) (q := 288) dX5_advance_287 rfl (by decide) ?_
      refine sm_iadd (q := 289) dX5_advance_288 rfl ?_
      obtain ⟨I7, hI7, h⟩ := sm_lt_e h
      refine sm_putI (q := 292) dX5_advance_289 rfl fk_X5_38 hc1 (by decide) (by decide) ?_
      refine sm_memI hI7 ?_
      obtain rfl := Option.some.inj h
      exact sm_vret dX5_advance_292 rfl
    · refine sm_icmp_lt (tgt := 264) (q := 256) dX5_advance_253 (by decide) rfl (fun ht => absurd ht hb3) (fun _ => ?_)
      refine sm_aload_n (q := 257) dX5_advance_256 rfl rfl 0 rfl ?_
      refine sm_iconst (v := 0) (q := 258) dX5_advance_257 rfl (by decide) ?_
      obtain ⟨I8, hI8, h⟩ := sm_lt_e h
      refine sm_putI (q := 261) dX5_advance_258 rfl fk_X5_54 hc1 (by decide) (by decide) ?_
      refine sm_memI hI8 ?_
      refine sm_goto (q := 292) dX5_advance_261 (by decide) ?_
      obtain rfl := Option.some.inj h
      exact sm_vret dX5_advance_292 rfl
  · refine sm_icmp_le (tgt := 245) (q := 237) dX5_advance_234 (by decide) rfl (fun ht => absurd ht hb2) (fun _ => ?_)
    refine sm_aload_n (q := 238) dX5_advance_237 rfl rfl 0 rfl ?_
    refine sm_iconst (v := 1) (q := 239) dX5_advance_238 rfl (by decide) ?_
    obtain ⟨I9, hI9, h⟩ := sm_lt_e h
    refine sm_putI (q := 242) dX5_advance_239 rfl fk_X5_54 hc1 (by decide) (by decide) ?_
    refine sm_memI hI9 ?_
    refine sm_goto (q := 292) dX5_advance_242 (by decide) ?_
    obtain rfl := Option.some.inj h
    exact sm_vret dX5_advance_292 rfl
set_option maxHeartbeats 4000000 in
set_option maxRecDepth 100000 in
theorem w_X5_advance_150 {l : Launch} (N : Nat) (R : Nat → Nat → Nat) : ∀ (n : Nat) (a0 : Nat) (I : (Nat → Nat → Int32)) (y : (Unit × (Nat → Nat → Int32))), f_X5_advance_150 N R n a0 I = some y → sm_W l 0 mX5_advance 150 [(0, .inr (.inl a0))] [] (I, R) (.inl none) (y.2, R) := by
  intro n
  induction n with
  | zero => intro a0 I y h; cases h
  | succ n ih =>
    intro a0 I y h
    rw [f_X5_advance_150] at h
    refine sm_aload_n (q := 151) dX5_advance_150 rfl rfl 0 rfl ?_
    obtain ⟨hc1, h⟩ := sm_gd_e h
    refine sm_getI (q := 154) dX5_advance_151 rfl fk_X5_38 hc1 (by decide) (by decide) ?_
    refine sm_aload_n (q := 155) dX5_advance_154 rfl rfl 0 rfl ?_
    refine sm_getI (q := 158) dX5_advance_155 rfl fk_X5_31 hc1 (by decide) (by decide) ?_
    rcases sm_if_e h with ⟨hb2, h⟩ | ⟨hb2, h⟩
    · refine sm_icmp_ge (tgt := 226) (q := 161) dX5_advance_158 (by decide) rfl (fun _ => ?_) (fun hn => absurd hb2 hn)
      refine sm_pick [0] rfl ?_
      exact w_X5_advance_226 N R _ _ _ h
    · refine sm_icmp_ge (tgt := 226) (q := 161) dX5_advance_158 (by decide) rfl (fun ht => absurd ht hb2) (fun _ => ?_)
      refine sm_aload_n (q := 162) dX5_advance_161 rfl rfl 0 rfl ?_
      refine sm_getR (r := R a0 0) (q := 165) dX5_advance_162 rfl fk_X5_9 hc1 (by decide) (by decide) rfl ?_
      refine sm_aload_n (q := 166) dX5_advance_165 rfl rfl 0 rfl ?_
      refine sm_getI (q := 169) dX5_advance_166 rfl fk_X5_38 hc1 (by decide) (by decide) ?_
      obtain ⟨hc3, h⟩ := sm_gd_e h
      refine sm_bald (n := (sm_kd (R a0 0)).2) (q := 170) dX5_advance_169 rfl (Prod.ext hc3.1 rfl) hc3.2 ?_
      refine sm_bipush (v := 48) (q := 172) dX5_advance_170 rfl (by decide) ?_
      rcases sm_if_e h with ⟨hb4, h⟩ | ⟨hb4, h⟩
      · refine sm_icmp_lt (tgt := 226) (q := 175) dX5_advance_172 (by decide) rfl (fun _ => ?_) (fun hn => absurd hb4 hn)
        refine sm_pick [0] rfl ?_
        exact w_X5_advance_226 N R _ _ _ h
      · refine sm_icmp_lt (tgt := 226) (q := 175) dX5_advance_172 (by decide) rfl (fun ht => absurd ht hb4) (fun _ => ?_)
        refine sm_aload_n (q := 176) dX5_advance_175 rfl rfl 0 rfl ?_
        refine sm_getR (r := R a0 0) (q := 179) dX5_advance_176 rfl fk_X5_9 hc1 (by decide) (by decide) rfl ?_
        refine sm_aload_n (q := 180) dX5_advance_179 rfl rfl 0 rfl ?_
        refine sm_getI (q := 183) dX5_advance_180 rfl fk_X5_38 hc1 (by decide) (by decide) ?_
        refine sm_bald (n := (sm_kd (R a0 0)).2) (q := 184) dX5_advance_183 rfl (Prod.ext hc3.1 rfl) hc3.2 ?_
        refine sm_bipush (v := 57) (q := 186) dX5_advance_184 rfl (by decide) ?_
        rcases sm_if_e h with ⟨hb5, h⟩ | ⟨hb5, h⟩
        · refine sm_icmp_gt (tgt := 226) (q := 189) dX5_advance_186 (by decide) rfl (fun _ => ?_) (fun hn => absurd hb5 hn)
          refine sm_pick [0] rfl ?_
          exact w_X5_advance_226 N R _ _ _ h
        · refine sm_icmp_gt (tgt := 226) (q := 189) dX5_advance_186 (by decide) rfl (fun ht => absurd ht hb5) (fun _ => ?_)
          refine sm_aload_n (q := 190) dX5_advance_189 rfl rfl 0 rfl ?_
          refine sm_aload_n (q := 191) dX5_advance_190 rfl rfl 0 rfl ?_
          refine sm_getI (q := 194) dX5_advance_191 rfl fk_X5_140 hc1 (by decide) (by decide) ?_
          refine sm_bipush (v := 10) (q := 196) dX5_advance_194 rfl (by decide) ?_
          refine sm_imul (q := 197) dX5_advance_196 rfl ?_
          refine sm_aload_n (q := 198) dX5_advance_197 rfl rfl 0 rfl ?_
          refine sm_getR (r := R a0 0) (q := 201) dX5_advance_198 rfl fk_X5_9 hc1 (by decide) (by decide) rfl ?_
          refine sm_aload_n (q := 202) dX5_advance_201 rfl rfl 0 rfl ?_
          refine sm_getI (q := 205) dX5_advance_202 rfl fk_X5_38 hc1 (by decide) (by decide) ?_
          refine sm_bald (n := (sm_kd (R a0 0)).2) (q := 206) dX5_advance_205 rfl (Prod.ext hc3.1 rfl) hc3.2 ?_
          refine sm_iadd (q := 207) dX5_advance_206 rfl ?_
          refine sm_bipush (v := 48) (q := 209) dX5_advance_207 rfl (by decide) ?_
          refine sm_isub (q := 210) dX5_advance_209 rfl ?_
          obtain ⟨I6, hI6, h⟩ := sm_lt_e h
          refine sm_putI (q := 213) dX5_advance_210 rfl fk_X5_140 hc1 (by decide) (by decide) ?_
          refine sm_memI hI6 ?_
          refine sm_aload_n (q := 214) dX5_advance_213 rfl rfl 0 rfl ?_
          refine sm_dup (q := 215) dX5_advance_214 rfl rfl ?_
          refine sm_getI (q := 218) dX5_advance_215 rfl fk_X5_38 hc1 (by decide) (by decide) ?_
          refine sm_iconst (v := 1) (q := 219) dX5_advance_218 rfl (by decide) ?_
          refine sm_iadd (q := 220) dX5_advance_219 rfl ?_
          obtain ⟨I7, hI7, h⟩ := sm_lt_e h
          refine sm_putI (q := 223) dX5_advance_220 rfl fk_X5_38 hc1 (by decide) (by decide) ?_
          refine sm_memI hI7 ?_
          refine sm_goto (q := 150) dX5_advance_223 (by decide) ?_
          refine sm_pick [0] rfl ?_
          exact ih _ _ _ h
set_option maxHeartbeats 4000000 in
set_option maxRecDepth 100000 in
theorem w_X5_advance_128 {l : Launch} (N : Nat) (R : Nat → Nat → Nat) : ∀ (a0 : Nat) (I : (Nat → Nat → Int32)) (y : (Unit × (Nat → Nat → Int32))), f_X5_advance_128 N R a0 I = some y → sm_W l 0 mX5_advance 128 [(0, .inr (.inl a0))] [] (I, R) (.inl none) (y.2, R) := by
  intro a0 I y h
  unfold f_X5_advance_128 at h
  refine sm_aload_n (q := 129) dX5_advance_128 rfl rfl 0 rfl ?_
  obtain ⟨hc1, h⟩ := sm_gd_e h
  refine sm_getI (q := 132) dX5_advance_129 rfl fk_X5_38 hc1 (by decide) (by decide) ?_
  refine sm_aload_n (q := 133) dX5_advance_132 rfl rfl 0 rfl ?_
  refine sm_getI (q := 136) dX5_advance_133 rfl fk_X5_137 hc1 (by decide) (by decide) ?_
  rcases sm_if_e h with ⟨hb2, h⟩ | ⟨hb2, h⟩
  · refine sm_icmp_le (tgt := 145) (q := 139) dX5_advance_136 (by decide) rfl (fun _ => ?_) (fun hn => absurd hb2 hn)
    refine sm_aload_n (q := 146) dX5_advance_145 rfl rfl 0 rfl ?_
    refine sm_iconst (v := 0) (q := 147) dX5_advance_146 rfl (by decide) ?_
    obtain ⟨I3, hI3, h⟩ := sm_lt_e h
    refine sm_putI (q := 150) dX5_advance_147 rfl fk_X5_140 hc1 (by decide) (by decide) ?_
    refine sm_memI hI3 ?_
    refine sm_pick [0] rfl ?_
    exact w_X5_advance_150 N R N _ _ _ h
  · refine sm_icmp_le (tgt := 145) (q := 139) dX5_advance_136 (by decide) rfl (fun ht => absurd ht hb2) (fun _ => ?_)
    refine sm_aload_n (q := 140) dX5_advance_139 rfl rfl 0 rfl ?_
    refine sm_iconst (v := 2) (q := 141) dX5_advance_140 rfl (by decide) ?_
    obtain ⟨I4, hI4, h⟩ := sm_lt_e h
    refine sm_putI (q := 144) dX5_advance_141 rfl fk_X5_54 hc1 (by decide) (by decide) ?_
    refine sm_memI hI4 ?_
    obtain rfl := Option.some.inj h
    exact sm_vret dX5_advance_144 rfl
set_option maxHeartbeats 4000000 in
set_option maxRecDepth 100000 in
theorem w_X5_advance_76 {l : Launch} (N : Nat) (R : Nat → Nat → Nat) : ∀ (n : Nat) (a0 : Nat) (I : (Nat → Nat → Int32)) (y : (Unit × (Nat → Nat → Int32))), f_X5_advance_76 N R n a0 I = some y → sm_W l 0 mX5_advance 76 [(0, .inr (.inl a0))] [] (I, R) (.inl none) (y.2, R) := by
  intro n
  induction n with
  | zero => intro a0 I y h; cases h
  | succ n ih =>
    intro a0 I y h
    rw [f_X5_advance_76] at h
    refine sm_aload_n (q := 77) dX5_advance_76 rfl rfl 0 rfl ?_
    obtain ⟨hc1, h⟩ := sm_gd_e h
    refine sm_getI (q := 80) dX5_advance_77 rfl fk_X5_38 hc1 (by decide) (by decide) ?_
    refine sm_aload_n (q := 81) dX5_advance_80 rfl rfl 0 rfl ?_
    refine sm_getI (q := 84) dX5_advance_81 rfl fk_X5_31 hc1 (by decide) (by decide) ?_
    rcases sm_if_e h with ⟨hb2, h⟩ | ⟨hb2, h⟩
    · refine sm_icmp_ge (tgt := 128) (q := 87) dX5_advance_84 (by decide) rfl (fun _ => ?_) (fun hn => absurd hb2 hn)
      refine sm_pick [0] rfl ?_
      exact w_X5_advance_128 N R _ _ _ h
    · refine sm_icmp_ge (tgt := 128) (q := 87) dX5_advance_84 (by decide) rfl (fun ht => absurd ht hb2) (fun _ => ?_)
      refine sm_aload_n (q := 88) dX5_advance_87 rfl rfl 0 rfl ?_
      refine sm_getR (r := R a0 0) (q := 91) dX5_advance_88 rfl fk_X5_9 hc1 (by decide) (by decide) rfl ?_
      refine sm_aload_n (q := 92) dX5_advance_91 rfl rfl 0 rfl ?_
      refine sm_getI (q := 95) dX5_advance_92 rfl fk_X5_38 hc1 (by decide) (by decide) ?_
      obtain ⟨hc3, h⟩ := sm_gd_e h
      refine sm_bald (n := (sm_kd (R a0 0)).2) (q := 96) dX5_advance_95 rfl (Prod.ext hc3.1 rfl) hc3.2 ?_
      refine sm_bipush (v := 97) (q := 98) dX5_advance_96 rfl (by decide) ?_
      rcases sm_if_e h with ⟨hb4, h⟩ | ⟨hb4, h⟩
      · refine sm_icmp_lt (tgt := 128) (q := 101) dX5_advance_98 (by decide) rfl (fun _ => ?_) (fun hn => absurd hb4 hn)
        refine sm_pick [0] rfl ?_
        exact w_X5_advance_128 N R _ _ _ h
      · refine sm_icmp_lt (tgt := 128) (q := 101) dX5_advance_98 (by decide) rfl (fun ht => absurd ht hb4) (fun _ => ?_)
        refine sm_aload_n (q := 102) dX5_advance_101 rfl rfl 0 rfl ?_
        refine sm_getR (r := R a0 0) (q := 105) dX5_advance_102 rfl fk_X5_9 hc1 (by decide) (by decide) rfl ?_
        refine sm_aload_n (q := 106) dX5_advance_105 rfl rfl 0 rfl ?_
        refine sm_getI (q := 109) dX5_advance_106 rfl fk_X5_38 hc1 (by decide) (by decide) ?_
        refine sm_bald (n := (sm_kd (R a0 0)).2) (q := 110) dX5_advance_109 rfl (Prod.ext hc3.1 rfl) hc3.2 ?_
        refine sm_bipush (v := 122) (q := 112) dX5_advance_110 rfl (by decide) ?_
        rcases sm_if_e h with ⟨hb5, h⟩ | ⟨hb5, h⟩
        · refine sm_icmp_gt (tgt := 128) (q := 115) dX5_advance_112 (by decide) rfl (fun _ => ?_) (fun hn => absurd hb5 hn)
          refine sm_pick [0] rfl ?_
          exact w_X5_advance_128 N R _ _ _ h
        · refine sm_icmp_gt (tgt := 128) (q := 115) dX5_advance_112 (by decide) rfl (fun ht => absurd ht hb5) (fun _ => ?_)
          refine sm_aload_n (q := 116) dX5_advance_115 rfl rfl 0 rfl ?_
          refine sm_dup (q := 117) dX5_advance_116 rfl rfl ?_
          refine sm_getI (q := 120) dX5_advance_117 rfl fk_X5_38 hc1 (by decide) (by decide) ?_
          refine sm_iconst (v := 1) (q := 121) dX5_advance_120 rfl (by decide) ?_
          refine sm_iadd (q := 122) dX5_advance_121 rfl ?_
          obtain ⟨I6, hI6, h⟩ := sm_lt_e h
          refine sm_putI (q := 125) dX5_advance_122 rfl fk_X5_38 hc1 (by decide) (by decide) ?_
          refine sm_memI hI6 ?_
          refine sm_goto (q := 76) dX5_advance_125 (by decide) ?_
          refine sm_pick [0] rfl ?_
          exact ih _ _ _ h
set_option maxHeartbeats 4000000 in
set_option maxRecDepth 100000 in
theorem w_X5_advance_16 {l : Launch} (N : Nat) (R : Nat → Nat → Nat) : ∀ (n : Nat) (a0 : Nat) (I : (Nat → Nat → Int32)) (y : (Unit × (Nat → Nat → Int32))), f_X5_advance_16 N R n a0 I = some y → sm_W l 0 mX5_advance 16 [(0, .inr (.inl a0))] [] (I, R) (.inl none) (y.2, R) := by
  intro n
  induction n with
  | zero => intro a0 I y h; cases h
  | succ n ih =>
    intro a0 I y h
    rw [f_X5_advance_16] at h
    refine sm_aload_n (q := 17) dX5_advance_16 rfl rfl 0 rfl ?_
    obtain ⟨hc1, h⟩ := sm_gd_e h
    refine sm_getI (q := 20) dX5_advance_17 rfl fk_X5_137 hc1 (by decide) (by decide) ?_
    refine sm_aload_n (q := 21) dX5_advance_20 rfl rfl 0 rfl ?_
    refine sm_getI (q := 24) dX5_advance_21 rfl fk_X5_31 hc1 (by decide) (by decide) ?_
    rcases sm_if_e h with ⟨hb2, h⟩ | ⟨hb2, h⟩
    · refine sm_icmp_ge (tgt := 68) (q := 27) dX5_advance_24 (by decide) rfl (fun _ => ?_) (fun hn => absurd hb2 hn)
      refine sm_aload_n (q := 69) dX5_advance_68 rfl rfl 0 rfl ?_
      refine sm_aload_n (q := 70) dX5_advance_69 rfl rfl 0 rfl ?_
      refine sm_getI (q := 73) dX5_advance_70 rfl fk_X5_137 hc1 (by decide) (by decide) ?_
      obtain ⟨I3, hI3, h⟩ := sm_lt_e h
      refine sm_putI (q := 76) dX5_advance_73 rfl fk_X5_38 hc1 (by decide) (by decide) ?_
      refine sm_memI hI3 ?_
      refine sm_pick [0] rfl ?_
      exact w_X5_advance_76 N R N _ _ _ h
    · refine sm_icmp_ge (tgt := 68) (q := 27) dX5_advance_24 (by decide) rfl (fun ht => absurd ht hb2) (fun _ => ?_)
      refine sm_aload_n (q := 28) dX5_advance_27 rfl rfl 0 rfl ?_
      refine sm_getR (r := R a0 0) (q := 31) dX5_advance_28 rfl fk_X5_9 hc1 (by decide) (by decide) rfl ?_
      refine sm_aload_n (q := 32) dX5_advance_31 rfl rfl 0 rfl ?_
      refine sm_getI (q := 35) dX5_advance_32 rfl fk_X5_137 hc1 (by decide) (by decide) ?_
      obtain ⟨hc4, h⟩ := sm_gd_e h
      refine sm_bald (n := (sm_kd (R a0 0)).2) (q := 36) dX5_advance_35 rfl (Prod.ext hc4.1 rfl) hc4.2 ?_
      refine sm_bipush (v := 32) (q := 38) dX5_advance_36 rfl (by decide) ?_
      rcases sm_if_e h with ⟨hb5, h⟩ | ⟨hb5, h⟩
      · refine sm_icmp_eq (tgt := 55) (q := 41) dX5_advance_38 (by decide) rfl (fun _ => ?_) (fun hn => absurd hb5 hn)
        refine sm_aload_n (q := 56) dX5_advance_55 rfl rfl 0 rfl ?_
        refine sm_dup (q := 57) dX5_advance_56 rfl rfl ?_
        refine sm_getI (q := 60) dX5_advance_57 rfl fk_X5_137 hc1 (by decide) (by decide) ?_
        refine sm_iconst (v := 1) (q := 61) dX5_advance_60 rfl (by decide) ?_
        refine sm_iadd (q := 62) dX5_advance_61 rfl ?_
        obtain ⟨I6, hI6, h⟩ := sm_lt_e h
        refine sm_putI (q := 65) dX5_advance_62 rfl fk_X5_137 hc1 (by decide) (by decide) ?_
        refine sm_memI hI6 ?_
        refine sm_goto (q := 16) dX5_advance_65 (by decide) ?_
        refine sm_pick [0] rfl ?_
        exact ih _ _ _ h
      · refine sm_icmp_eq (tgt := 55) (q := 41) dX5_advance_38 (by decide) rfl (fun ht => absurd ht hb5) (fun _ => ?_)
        refine sm_aload_n (q := 42) dX5_advance_41 rfl rfl 0 rfl ?_
        refine sm_getR (r := R a0 0) (q := 45) dX5_advance_42 rfl fk_X5_9 hc1 (by decide) (by decide) rfl ?_
        refine sm_aload_n (q := 46) dX5_advance_45 rfl rfl 0 rfl ?_
        refine sm_getI (q := 49) dX5_advance_46 rfl fk_X5_137 hc1 (by decide) (by decide) ?_
        refine sm_bald (n := (sm_kd (R a0 0)).2) (q := 50) dX5_advance_49 rfl (Prod.ext hc4.1 rfl) hc4.2 ?_
        refine sm_bipush (v := 10) (q := 52) dX5_advance_50 rfl (by decide) ?_
        rcases sm_if_e h with ⟨hb7, h⟩ | ⟨hb7, h⟩
        · refine sm_icmp_ne (tgt := 68) (q := 55) dX5_advance_52 (by decide) rfl (fun hn => absurd hb7 hn) (fun _ => ?_)
          refine sm_aload_n (q := 56) dX5_advance_55 rfl rfl 0 rfl ?_
          refine sm_dup (q := 57) dX5_advance_56 rfl rfl ?_
          refine sm_getI (q := 60) dX5_advance_57 rfl fk_X5_137 hc1 (by decide) (by decide) ?_
          refine sm_iconst (v := 1) (q := 61) dX5_advance_60 rfl (by decide) ?_
          refine sm_iadd (q := 62) dX5_advance_61 rfl ?_
          obtain ⟨I8, hI8, h⟩ := sm_lt_e h
          refine sm_putI (q := 65) dX5_advance_62 rfl fk_X5_137 hc1 (by decide) (by decide) ?_
          refine sm_memI hI8 ?_
          refine sm_goto (q := 16) dX5_advance_65 (by decide) ?_
          refine sm_pick [0] rfl ?_
          exact ih _ _ _ h
        · refine sm_icmp_ne (tgt := 68) (q := 55) dX5_advance_52 (by decide) rfl (fun _ => ?_) (fun he => absurd he hb7)
          refine sm_aload_n (q := 69) dX5_advance_68 rfl rfl 0 rfl ?_
          refine sm_aload_n (q := 70) dX5_advance_69 rfl rfl 0 rfl ?_
          refine sm_getI (q := 73) dX5_advance_70 rfl fk_X5_137 hc1 (by decide) (by decide) ?_
          obtain ⟨I9, hI9, h⟩ := sm_lt_e h
          refine sm_putI (q := 76) dX5_advance_73 rfl fk_X5_38 hc1 (by decide) (by decide) ?_
          refine sm_memI hI9 ?_
          refine sm_pick [0] rfl ?_
          exact w_X5_advance_76 N R N _ _ _ h
set_option maxHeartbeats 4000000 in
set_option maxRecDepth 100000 in
theorem w_X5_advance {l : Launch} (N : Nat) (R : Nat → Nat → Nat) : ∀ (a0 : Nat) (I : (Nat → Nat → Int32)) (y : (Unit × (Nat → Nat → Int32))), f_X5_advance N R a0 I = some y → sm_W l 0 mX5_advance 0 [(0, .inr (.inl a0))] [] (I, R) (.inl none) (y.2, R) := by
  intro a0 I y h
  unfold f_X5_advance at h
  refine sm_aload_n (q := 1) dX5_advance_0 rfl rfl 0 rfl ?_
  obtain ⟨hc1, h⟩ := sm_gd_e h
  refine sm_getI (q := 4) dX5_advance_1 rfl fk_X5_41 hc1 (by decide) (by decide) ?_
  rcases sm_if_e h with ⟨hb2, h⟩ | ⟨hb2, h⟩
  · refine sm_if_eq (tgt := 8) (q := 7) dX5_advance_4 (by decide) rfl (fun _ => ?_) (fun hn => absurd hb2 hn)
    refine sm_aload_n (q := 9) dX5_advance_8 rfl rfl 0 rfl ?_
    refine sm_aload_n (q := 10) dX5_advance_9 rfl rfl 0 rfl ?_
    refine sm_getI (q := 13) dX5_advance_10 rfl fk_X5_38 hc1 (by decide) (by decide) ?_
    obtain ⟨I3, hI3, h⟩ := sm_lt_e h
    refine sm_putI (q := 16) dX5_advance_13 rfl fk_X5_137 hc1 (by decide) (by decide) ?_
    refine sm_memI hI3 ?_
    refine sm_pick [0] rfl ?_
    exact w_X5_advance_16 N R N _ _ _ h
  · refine sm_if_eq (tgt := 8) (q := 7) dX5_advance_4 (by decide) rfl (fun ht => absurd ht hb2) (fun _ => ?_)
    obtain rfl := Option.some.inj h
    exact sm_vret dX5_advance_7 rfl
theorem e_X5_advance {l : Launch} {N : Nat} {R : Nat → Nat → Nat} {a0 : Nat} {I : (Nat → Nat → Int32)} {y : (Unit × (Nat → Nat → Int32))} (h : f_X5_advance N R a0 I = some y) : sm_E l 0 mX5_advance [.inr (.inl a0)] (I, R) (.inl none) (y.2, R) :=
  sm_meth (by decide) (Nat.le_of_ble_eq_true rfl) (w_X5_advance N R a0 I y h)
def f_X5_isWord_31 (N : Nat) (R : Nat → Nat → Nat) : Nat → Nat → Nat → Int32 → (Nat → Nat → Int32) → Option (Int32 × (Nat → Nat → Int32))
  | 0, _, _, _, _ => none
  | n + 1, a0, a1, a2, I =>
    sm_gd (sm_kd a0 = (5, 11)) <|
    if (I a0 5) ≤ a2 then (
      some ((1 : Int32), I))
    else (
      sm_gd ((sm_kd (R a0 0)).1 = 14 ∧ ¬ (a2 < 0 ∨ (sm_kd (R a0 0)).2 ≤ (a2).toNatClampNeg)) <|
      sm_gd ((1000 ≤ a1 ∧ a1 < 1000 + sm_NS) ∧ ¬ ((a2 - (I a0 4)) < 0 ∨ sm_len.getD (a1 - 1000) 0 ≤ ((a2 - (I a0 4))).toNatClampNeg)) <|
      if (I (R a0 0) (a2).toNatClampNeg) = (sm_sch a1 (a2 - (I a0 4))) then (
        f_X5_isWord_31 N R n a0 a1 (a2 + 1) I)
      else (
        some ((0 : Int32), I)))
def f_X5_isWord (N : Nat) (R : Nat → Nat → Nat) : Nat → Nat → (Nat → Nat → Int32) → Option (Int32 × (Nat → Nat → Int32)) := fun a0 a1 I =>
  sm_gd (sm_kd a0 = (5, 11)) <|
  if (I a0 3) = (2 : Int32) then (
    sm_gd (1000 ≤ a1 ∧ a1 < 1000 + sm_NS) <|
    if ((I a0 5) - (I a0 4)) = (sm_sln a1) then (
      f_X5_isWord_31 N R N a0 a1 (I a0 4) I)
    else (
      some ((0 : Int32), I)))
  else (
    some ((0 : Int32), I))
set_option maxHeartbeats 4000000 in
set_option maxRecDepth 100000 in
theorem w_X5_isWord_31 {l : Launch} (N : Nat) (R : Nat → Nat → Nat) : ∀ (n : Nat) (a0 : Nat) (a1 : Nat) (a2 : Int32) (I : (Nat → Nat → Int32)) (y : (Int32 × (Nat → Nat → Int32))), f_X5_isWord_31 N R n a0 a1 a2 I = some y → sm_W l 4 mX5_isWord 31 [(0, .inr (.inl a0)), (1, .inr (.inl a1)), (2, .inl a2)] [] (I, R) (.inl (some (.inl y.1))) (y.2, R) := by
  intro n
  induction n with
  | zero => intro a0 a1 a2 I y h; cases h
  | succ n ih =>
    intro a0 a1 a2 I y h
    rw [f_X5_isWord_31] at h
    refine sm_iload_n (q := 32) dX5_isWord_31 rfl rfl 2 rfl ?_
    refine sm_aload_n (q := 33) dX5_isWord_32 rfl rfl 0 rfl ?_
    obtain ⟨hc1, h⟩ := sm_gd_e h
    refine sm_getI (q := 36) dX5_isWord_33 rfl fk_X5_38 hc1 (by decide) (by decide) ?_
    rcases sm_if_e h with ⟨hb2, h⟩ | ⟨hb2, h⟩
    · refine sm_icmp_ge (tgt := 66) (q := 39) dX5_isWord_36 (by decide) rfl (fun _ => ?_) (fun hn => absurd hb2 hn)
      refine sm_iconst (v := 1) (q := 67) dX5_isWord_66 rfl (by decide) ?_
      obtain rfl := Option.some.inj h
      exact sm_zret dX5_isWord_67 rfl (by decide)
    · refine sm_icmp_ge (tgt := 66) (q := 39) dX5_isWord_36 (by decide) rfl (fun ht => absurd ht hb2) (fun _ => ?_)
      refine sm_aload_n (q := 40) dX5_isWord_39 rfl rfl 0 rfl ?_
      refine sm_getR (r := R a0 0) (q := 43) dX5_isWord_40 rfl fk_X5_9 hc1 (by decide) (by decide) rfl ?_
      refine sm_iload_n (q := 44) dX5_isWord_43 rfl rfl 2 rfl ?_
      obtain ⟨hc3, h⟩ := sm_gd_e h
      refine sm_bald (n := (sm_kd (R a0 0)).2) (q := 45) dX5_isWord_44 rfl (Prod.ext hc3.1 rfl) hc3.2 ?_
      refine sm_aload_n (q := 46) dX5_isWord_45 rfl rfl 1 rfl ?_
      refine sm_iload_n (q := 47) dX5_isWord_46 rfl rfl 2 rfl ?_
      refine sm_aload_n (q := 48) dX5_isWord_47 rfl rfl 0 rfl ?_
      refine sm_getI (q := 51) dX5_isWord_48 rfl fk_X5_137 hc1 (by decide) (by decide) ?_
      refine sm_isub (q := 52) dX5_isWord_51 rfl ?_
      obtain ⟨hc4, h⟩ := sm_gd_e h
      refine sm_strchr (q := 55) dX5_isWord_52 rfl ml_X5_206 hc4.1.1 hc4.1.2 hc4.2 (Nat.le_of_ble_eq_true rfl) (by decide) ?_
      rcases sm_if_e h with ⟨hb5, h⟩ | ⟨hb5, h⟩
      · refine sm_icmp_eq (tgt := 60) (q := 58) dX5_isWord_55 (by decide) rfl (fun _ => ?_) (fun hn => absurd hb5 hn)
        refine sm_iinc (v := (a2 + 1)) (L' := [(2, .inl (a2 + 1)), (0, .inr (.inl a0)), (1, .inr (.inl a1))]) (q := 63) dX5_isWord_60 rfl 2 rfl rfl (by decide) rfl ?_
        refine sm_goto (q := 31) dX5_isWord_63 (by decide) ?_
        refine sm_pick [1, 2, 0] rfl ?_
        exact ih _ _ _ _ _ h
      · refine sm_icmp_eq (tgt := 60) (q := 58) dX5_isWord_55 (by decide) rfl (fun ht => absurd ht hb5) (fun _ => ?_)
        refine sm_iconst (v := 0) (q := 59) dX5_isWord_58 rfl (by decide) ?_
        obtain rfl := Option.some.inj h
        exact sm_zret dX5_isWord_59 rfl (by decide)
set_option maxHeartbeats 4000000 in
set_option maxRecDepth 100000 in
theorem w_X5_isWord {l : Launch} (N : Nat) (R : Nat → Nat → Nat) : ∀ (a0 : Nat) (a1 : Nat) (I : (Nat → Nat → Int32)) (y : (Int32 × (Nat → Nat → Int32))), f_X5_isWord N R a0 a1 I = some y → sm_W l 4 mX5_isWord 0 [(0, .inr (.inl a0)), (1, .inr (.inl a1))] [] (I, R) (.inl (some (.inl y.1))) (y.2, R) := by
  intro a0 a1 I y h
  unfold f_X5_isWord at h
  refine sm_aload_n (q := 1) dX5_isWord_0 rfl rfl 0 rfl ?_
  obtain ⟨hc1, h⟩ := sm_gd_e h
  refine sm_getI (q := 4) dX5_isWord_1 rfl fk_X5_54 hc1 (by decide) (by decide) ?_
  refine sm_iconst (v := 2) (q := 5) dX5_isWord_4 rfl (by decide) ?_
  rcases sm_if_e h with ⟨hb2, h⟩ | ⟨hb2, h⟩
  · refine sm_icmp_ne (tgt := 24) (q := 8) dX5_isWord_5 (by decide) rfl (fun hn => absurd hb2 hn) (fun _ => ?_)
    refine sm_aload_n (q := 9) dX5_isWord_8 rfl rfl 0 rfl ?_
    refine sm_getI (q := 12) dX5_isWord_9 rfl fk_X5_38 hc1 (by decide) (by decide) ?_
    refine sm_aload_n (q := 13) dX5_isWord_12 rfl rfl 0 rfl ?_
    refine sm_getI (q := 16) dX5_isWord_13 rfl fk_X5_137 hc1 (by decide) (by decide) ?_
    refine sm_isub (q := 17) dX5_isWord_16 rfl ?_
    refine sm_aload_n (q := 18) dX5_isWord_17 rfl rfl 1 rfl ?_
    obtain ⟨hc3, h⟩ := sm_gd_e h
    refine sm_strlen (q := 21) dX5_isWord_18 rfl ml_X5_202 hc3.1 hc3.2 (Nat.le_of_ble_eq_true rfl) (by decide) ?_
    rcases sm_if_e h with ⟨hb4, h⟩ | ⟨hb4, h⟩
    · refine sm_icmp_eq (tgt := 26) (q := 24) dX5_isWord_21 (by decide) rfl (fun _ => ?_) (fun hn => absurd hb4 hn)
      refine sm_aload_n (q := 27) dX5_isWord_26 rfl rfl 0 rfl ?_
      refine sm_getI (q := 30) dX5_isWord_27 rfl fk_X5_137 hc1 (by decide) (by decide) ?_
      refine sm_istore_n (L' := [(2, .inl (I a0 4)), (0, .inr (.inl a0)), (1, .inr (.inl a1))]) (q := 31) dX5_isWord_30 rfl rfl (by decide) rfl ?_
      refine sm_pick [1, 2, 0] rfl ?_
      exact w_X5_isWord_31 N R N _ _ _ _ _ h
    · refine sm_icmp_eq (tgt := 26) (q := 24) dX5_isWord_21 (by decide) rfl (fun ht => absurd ht hb4) (fun _ => ?_)
      refine sm_iconst (v := 0) (q := 25) dX5_isWord_24 rfl (by decide) ?_
      obtain rfl := Option.some.inj h
      exact sm_zret dX5_isWord_25 rfl (by decide)
  · refine sm_icmp_ne (tgt := 24) (q := 8) dX5_isWord_5 (by decide) rfl (fun _ => ?_) (fun he => absurd he hb2)
    refine sm_iconst (v := 0) (q := 25) dX5_isWord_24 rfl (by decide) ?_
    obtain rfl := Option.some.inj h
    exact sm_zret dX5_isWord_25 rfl (by decide)
theorem e_X5_isWord {l : Launch} {N : Nat} {R : Nat → Nat → Nat} {a0 : Nat} {a1 : Nat} {I : (Nat → Nat → Int32)} {y : (Int32 × (Nat → Nat → Int32))} (h : f_X5_isWord N R a0 a1 I = some y) : sm_E l 4 mX5_isWord [.inr (.inl a0), .inr (.inl a1)] (I, R) (.inl (some (.inl y.1))) (y.2, R) :=
  sm_meth (by decide) (Nat.le_of_ble_eq_true rfl) (w_X5_isWord N R a0 a1 I y h)
def f_X5_stop (N : Nat) (R : Nat → Nat → Nat) : Nat → Int32 → (Nat → Nat → Int32) → Option (Unit × (Nat → Nat → Int32)) := fun a0 a1 I =>
  sm_gd (sm_kd a0 = (5, 11)) <|
  if (I a0 8) = 0 then (
    sm_lt (sm_up I a0 (sm_up (I a0) 8 a1)) fun I3 =>
    sm_lt (sm_up I3 a0 (sm_up (I3 a0) 9 (I3 a0 4))) fun I4 =>
    sm_lt (sm_up I4 a0 (sm_up (I4 a0) 3 (4 : Int32))) fun I5 =>
    some ((), I5))
  else (
    sm_lt (sm_up I a0 (sm_up (I a0) 3 (4 : Int32))) fun I6 =>
    some ((), I6))
set_option maxHeartbeats 4000000 in
set_option maxRecDepth 100000 in
theorem w_X5_stop {l : Launch} (N : Nat) (R : Nat → Nat → Nat) : ∀ (a0 : Nat) (a1 : Int32) (I : (Nat → Nat → Int32)) (y : (Unit × (Nat → Nat → Int32))), f_X5_stop N R a0 a1 I = some y → sm_W l 0 mX5_stop 0 [(0, .inr (.inl a0)), (1, .inl a1)] [] (I, R) (.inl none) (y.2, R) := by
  intro a0 a1 I y h
  unfold f_X5_stop at h
  refine sm_aload_n (q := 1) dX5_stop_0 rfl rfl 0 rfl ?_
  obtain ⟨hc1, h⟩ := sm_gd_e h
  refine sm_getI (q := 4) dX5_stop_1 rfl fk_X5_41 hc1 (by decide) (by decide) ?_
  rcases sm_if_e h with ⟨hb2, h⟩ | ⟨hb2, h⟩
  · refine sm_if_ne (tgt := 20) (q := 7) dX5_stop_4 (by decide) rfl (fun hn => absurd hb2 hn) (fun _ => ?_)
    refine sm_aload_n (q := 8) dX5_stop_7 rfl rfl 0 rfl ?_
    refine sm_iload_n (q := 9) dX5_stop_8 rfl rfl 1 rfl ?_
    obtain ⟨I3, hI3, h⟩ := sm_lt_e h
    refine sm_putI (q := 12) dX5_stop_9 rfl fk_X5_41 hc1 (by decide) (by decide) ?_
    refine sm_memI hI3 ?_
    refine sm_aload_n (q := 13) dX5_stop_12 rfl rfl 0 rfl ?_
    refine sm_aload_n (q := 14) dX5_stop_13 rfl rfl 0 rfl ?_
    refine sm_getI (q := 17) dX5_stop_14 rfl fk_X5_137 hc1 (by decide) (by decide) ?_
    obtain ⟨I4, hI4, h⟩ := sm_lt_e h
    refine sm_putI (q := 20) dX5_stop_17 rfl fk_X5_44 hc1 (by decide) (by decide) ?_
    refine sm_memI hI4 ?_
    refine sm_aload_n (q := 21) dX5_stop_20 rfl rfl 0 rfl ?_
    refine sm_iconst (v := 4) (q := 22) dX5_stop_21 rfl (by decide) ?_
    obtain ⟨I5, hI5, h⟩ := sm_lt_e h
    refine sm_putI (q := 25) dX5_stop_22 rfl fk_X5_54 hc1 (by decide) (by decide) ?_
    refine sm_memI hI5 ?_
    obtain rfl := Option.some.inj h
    exact sm_vret dX5_stop_25 rfl
  · refine sm_if_ne (tgt := 20) (q := 7) dX5_stop_4 (by decide) rfl (fun _ => ?_) (fun he => absurd he hb2)
    refine sm_aload_n (q := 21) dX5_stop_20 rfl rfl 0 rfl ?_
    refine sm_iconst (v := 4) (q := 22) dX5_stop_21 rfl (by decide) ?_
    obtain ⟨I6, hI6, h⟩ := sm_lt_e h
    refine sm_putI (q := 25) dX5_stop_22 rfl fk_X5_54 hc1 (by decide) (by decide) ?_
    refine sm_memI hI6 ?_
    obtain rfl := Option.some.inj h
    exact sm_vret dX5_stop_25 rfl
theorem e_X5_stop {l : Launch} {N : Nat} {R : Nat → Nat → Nat} {a0 : Nat} {a1 : Int32} {I : (Nat → Nat → Int32)} {y : (Unit × (Nat → Nat → Int32))} (h : f_X5_stop N R a0 a1 I = some y) : sm_E l 0 mX5_stop [.inr (.inl a0), .inl a1] (I, R) (.inl none) (y.2, R) :=
  sm_meth (by decide) (Nat.le_of_ble_eq_true rfl) (w_X5_stop N R a0 a1 I y h)
def f_X5_readNumber (N : Nat) (R : Nat → Nat → Nat) : Nat → Int32 → Int32 → (Nat → Nat → Int32) → Option (Int32 × (Nat → Nat → Int32)) := fun a0 a1 a2 I =>
  sm_gd (sm_kd a0 = (5, 11)) <|
  if (I a0 3) = (1 : Int32) then (
    if (4 : Int32) < ((I a0 5) - (I a0 4)) then (
      (f_X5_stop N R a0 (2 : Int32) I).bind fun p4 =>
      some ((0 : Int32), p4.2))
    else (
      if (I a0 6) < a1 then (
        (f_X5_stop N R a0 (2 : Int32) I).bind fun p6 =>
        some ((0 : Int32), p6.2))
      else (
        if (I a0 6) ≤ a2 then (
          (f_X5_advance N R a0 I).bind fun p8 =>
          some ((I a0 6), p8.2))
        else (
          (f_X5_stop N R a0 (2 : Int32) I).bind fun p9 =>
          some ((0 : Int32), p9.2)))))
  else (
    (f_X5_stop N R a0 (1 : Int32) I).bind fun p10 =>
    some ((0 : Int32), p10.2))
set_option maxHeartbeats 4000000 in
set_option maxRecDepth 100000 in
theorem w_X5_readNumber {l : Launch} (N : Nat) (R : Nat → Nat → Nat) : ∀ (a0 : Nat) (a1 : Int32) (a2 : Int32) (I : (Nat → Nat → Int32)) (y : (Int32 × (Nat → Nat → Int32))), f_X5_readNumber N R a0 a1 a2 I = some y → sm_W l 1 mX5_readNumber 0 [(0, .inr (.inl a0)), (1, .inl a1), (2, .inl a2)] [] (I, R) (.inl (some (.inl y.1))) (y.2, R) := by
  intro a0 a1 a2 I y h
  unfold f_X5_readNumber at h
  refine sm_aload_n (q := 1) dX5_readNumber_0 rfl rfl 0 rfl ?_
  obtain ⟨hc1, h⟩ := sm_gd_e h
  refine sm_getI (q := 4) dX5_readNumber_1 rfl fk_X5_54 hc1 (by decide) (by decide) ?_
  refine sm_iconst (v := 1) (q := 5) dX5_readNumber_4 rfl (by decide) ?_
  rcases sm_if_e h with ⟨hb2, h⟩ | ⟨hb2, h⟩
  · refine sm_icmp_eq (tgt := 15) (q := 8) dX5_readNumber_5 (by decide) rfl (fun _ => ?_) (fun hn => absurd hb2 hn)
    refine sm_aload_n (q := 16) dX5_readNumber_15 rfl rfl 0 rfl ?_
    refine sm_getI (q := 19) dX5_readNumber_16 rfl fk_X5_38 hc1 (by decide) (by decide) ?_
    refine sm_aload_n (q := 20) dX5_readNumber_19 rfl rfl 0 rfl ?_
    refine sm_getI (q := 23) dX5_readNumber_20 rfl fk_X5_137 hc1 (by decide) (by decide) ?_
    refine sm_isub (q := 24) dX5_readNumber_23 rfl ?_
    refine sm_iconst (v := 4) (q := 25) dX5_readNumber_24 rfl (by decide) ?_
    rcases sm_if_e h with ⟨hb3, h⟩ | ⟨hb3, h⟩
    · refine sm_icmp_gt (tgt := 44) (q := 28) dX5_readNumber_25 (by decide) rfl (fun _ => ?_) (fun hn => absurd hb3 hn)
      refine sm_aload_n (q := 45) dX5_readNumber_44 rfl rfl 0 rfl ?_
      refine sm_iconst (v := 2) (q := 46) dX5_readNumber_45 rfl (by decide) ?_
      obtain ⟨p4, hc_p4, h⟩ := sm_bd_e h
      refine sm_callVv (q := 49) (As := [.inl (2 : Int32)]) (S := []) (e_X5_stop hc_p4) mv_X5_88 hc1 rfl (by decide) (Nat.le_of_ble_eq_true rfl) dX5_readNumber_46 rfl ?_
      refine sm_iconst (v := 0) (q := 50) dX5_readNumber_49 rfl (by decide) ?_
      obtain rfl := Option.some.inj h
      exact sm_iret dX5_readNumber_50 rfl
    · refine sm_icmp_gt (tgt := 44) (q := 28) dX5_readNumber_25 (by decide) rfl (fun ht => absurd ht hb3) (fun _ => ?_)
      refine sm_aload_n (q := 29) dX5_readNumber_28 rfl rfl 0 rfl ?_
      refine sm_getI (q := 32) dX5_readNumber_29 rfl fk_X5_140 hc1 (by decide) (by decide) ?_
      refine sm_iload_n (q := 33) dX5_readNumber_32 rfl rfl 1 rfl ?_
      rcases sm_if_e h with ⟨hb5, h⟩ | ⟨hb5, h⟩
      · refine sm_icmp_lt (tgt := 44) (q := 36) dX5_readNumber_33 (by decide) rfl (fun _ => ?_) (fun hn => absurd hb5 hn)
        refine sm_aload_n (q := 45) dX5_readNumber_44 rfl rfl 0 rfl ?_
        refine sm_iconst (v := 2) (q := 46) dX5_readNumber_45 rfl (by decide) ?_
        obtain ⟨p6, hc_p6, h⟩ := sm_bd_e h
        refine sm_callVv (q := 49) (As := [.inl (2 : Int32)]) (S := []) (e_X5_stop hc_p6) mv_X5_88 hc1 rfl (by decide) (Nat.le_of_ble_eq_true rfl) dX5_readNumber_46 rfl ?_
        refine sm_iconst (v := 0) (q := 50) dX5_readNumber_49 rfl (by decide) ?_
        obtain rfl := Option.some.inj h
        exact sm_iret dX5_readNumber_50 rfl
      · refine sm_icmp_lt (tgt := 44) (q := 36) dX5_readNumber_33 (by decide) rfl (fun ht => absurd ht hb5) (fun _ => ?_)
        refine sm_aload_n (q := 37) dX5_readNumber_36 rfl rfl 0 rfl ?_
        refine sm_getI (q := 40) dX5_readNumber_37 rfl fk_X5_140 hc1 (by decide) (by decide) ?_
        refine sm_iload_n (q := 41) dX5_readNumber_40 rfl rfl 2 rfl ?_
        rcases sm_if_e h with ⟨hb7, h⟩ | ⟨hb7, h⟩
        · refine sm_icmp_le (tgt := 51) (q := 44) dX5_readNumber_41 (by decide) rfl (fun _ => ?_) (fun hn => absurd hb7 hn)
          refine sm_aload_n (q := 52) dX5_readNumber_51 rfl rfl 0 rfl ?_
          refine sm_getI (q := 55) dX5_readNumber_52 rfl fk_X5_140 hc1 (by decide) (by decide) ?_
          refine sm_istore_n (L' := [(3, .inl (I a0 6)), (0, .inr (.inl a0)), (1, .inl a1), (2, .inl a2)]) (q := 56) dX5_readNumber_55 rfl rfl (by decide) rfl ?_
          refine sm_aload_n (q := 57) dX5_readNumber_56 rfl rfl 1 rfl ?_
          obtain ⟨p8, hc_p8, h⟩ := sm_bd_e h
          refine sm_callVv (q := 60) (As := []) (S := []) (e_X5_advance hc_p8) mv_X5_51 hc1 rfl (by decide) (Nat.le_of_ble_eq_true rfl) dX5_readNumber_57 rfl ?_
          refine sm_iload_n (q := 61) dX5_readNumber_60 rfl rfl 0 rfl ?_
          obtain rfl := Option.some.inj h
          exact sm_iret dX5_readNumber_61 rfl
        · refine sm_icmp_le (tgt := 51) (q := 44) dX5_readNumber_41 (by decide) rfl (fun ht => absurd ht hb7) (fun _ => ?_)
          refine sm_aload_n (q := 45) dX5_readNumber_44 rfl rfl 0 rfl ?_
          refine sm_iconst (v := 2) (q := 46) dX5_readNumber_45 rfl (by decide) ?_
          obtain ⟨p9, hc_p9, h⟩ := sm_bd_e h
          refine sm_callVv (q := 49) (As := [.inl (2 : Int32)]) (S := []) (e_X5_stop hc_p9) mv_X5_88 hc1 rfl (by decide) (Nat.le_of_ble_eq_true rfl) dX5_readNumber_46 rfl ?_
          refine sm_iconst (v := 0) (q := 50) dX5_readNumber_49 rfl (by decide) ?_
          obtain rfl := Option.some.inj h
          exact sm_iret dX5_readNumber_50 rfl
  · refine sm_icmp_eq (tgt := 15) (q := 8) dX5_readNumber_5 (by decide) rfl (fun ht => absurd ht hb2) (fun _ => ?_)
    refine sm_aload_n (q := 9) dX5_readNumber_8 rfl rfl 0 rfl ?_
    refine sm_iconst (v := 1) (q := 10) dX5_readNumber_9 rfl (by decide) ?_
    obtain ⟨p10, hc_p10, h⟩ := sm_bd_e h
    refine sm_callVv (q := 13) (As := [.inl (1 : Int32)]) (S := []) (e_X5_stop hc_p10) mv_X5_88 hc1 rfl (by decide) (Nat.le_of_ble_eq_true rfl) dX5_readNumber_10 rfl ?_
    refine sm_iconst (v := 0) (q := 14) dX5_readNumber_13 rfl (by decide) ?_
    obtain rfl := Option.some.inj h
    exact sm_iret dX5_readNumber_14 rfl
theorem e_X5_readNumber {l : Launch} {N : Nat} {R : Nat → Nat → Nat} {a0 : Nat} {a1 : Int32} {a2 : Int32} {I : (Nat → Nat → Int32)} {y : (Int32 × (Nat → Nat → Int32))} (h : f_X5_readNumber N R a0 a1 a2 I = some y) : sm_E l 1 mX5_readNumber [.inr (.inl a0), .inl a1, .inl a2] (I, R) (.inl (some (.inl y.1))) (y.2, R) :=
  sm_meth (by decide) (Nat.le_of_ble_eq_true rfl) (w_X5_readNumber N R a0 a1 a2 I y h)
def f_X5_readBar_30 (N : Nat) (R : Nat → Nat → Nat) : Nat → Int32 → Int32 → (Nat → Nat → Int32) → Option (Unit × (Nat → Nat → Int32)) := fun a0 a1 a2 I =>
  sm_gd (sm_kd a0 = (5, 11)) <|
  (f_X5_readNumber N R a0 (1 : Int32) (99 : Int32) I).bind fun p2 =>
  if (8 : Int32) ≤ a2 then (
    some ((), p2.2))
  else (
    sm_gd (sm_kd (R a0 2) = (7, 9)) <|
    sm_gd ((sm_kd (R (R a0 2) 2)).1 = 13 ∧ ¬ (((a1 * (8 : Int32)) + a2) < 0 ∨ (sm_kd (R (R a0 2) 2)).2 ≤ (((a1 * (8 : Int32)) + a2)).toNatClampNeg)) <|
    sm_lt (sm_up p2.2 (R (R a0 2) 2) (sm_up (p2.2 (R (R a0 2) 2)) (((a1 * (8 : Int32)) + a2)).toNatClampNeg p2.1)) fun I6 =>
    sm_gd ((sm_kd (R (R a0 2) 0)).1 = 13 ∧ ¬ (a1 < 0 ∨ (sm_kd (R (R a0 2) 0)).2 ≤ (a1).toNatClampNeg)) <|
    sm_lt (sm_up I6 (R (R a0 2) 0) (sm_up (I6 (R (R a0 2) 0)) (a1).toNatClampNeg ((I6 (R (R a0 2) 0) (a1).toNatClampNeg) + (1 : Int32)))) fun I8 =>
    some ((), I8))
def f_X5_readBar (N : Nat) (R : Nat → Nat → Nat) : Nat → Int32 → (Nat → Nat → Int32) → Option (Unit × (Nat → Nat → Int32)) := fun a0 a1 I =>
  sm_gd (sm_kd a0 = (5, 11)) <|
  sm_gd (sm_kd (R a0 2) = (7, 9)) <|
  sm_gd ((sm_kd (R (R a0 2) 0)).1 = 13 ∧ ¬ (a1 < 0 ∨ (sm_kd (R (R a0 2) 0)).2 ≤ (a1).toNatClampNeg)) <|
  if (I a0 3) = (1 : Int32) then (
    if (I (R (R a0 2) 0) (a1).toNatClampNeg) < (8 : Int32) then (
      f_X5_readBar_30 N R a0 a1 (I (R (R a0 2) 0) (a1).toNatClampNeg) I)
    else (
      (f_X5_stop N R a0 (2 : Int32) I).bind fun p6 =>
      some ((), p6.2)))
  else (
    f_X5_readBar_30 N R a0 a1 (I (R (R a0 2) 0) (a1).toNatClampNeg) I)
set_option maxHeartbeats 4000000 in
set_option maxRecDepth 100000 in
theorem w_X5_readBar_30 {l : Launch} (N : Nat) (R : Nat → Nat → Nat) : ∀ (a0 : Nat) (a1 : Int32) (a2 : Int32) (I : (Nat → Nat → Int32)) (y : (Unit × (Nat → Nat → Int32))), f_X5_readBar_30 N R a0 a1 a2 I = some y → sm_W l 2 mX5_readBar 30 [(0, .inr (.inl a0)), (1, .inl a1), (2, .inl a2)] [] (I, R) (.inl none) (y.2, R) := by
  intro a0 a1 a2 I y h
  unfold f_X5_readBar_30 at h
  refine sm_aload_n (q := 31) dX5_readBar_30 rfl rfl 0 rfl ?_
  refine sm_iconst (v := 1) (q := 32) dX5_readBar_31 rfl (by decide) ?_
  refine sm_bipush (v := 99) (q := 34) dX5_readBar_32 rfl (by decide) ?_
  obtain ⟨hc1, h⟩ := sm_gd_e h
  obtain ⟨p2, hc_p2, h⟩ := sm_bd_e h
  refine sm_callVi (q := 37) (As := [.inl (1 : Int32), .inl (99 : Int32)]) (S := []) (e_X5_readNumber hc_p2) mv_X5_108 hc1 rfl (by decide) (Nat.le_of_ble_eq_true rfl) dX5_readBar_34 rfl ?_
  refine sm_istore_n (L' := [(3, .inl p2.1), (0, .inr (.inl a0)), (1, .inl a1), (2, .inl a2)]) (q := 38) dX5_readBar_37 rfl rfl (by decide) rfl ?_
  refine sm_iload_n (q := 39) dX5_readBar_38 rfl rfl 3 rfl ?_
  refine sm_bipush (v := 8) (q := 41) dX5_readBar_39 rfl (by decide) ?_
  rcases sm_if_e h with ⟨hb3, h⟩ | ⟨hb3, h⟩
  · refine sm_icmp_ge (tgt := 72) (q := 44) dX5_readBar_41 (by decide) rfl (fun _ => ?_) (fun hn => absurd hb3 hn)
    obtain rfl := Option.some.inj h
    exact sm_vret dX5_readBar_72 rfl
  · refine sm_icmp_ge (tgt := 72) (q := 44) dX5_readBar_41 (by decide) rfl (fun ht => absurd ht hb3) (fun _ => ?_)
    refine sm_aload_n (q := 45) dX5_readBar_44 rfl rfl 1 rfl ?_
    refine sm_getR (r := R a0 2) (q := 48) dX5_readBar_45 rfl fk_X5_18 hc1 (by decide) (by decide) rfl ?_
    obtain ⟨hc4, h⟩ := sm_gd_e h
    refine sm_getR (r := R (R a0 2) 2) (q := 51) dX5_readBar_48 rfl fk_X5_111 hc4 (by decide) (by decide) rfl ?_
    refine sm_iload_n (q := 52) dX5_readBar_51 rfl rfl 2 rfl ?_
    refine sm_bipush (v := 8) (q := 54) dX5_readBar_52 rfl (by decide) ?_
    refine sm_imul (q := 55) dX5_readBar_54 rfl ?_
    refine sm_iload_n (q := 56) dX5_readBar_55 rfl rfl 3 rfl ?_
    refine sm_iadd (q := 57) dX5_readBar_56 rfl ?_
    refine sm_iload_n (q := 58) dX5_readBar_57 rfl rfl 0 rfl ?_
    obtain ⟨hc5, h⟩ := sm_gd_e h
    obtain ⟨I6, hI6, h⟩ := sm_lt_e h
    refine sm_iast (n := (sm_kd (R (R a0 2) 2)).2) (q := 59) dX5_readBar_58 rfl (Prod.ext hc5.1 rfl) hc5.2 ?_
    refine sm_memI hI6 ?_
    refine sm_aload_n (q := 60) dX5_readBar_59 rfl rfl 1 rfl ?_
    refine sm_getR (r := R a0 2) (q := 63) dX5_readBar_60 rfl fk_X5_18 hc1 (by decide) (by decide) rfl ?_
    refine sm_getR (r := R (R a0 2) 0) (q := 66) dX5_readBar_63 rfl fk_X5_102 hc4 (by decide) (by decide) rfl ?_
    refine sm_iload_n (q := 67) dX5_readBar_66 rfl rfl 2 rfl ?_
    refine sm_dup2 (q := 68) dX5_readBar_67 rfl rfl rfl ?_
    obtain ⟨hc7, h⟩ := sm_gd_e h
    refine sm_iald (n := (sm_kd (R (R a0 2) 0)).2) (q := 69) dX5_readBar_68 rfl (Prod.ext hc7.1 rfl) hc7.2 ?_
    refine sm_iconst (v := 1) (q := 70) dX5_readBar_69 rfl (by decide) ?_
    refine sm_iadd (q := 71) dX5_readBar_70 rfl ?_
    obtain ⟨I8, hI8, h⟩ := sm_lt_e h
    refine sm_iast (n := (sm_kd (R (R a0 2) 0)).2) (q := 72) dX5_readBar_71 rfl (Prod.ext hc7.1 rfl) hc7.2 ?_
    refine sm_memI hI8 ?_
    obtain rfl := Option.some.inj h
    exact sm_vret dX5_readBar_72 rfl
set_option maxHeartbeats 4000000 in
set_option maxRecDepth 100000 in
theorem w_X5_readBar {l : Launch} (N : Nat) (R : Nat → Nat → Nat) : ∀ (a0 : Nat) (a1 : Int32) (I : (Nat → Nat → Int32)) (y : (Unit × (Nat → Nat → Int32))), f_X5_readBar N R a0 a1 I = some y → sm_W l 2 mX5_readBar 0 [(0, .inr (.inl a0)), (1, .inl a1)] [] (I, R) (.inl none) (y.2, R) := by
  intro a0 a1 I y h
  unfold f_X5_readBar at h
  refine sm_aload_n (q := 1) dX5_readBar_0 rfl rfl 0 rfl ?_
  obtain ⟨hc1, h⟩ := sm_gd_e h
  refine sm_getR (r := R a0 2) (q := 4) dX5_readBar_1 rfl fk_X5_18 hc1 (by decide) (by decide) rfl ?_
  obtain ⟨hc2, h⟩ := sm_gd_e h
  refine sm_getR (r := R (R a0 2) 0) (q := 7) dX5_readBar_4 rfl fk_X5_102 hc2 (by decide) (by decide) rfl ?_
  refine sm_iload_n (q := 8) dX5_readBar_7 rfl rfl 1 rfl ?_
  obtain ⟨hc3, h⟩ := sm_gd_e h
  refine sm_iald (n := (sm_kd (R (R a0 2) 0)).2) (q := 9) dX5_readBar_8 rfl (Prod.ext hc3.1 rfl) hc3.2 ?_
  refine sm_istore_n (L' := [(2, .inl (I (R (R a0 2) 0) (a1).toNatClampNeg)), (0, .inr (.inl a0)), (1, .inl a1)]) (q := 10) dX5_readBar_9 rfl rfl (by decide) rfl ?_
  refine sm_aload_n (q := 11) dX5_readBar_10 rfl rfl 1 rfl ?_
  refine sm_getI (q := 14) dX5_readBar_11 rfl fk_X5_54 hc1 (by decide) (by decide) ?_
  refine sm_iconst (v := 1) (q := 15) dX5_readBar_14 rfl (by decide) ?_
  rcases sm_if_e h with ⟨hb4, h⟩ | ⟨hb4, h⟩
  · refine sm_icmp_ne (tgt := 30) (q := 18) dX5_readBar_15 (by decide) rfl (fun hn => absurd hb4 hn) (fun _ => ?_)
    refine sm_iload_n (q := 19) dX5_readBar_18 rfl rfl 0 rfl ?_
    refine sm_bipush (v := 8) (q := 21) dX5_readBar_19 rfl (by decide) ?_
    rcases sm_if_e h with ⟨hb5, h⟩ | ⟨hb5, h⟩
    · refine sm_icmp_lt (tgt := 30) (q := 24) dX5_readBar_21 (by decide) rfl (fun _ => ?_) (fun hn => absurd hb5 hn)
      refine sm_pick [1, 2, 0] rfl ?_
      exact w_X5_readBar_30 N R _ _ _ _ _ h
    · refine sm_icmp_lt (tgt := 30) (q := 24) dX5_readBar_21 (by decide) rfl (fun ht => absurd ht hb5) (fun _ => ?_)
      refine sm_aload_n (q := 25) dX5_readBar_24 rfl rfl 1 rfl ?_
      refine sm_iconst (v := 2) (q := 26) dX5_readBar_25 rfl (by decide) ?_
      obtain ⟨p6, hc_p6, h⟩ := sm_bd_e h
      refine sm_callVv (q := 29) (As := [.inl (2 : Int32)]) (S := []) (e_X5_stop hc_p6) mv_X5_88 hc1 rfl (by decide) (Nat.le_of_ble_eq_true rfl) dX5_readBar_26 rfl ?_
      obtain rfl := Option.some.inj h
      exact sm_vret dX5_readBar_29 rfl
  · refine sm_icmp_ne (tgt := 30) (q := 18) dX5_readBar_15 (by decide) rfl (fun _ => ?_) (fun he => absurd he hb4)
    refine sm_pick [1, 2, 0] rfl ?_
    exact w_X5_readBar_30 N R _ _ _ _ _ h
theorem e_X5_readBar {l : Launch} {N : Nat} {R : Nat → Nat → Nat} {a0 : Nat} {a1 : Int32} {I : (Nat → Nat → Int32)} {y : (Unit × (Nat → Nat → Int32))} (h : f_X5_readBar N R a0 a1 I = some y) : sm_E l 2 mX5_readBar [.inr (.inl a0), .inl a1] (I, R) (.inl none) (y.2, R) :=
  sm_meth (by decide) (Nat.le_of_ble_eq_true rfl) (w_X5_readBar N R a0 a1 I y h)
def f_X5_readPiece_64 (N : Nat) (R : Nat → Nat → Nat) : Nat → Nat → Int32 → Int32 → (Nat → Nat → Int32) → Option (Unit × (Nat → Nat → Int32))
  | 0, _, _, _, _ => none
  | n + 1, a0, a1, a2, I =>
    if (8 : Int32) < a2 then (
      sm_gd (sm_kd a0 = (5, 11)) <|
      sm_gd (sm_kd (R a0 2) = (7, 9)) <|
      sm_lt (sm_up I (R a0 2) (sm_up (I (R a0 2)) 3 ((I (R a0 2) 3) + (1 : Int32)))) fun I4 =>
      some ((), I4))
    else (
      sm_gd (sm_kd a0 = (5, 11)) <|
      if (I a0 3) = (1 : Int32) then (
        (f_X5_readBar N R a0 a1 I).bind fun p7 =>
        f_X5_readPiece_64 N R n a0 a1 (a2 + 1) p7.2)
      else (
        sm_gd (sm_kd (R a0 2) = (7, 9)) <|
        sm_lt (sm_up I (R a0 2) (sm_up (I (R a0 2)) 3 ((I (R a0 2) 3) + (1 : Int32)))) fun I9 =>
        some ((), I9)))
def f_X5_readPiece_42 (N : Nat) (R : Nat → Nat → Nat) : Nat → Int32 → Nat → Int32 → Int32 → (Nat → Nat → Int32) → Option (Unit × (Nat → Nat → Int32)) := fun a0 a1 b0 b1 b2 I =>
  sm_gd ((sm_kd b0).1 = 13 ∧ ¬ (b1 < 0 ∨ (sm_kd b0).2 ≤ (b1).toNatClampNeg)) <|
  sm_lt (sm_up I b0 (sm_up (I b0) (b1).toNatClampNeg b2)) fun I2 =>
  sm_gd (sm_kd a0 = (5, 11)) <|
  sm_gd (sm_kd (R a0 2) = (7, 9)) <|
  sm_gd ((sm_kd (R (R a0 2) 0)).1 = 13 ∧ ¬ (a1 < 0 ∨ (sm_kd (R (R a0 2) 0)).2 ≤ (a1).toNatClampNeg)) <|
  sm_lt (sm_up I2 (R (R a0 2) 0) (sm_up (I2 (R (R a0 2) 0)) (a1).toNatClampNeg (0 : Int32))) fun I6 =>
  (f_X5_advance N R a0 I6).bind fun p7 =>
  (f_X5_readBar N R a0 a1 p7.2).bind fun p8 =>
  f_X5_readPiece_64 N R N a0 a1 (1 : Int32) p8.2
def f_X5_readPiece (N : Nat) (R : Nat → Nat → Nat) : Nat → (Nat → Nat → Int32) → Option (Unit × (Nat → Nat → Int32)) := fun a0 I =>
  sm_gd (sm_kd a0 = (5, 11)) <|
  sm_gd (sm_kd (R a0 2) = (7, 9)) <|
  if (I (R a0 2) 3) < (6 : Int32) then (
    (f_X5_isWord N R a0 (1000 + 2) I).bind fun p4 =>
    if p4.1 = 0 then (
      f_X5_readPiece_42 N R a0 (I (R a0 2) 3) (R (R a0 2) 1) (I (R a0 2) 3) (0 : Int32) p4.2)
    else (
      f_X5_readPiece_42 N R a0 (I (R a0 2) 3) (R (R a0 2) 1) (I (R a0 2) 3) (1 : Int32) p4.2))
  else (
    (f_X5_stop N R a0 (2 : Int32) I).bind fun p6 =>
    some ((), p6.2))
set_option maxHeartbeats 4000000 in
set_option maxRecDepth 100000 in
theorem w_X5_readPiece_64 {l : Launch} (N : Nat) (R : Nat → Nat → Nat) : ∀ (n : Nat) (a0 : Nat) (a1 : Int32) (a2 : Int32) (I : (Nat → Nat → Int32)) (y : (Unit × (Nat → Nat → Int32))), f_X5_readPiece_64 N R n a0 a1 a2 I = some y → sm_W l 5 mX5_readPiece 64 [(0, .inr (.inl a0)), (1, .inl a1), (2, .inl a2)] [] (I, R) (.inl none) (y.2, R) := by
  intro n
  induction n with
  | zero => intro a0 a1 a2 I y h; cases h
  | succ n ih =>
    intro a0 a1 a2 I y h
    rw [f_X5_readPiece_64] at h
    refine sm_iload_n (q := 65) dX5_readPiece_64 rfl rfl 2 rfl ?_
    refine sm_bipush (v := 8) (q := 67) dX5_readPiece_65 rfl (by decide) ?_
    rcases sm_if_e h with ⟨hb1, h⟩ | ⟨hb1, h⟩
    · refine sm_icmp_gt (tgt := 89) (q := 70) dX5_readPiece_67 (by decide) rfl (fun _ => ?_) (fun hn => absurd hb1 hn)
      refine sm_aload_n (q := 90) dX5_readPiece_89 rfl rfl 0 rfl ?_
      obtain ⟨hc2, h⟩ := sm_gd_e h
      refine sm_getR (r := R a0 2) (q := 93) dX5_readPiece_90 rfl fk_X5_18 hc2 (by decide) (by decide) rfl ?_
      refine sm_dup (q := 94) dX5_readPiece_93 rfl rfl ?_
      obtain ⟨hc3, h⟩ := sm_gd_e h
      refine sm_getI (q := 97) dX5_readPiece_94 rfl fk_X5_96 hc3 (by decide) (by decide) ?_
      refine sm_iconst (v := 1) (q := 98) dX5_readPiece_97 rfl (by decide) ?_
      refine sm_iadd (q := 99) dX5_readPiece_98 rfl ?_
      obtain ⟨I4, hI4, h⟩ := sm_lt_e h
      refine sm_putI (q := 102) dX5_readPiece_99 rfl fk_X5_96 hc3 (by decide) (by decide) ?_
      refine sm_memI hI4 ?_
      obtain rfl := Option.some.inj h
      exact sm_vret dX5_readPiece_102 rfl
    · refine sm_icmp_gt (tgt := 89) (q := 70) dX5_readPiece_67 (by decide) rfl (fun ht => absurd ht hb1) (fun _ => ?_)
      refine sm_aload_n (q := 71) dX5_readPiece_70 rfl rfl 0 rfl ?_
      obtain ⟨hc5, h⟩ := sm_gd_e h
      refine sm_getI (q := 74) dX5_readPiece_71 rfl fk_X5_54 hc5 (by decide) (by decide) ?_
      refine sm_iconst (v := 1) (q := 75) dX5_readPiece_74 rfl (by decide) ?_
      rcases sm_if_e h with ⟨hb6, h⟩ | ⟨hb6, h⟩
      · refine sm_icmp_ne (tgt := 89) (q := 78) dX5_readPiece_75 (by decide) rfl (fun hn => absurd hb6 hn) (fun _ => ?_)
        refine sm_aload_n (q := 79) dX5_readPiece_78 rfl rfl 0 rfl ?_
        refine sm_iload_n (q := 80) dX5_readPiece_79 rfl rfl 1 rfl ?_
        obtain ⟨p7, hc_p7, h⟩ := sm_bd_e h
        refine sm_callVv (q := 83) (As := [.inl a1]) (S := []) (e_X5_readBar hc_p7) mv_X5_105 hc5 rfl (by decide) (Nat.le_of_ble_eq_true rfl) dX5_readPiece_80 rfl ?_
        refine sm_iinc (v := (a2 + 1)) (L' := [(2, .inl (a2 + 1)), (0, .inr (.inl a0)), (1, .inl a1)]) (q := 86) dX5_readPiece_83 rfl 2 rfl rfl (by decide) rfl ?_
        refine sm_goto (q := 64) dX5_readPiece_86 (by decide) ?_
        refine sm_pick [1, 2, 0] rfl ?_
        exact ih _ _ _ _ _ h
      · refine sm_icmp_ne (tgt := 89) (q := 78) dX5_readPiece_75 (by decide) rfl (fun _ => ?_) (fun he => absurd he hb6)
        refine sm_aload_n (q := 90) dX5_readPiece_89 rfl rfl 0 rfl ?_
        refine sm_getR (r := R a0 2) (q := 93) dX5_readPiece_90 rfl fk_X5_18 hc5 (by decide) (by decide) rfl ?_
        refine sm_dup (q := 94) dX5_readPiece_93 rfl rfl ?_
        obtain ⟨hc8, h⟩ := sm_gd_e h
        refine sm_getI (q := 97) dX5_readPiece_94 rfl fk_X5_96 hc8 (by decide) (by decide) ?_
        refine sm_iconst (v := 1) (q := 98) dX5_readPiece_97 rfl (by decide) ?_
        refine sm_iadd (q := 99) dX5_readPiece_98 rfl ?_
        obtain ⟨I9, hI9, h⟩ := sm_lt_e h
        refine sm_putI (q := 102) dX5_readPiece_99 rfl fk_X5_96 hc8 (by decide) (by decide) ?_
        refine sm_memI hI9 ?_
        obtain rfl := Option.some.inj h
        exact sm_vret dX5_readPiece_102 rfl
set_option maxHeartbeats 4000000 in
set_option maxRecDepth 100000 in
theorem w_X5_readPiece_42 {l : Launch} (N : Nat) (R : Nat → Nat → Nat) : ∀ (a0 : Nat) (a1 : Int32) (b0 : Nat) (b1 : Int32) (b2 : Int32) (I : (Nat → Nat → Int32)) (y : (Unit × (Nat → Nat → Int32))), f_X5_readPiece_42 N R a0 a1 b0 b1 b2 I = some y → sm_W l 5 mX5_readPiece 42 [(0, .inr (.inl a0)), (1, .inl a1)] [.inl b2, .inl b1, .inr (.inl b0)] (I, R) (.inl none) (y.2, R) := by
  intro a0 a1 b0 b1 b2 I y h
  unfold f_X5_readPiece_42 at h
  obtain ⟨hc1, h⟩ := sm_gd_e h
  obtain ⟨I2, hI2, h⟩ := sm_lt_e h
  refine sm_iast (n := (sm_kd b0).2) (q := 43) dX5_readPiece_42 rfl (Prod.ext hc1.1 rfl) hc1.2 ?_
  refine sm_memI hI2 ?_
  refine sm_aload_n (q := 44) dX5_readPiece_43 rfl rfl 0 rfl ?_
  obtain ⟨hc3, h⟩ := sm_gd_e h
  refine sm_getR (r := R a0 2) (q := 47) dX5_readPiece_44 rfl fk_X5_18 hc3 (by decide) (by decide) rfl ?_
  obtain ⟨hc4, h⟩ := sm_gd_e h
  refine sm_getR (r := R (R a0 2) 0) (q := 50) dX5_readPiece_47 rfl fk_X5_102 hc4 (by decide) (by decide) rfl ?_
  refine sm_iload_n (q := 51) dX5_readPiece_50 rfl rfl 1 rfl ?_
  refine sm_iconst (v := 0) (q := 52) dX5_readPiece_51 rfl (by decide) ?_
  obtain ⟨hc5, h⟩ := sm_gd_e h
  obtain ⟨I6, hI6, h⟩ := sm_lt_e h
  refine sm_iast (n := (sm_kd (R (R a0 2) 0)).2) (q := 53) dX5_readPiece_52 rfl (Prod.ext hc5.1 rfl) hc5.2 ?_
  refine sm_memI hI6 ?_
  refine sm_aload_n (q := 54) dX5_readPiece_53 rfl rfl 0 rfl ?_
  obtain ⟨p7, hc_p7, h⟩ := sm_bd_e h
  refine sm_callVv (q := 57) (As := []) (S := []) (e_X5_advance hc_p7) mv_X5_51 hc3 rfl (by decide) (Nat.le_of_ble_eq_true rfl) dX5_readPiece_54 rfl ?_
  refine sm_aload_n (q := 58) dX5_readPiece_57 rfl rfl 0 rfl ?_
  refine sm_iload_n (q := 59) dX5_readPiece_58 rfl rfl 1 rfl ?_
  obtain ⟨p8, hc_p8, h⟩ := sm_bd_e h
  refine sm_callVv (q := 62) (As := [.inl a1]) (S := []) (e_X5_readBar hc_p8) mv_X5_105 hc3 rfl (by decide) (Nat.le_of_ble_eq_true rfl) dX5_readPiece_59 rfl ?_
  refine sm_iconst (v := 1) (q := 63) dX5_readPiece_62 rfl (by decide) ?_
  refine sm_istore_n (L' := [(2, .inl (1 : Int32)), (0, .inr (.inl a0)), (1, .inl a1)]) (q := 64) dX5_readPiece_63 rfl rfl (by decide) rfl ?_
  refine sm_pick [1, 2, 0] rfl ?_
  exact w_X5_readPiece_64 N R N _ _ _ _ _ h
set_option maxHeartbeats 4000000 in
set_option maxRecDepth 100000 in
theorem w_X5_readPiece {l : Launch} (N : Nat) (R : Nat → Nat → Nat) : ∀ (a0 : Nat) (I : (Nat → Nat → Int32)) (y : (Unit × (Nat → Nat → Int32))), f_X5_readPiece N R a0 I = some y → sm_W l 5 mX5_readPiece 0 [(0, .inr (.inl a0))] [] (I, R) (.inl none) (y.2, R) := by
  intro a0 I y h
  unfold f_X5_readPiece at h
  refine sm_aload_n (q := 1) dX5_readPiece_0 rfl rfl 0 rfl ?_
  obtain ⟨hc1, h⟩ := sm_gd_e h
  refine sm_getR (r := R a0 2) (q := 4) dX5_readPiece_1 rfl fk_X5_18 hc1 (by decide) (by decide) rfl ?_
  obtain ⟨hc2, h⟩ := sm_gd_e h
  refine sm_getI (q := 7) dX5_readPiece_4 rfl fk_X5_96 hc2 (by decide) (by decide) ?_
  refine sm_istore_n (L' := [(1, .inl (I (R a0 2) 3)), (0, .inr (.inl a0))]) (q := 8) dX5_readPiece_7 rfl rfl (by decide) rfl ?_
  refine sm_iload_n (q := 9) dX5_readPiece_8 rfl rfl 0 rfl ?_
  refine sm_bipush (v := 6) (q := 11) dX5_readPiece_9 rfl (by decide) ?_
  rcases sm_if_e h with ⟨hb3, h⟩ | ⟨hb3, h⟩
  · refine sm_icmp_lt (tgt := 20) (q := 14) dX5_readPiece_11 (by decide) rfl (fun _ => ?_) (fun hn => absurd hb3 hn)
    refine sm_aload_n (q := 21) dX5_readPiece_20 rfl rfl 1 rfl ?_
    refine sm_getR (r := R a0 2) (q := 24) dX5_readPiece_21 rfl fk_X5_18 hc1 (by decide) (by decide) rfl ?_
    refine sm_getR (r := R (R a0 2) 1) (q := 27) dX5_readPiece_24 rfl fk_X5_99 hc2 (by decide) (by decide) rfl ?_
    refine sm_iload_n (q := 28) dX5_readPiece_27 rfl rfl 0 rfl ?_
    refine sm_aload_n (q := 29) dX5_readPiece_28 rfl rfl 1 rfl ?_
    refine sm_ldcS (tx := "study") (q := 31) dX5_readPiece_29 rfl (List.mem_of_getElem? (i := 2) rfl) ?_
    obtain ⟨p4, hc_p4, h⟩ := sm_bd_e h
    refine sm_callVi (q := 34) (As := [.inr (.inl (1000 + 2))]) (S := [.inl (I (R a0 2) 3), .inr (.inl (R (R a0 2) 1))]) (e_X5_isWord hc_p4) mv_X5_62 hc1 rfl (by decide) (Nat.le_of_ble_eq_true rfl) dX5_readPiece_31 rfl ?_
    rcases sm_if_e h with ⟨hb5, h⟩ | ⟨hb5, h⟩
    · refine sm_if_eq (tgt := 41) (q := 37) dX5_readPiece_34 (by decide) rfl (fun _ => ?_) (fun hn => absurd hb5 hn)
      refine sm_iconst (v := 0) (q := 42) dX5_readPiece_41 rfl (by decide) ?_
      refine sm_pick [1, 0] rfl ?_
      exact w_X5_readPiece_42 N R _ _ _ _ _ _ _ h
    · refine sm_if_eq (tgt := 41) (q := 37) dX5_readPiece_34 (by decide) rfl (fun ht => absurd ht hb5) (fun _ => ?_)
      refine sm_iconst (v := 1) (q := 38) dX5_readPiece_37 rfl (by decide) ?_
      refine sm_goto (q := 42) dX5_readPiece_38 (by decide) ?_
      refine sm_pick [1, 0] rfl ?_
      exact w_X5_readPiece_42 N R _ _ _ _ _ _ _ h
  · refine sm_icmp_lt (tgt := 20) (q := 14) dX5_readPiece_11 (by decide) rfl (fun ht => absurd ht hb3) (fun _ => ?_)
    refine sm_aload_n (q := 15) dX5_readPiece_14 rfl rfl 1 rfl ?_
    refine sm_iconst (v := 2) (q := 16) dX5_readPiece_15 rfl (by decide) ?_
    obtain ⟨p6, hc_p6, h⟩ := sm_bd_e h
    refine sm_callVv (q := 19) (As := [.inl (2 : Int32)]) (S := []) (e_X5_stop hc_p6) mv_X5_88 hc1 rfl (by decide) (Nat.le_of_ble_eq_true rfl) dX5_readPiece_16 rfl ?_
    obtain rfl := Option.some.inj h
    exact sm_vret dX5_readPiece_19 rfl
theorem e_X5_readPiece {l : Launch} {N : Nat} {R : Nat → Nat → Nat} {a0 : Nat} {I : (Nat → Nat → Int32)} {y : (Unit × (Nat → Nat → Int32))} (h : f_X5_readPiece N R a0 I = some y) : sm_E l 5 mX5_readPiece [.inr (.inl a0)] (I, R) (.inl none) (y.2, R) :=
  sm_meth (by decide) (Nat.le_of_ble_eq_true rfl) (w_X5_readPiece N R a0 I y h)
def f_X5_readPupil_120 (N : Nat) (R : Nat → Nat → Nat) : Nat → Nat → (Nat → Nat → Int32) → Option (Unit × (Nat → Nat → Int32)) := fun a0 a2 I =>
  sm_gd (sm_kd a0 = (5, 11)) <|
  (f_X5_readNumber N R a0 (0 : Int32) (6 : Int32) I).bind fun p2 =>
  sm_gd (sm_kd a2 = (4, 6)) <|
  sm_lt (sm_up p2.2 a2 (sm_up (p2.2 a2) 2 p2.1)) fun I4 =>
  sm_lt (sm_up I4 a2 (sm_up (I4 a2) 3 (0 : Int32))) fun I5 =>
  sm_lt (sm_up I5 a2 (sm_up (I5 a2) 4 (0 : Int32))) fun I6 =>
  sm_gd (sm_kd (R a0 2) = (7, 9)) <|
  sm_gd (sm_kd (R (R a0 2) 5) = (10, 4)) <|
  sm_lt (sm_up I6 (R (R a0 2) 5) (sm_up (I6 (R (R a0 2) 5)) 1 ((I6 (R (R a0 2) 5) 1) + (1 : Int32)))) fun I9 =>
  some ((), I9)
def f_X5_readPupil_51 (N : Nat) (R : Nat → Nat → Nat) : Nat → Nat → Nat → Int32 → (Nat → Nat → Int32) → Option (Unit × (Nat → Nat → Int32)) := fun a0 a2 b0 b1 I =>
  sm_gd (sm_kd b0 = (4, 6)) <|
  sm_lt (sm_up I b0 (sm_up (I b0) 5 b1)) fun I2 =>
  sm_gd (sm_kd a0 = (5, 11)) <|
  (f_X5_advance N R a0 I2).bind fun p4 =>
  (f_X5_readNumber N R a0 (0 : Int32) (99 : Int32) p4.2).bind fun p5 =>
  sm_gd (sm_kd a2 = (4, 6)) <|
  sm_lt (sm_up p5.2 a2 (sm_up (p5.2 a2) 0 p5.1)) fun I7 =>
  (f_X5_readNumber N R a0 (0 : Int32) (9 : Int32) I7).bind fun p8 =>
  sm_lt (sm_up p8.2 a2 (sm_up (p8.2 a2) 1 p8.1)) fun I9 =>
  if (I9 a0 3) = (1 : Int32) then (
    if (4 : Int32) < ((I9 a0 5) - (I9 a0 4)) then (
      f_X5_readPupil_120 N R a0 a2 I9)
    else (
      sm_gd (sm_kd (R a0 2) = (7, 9)) <|
      if (I9 a0 6) < (I9 (R a0 2) 3) then (
        f_X5_readPupil_120 N R a0 a2 I9)
      else (
        (f_X5_stop N R a0 (3 : Int32) I9).bind fun p14 =>
        f_X5_readPupil_120 N R a0 a2 p14.2)))
  else (
    f_X5_readPupil_120 N R a0 a2 I9)
def f_X5_readPupil (N : Nat) (R : Nat → Nat → Nat) : Nat → (Nat → Nat → Int32) → Option (Unit × (Nat → Nat → Int32)) := fun a0 I =>
  sm_gd (sm_kd a0 = (5, 11)) <|
  sm_gd (sm_kd (R a0 2) = (7, 9)) <|
  sm_gd (sm_kd (R (R a0 2) 5) = (10, 4)) <|
  if (I (R (R a0 2) 5) 1) < (7 : Int32) then (
    sm_gd ((sm_kd (R (R (R a0 2) 5) 0)).1 = 16 ∧ ¬ ((I (R (R a0 2) 5) 1) < 0 ∨ (sm_kd (R (R (R a0 2) 5) 0)).2 ≤ ((I (R (R a0 2) 5) 1)).toNatClampNeg)) <|
    (f_X5_isWord N R a0 (1000 + 4) I).bind fun p6 =>
    if p6.1 = 0 then (
      f_X5_readPupil_51 N R a0 (R (R (R (R a0 2) 5) 0) ((I (R (R a0 2) 5) 1)).toNatClampNeg) (R (R (R (R a0 2) 5) 0) ((I (R (R a0 2) 5) 1)).toNatClampNeg) (0 : Int32) p6.2)
    else (
      f_X5_readPupil_51 N R a0 (R (R (R (R a0 2) 5) 0) ((I (R (R a0 2) 5) 1)).toNatClampNeg) (R (R (R (R a0 2) 5) 0) ((I (R (R a0 2) 5) 1)).toNatClampNeg) (1 : Int32) p6.2))
  else (
    (f_X5_stop N R a0 (2 : Int32) I).bind fun p8 =>
    some ((), p8.2))
set_option maxHeartbeats 4000000 in
set_option maxRecDepth 100000 in
theorem w_X5_readPupil_120 {l : Launch} (N : Nat) (R : Nat → Nat → Nat) : ∀ (a0 : Nat) (a2 : Nat) (I : (Nat → Nat → Int32)) (y : (Unit × (Nat → Nat → Int32))), f_X5_readPupil_120 N R a0 a2 I = some y → sm_W l 5 mX5_readPupil 120 [(0, .inr (.inl a0)), (2, .inr (.inl a2))] [] (I, R) (.inl none) (y.2, R) := by
  intro a0 a2 I y h
  unfold f_X5_readPupil_120 at h
  refine sm_aload_n (q := 121) dX5_readPupil_120 rfl rfl 1 rfl ?_
  refine sm_aload_n (q := 122) dX5_readPupil_121 rfl rfl 0 rfl ?_
  refine sm_iconst (v := 0) (q := 123) dX5_readPupil_122 rfl (by decide) ?_
  refine sm_bipush (v := 6) (q := 125) dX5_readPupil_123 rfl (by decide) ?_
  obtain ⟨hc1, h⟩ := sm_gd_e h
  obtain ⟨p2, hc_p2, h⟩ := sm_bd_e h
  refine sm_callVi (q := 128) (As := [.inl (0 : Int32), .inl (6 : Int32)]) (S := [.inr (.inl a2)]) (e_X5_readNumber hc_p2) mv_X5_108 hc1 rfl (by decide) (Nat.le_of_ble_eq_true rfl) dX5_readPupil_125 rfl ?_
  obtain ⟨hc3, h⟩ := sm_gd_e h
  obtain ⟨I4, hI4, h⟩ := sm_lt_e h
  refine sm_putI (q := 131) dX5_readPupil_128 rfl fk_X5_143 hc3 (by decide) (by decide) ?_
  refine sm_memI hI4 ?_
  refine sm_aload_n (q := 132) dX5_readPupil_131 rfl rfl 1 rfl ?_
  refine sm_iconst (v := 0) (q := 133) dX5_readPupil_132 rfl (by decide) ?_
  obtain ⟨I5, hI5, h⟩ := sm_lt_e h
  refine sm_putI (q := 136) dX5_readPupil_133 rfl fk_X5_145 hc3 (by decide) (by decide) ?_
  refine sm_memI hI5 ?_
  refine sm_aload_n (q := 137) dX5_readPupil_136 rfl rfl 1 rfl ?_
  refine sm_iconst (v := 0) (q := 138) dX5_readPupil_137 rfl (by decide) ?_
  obtain ⟨I6, hI6, h⟩ := sm_lt_e h
  refine sm_putI (q := 141) dX5_readPupil_138 rfl fk_X5_147 hc3 (by decide) (by decide) ?_
  refine sm_memI hI6 ?_
  refine sm_aload_n (q := 142) dX5_readPupil_141 rfl rfl 0 rfl ?_
  refine sm_getR (r := R a0 2) (q := 145) dX5_readPupil_142 rfl fk_X5_18 hc1 (by decide) (by decide) rfl ?_
  obtain ⟨hc7, h⟩ := sm_gd_e h
  refine sm_getR (r := R (R a0 2) 5) (q := 148) dX5_readPupil_145 rfl fk_X5_114 hc7 (by decide) (by decide) rfl ?_
  refine sm_dup (q := 149) dX5_readPupil_148 rfl rfl ?_
  obtain ⟨hc8, h⟩ := sm_gd_e h
  refine sm_getI (q := 152) dX5_readPupil_149 rfl fk_X5_118 hc8 (by decide) (by decide) ?_
  refine sm_iconst (v := 1) (q := 153) dX5_readPupil_152 rfl (by decide) ?_
  refine sm_iadd (q := 154) dX5_readPupil_153 rfl ?_
  obtain ⟨I9, hI9, h⟩ := sm_lt_e h
  refine sm_putI (q := 157) dX5_readPupil_154 rfl fk_X5_118 hc8 (by decide) (by decide) ?_
  refine sm_memI hI9 ?_
  obtain rfl := Option.some.inj h
  exact sm_vret dX5_readPupil_157 rfl
set_option maxHeartbeats 4000000 in
set_option maxRecDepth 100000 in
theorem w_X5_readPupil_51 {l : Launch} (N : Nat) (R : Nat → Nat → Nat) : ∀ (a0 : Nat) (a2 : Nat) (b0 : Nat) (b1 : Int32) (I : (Nat → Nat → Int32)) (y : (Unit × (Nat → Nat → Int32))), f_X5_readPupil_51 N R a0 a2 b0 b1 I = some y → sm_W l 5 mX5_readPupil 51 [(0, .inr (.inl a0)), (2, .inr (.inl a2))] [.inl b1, .inr (.inl b0)] (I, R) (.inl none) (y.2, R) := by
  intro a0 a2 b0 b1 I y h
  unfold f_X5_readPupil_51 at h
  obtain ⟨hc1, h⟩ := sm_gd_e h
  obtain ⟨I2, hI2, h⟩ := sm_lt_e h
  refine sm_putI (q := 54) dX5_readPupil_51 rfl fk_X5_127 hc1 (by decide) (by decide) ?_
  refine sm_memI hI2 ?_
  refine sm_aload_n (q := 55) dX5_readPupil_54 rfl rfl 0 rfl ?_
  obtain ⟨hc3, h⟩ := sm_gd_e h
  obtain ⟨p4, hc_p4, h⟩ := sm_bd_e h
  refine sm_callVv (q := 58) (As := []) (S := []) (e_X5_advance hc_p4) mv_X5_51 hc3 rfl (by decide) (Nat.le_of_ble_eq_true rfl) dX5_readPupil_55 rfl ?_
  refine sm_aload_n (q := 59) dX5_readPupil_58 rfl rfl 1 rfl ?_
  refine sm_aload_n (q := 60) dX5_readPupil_59 rfl rfl 0 rfl ?_
  refine sm_iconst (v := 0) (q := 61) dX5_readPupil_60 rfl (by decide) ?_
  refine sm_bipush (v := 99) (q := 63) dX5_readPupil_61 rfl (by decide) ?_
  obtain ⟨p5, hc_p5, h⟩ := sm_bd_e h
  refine sm_callVi (q := 66) (As := [.inl (0 : Int32), .inl (99 : Int32)]) (S := [.inr (.inl a2)]) (e_X5_readNumber hc_p5) mv_X5_108 hc3 rfl (by decide) (Nat.le_of_ble_eq_true rfl) dX5_readPupil_63 rfl ?_
  obtain ⟨hc6, h⟩ := sm_gd_e h
  obtain ⟨I7, hI7, h⟩ := sm_lt_e h
  refine sm_putI (q := 69) dX5_readPupil_66 rfl fk_X5_131 hc6 (by decide) (by decide) ?_
  refine sm_memI hI7 ?_
  refine sm_aload_n (q := 70) dX5_readPupil_69 rfl rfl 1 rfl ?_
  refine sm_aload_n (q := 71) dX5_readPupil_70 rfl rfl 0 rfl ?_
  refine sm_iconst (v := 0) (q := 72) dX5_readPupil_71 rfl (by decide) ?_
  refine sm_bipush (v := 9) (q := 74) dX5_readPupil_72 rfl (by decide) ?_
  obtain ⟨p8, hc_p8, h⟩ := sm_bd_e h
  refine sm_callVi (q := 77) (As := [.inl (0 : Int32), .inl (9 : Int32)]) (S := [.inr (.inl a2)]) (e_X5_readNumber hc_p8) mv_X5_108 hc3 rfl (by decide) (Nat.le_of_ble_eq_true rfl) dX5_readPupil_74 rfl ?_
  obtain ⟨I9, hI9, h⟩ := sm_lt_e h
  refine sm_putI (q := 80) dX5_readPupil_77 rfl fk_X5_134 hc6 (by decide) (by decide) ?_
  refine sm_memI hI9 ?_
  refine sm_aload_n (q := 81) dX5_readPupil_80 rfl rfl 0 rfl ?_
  refine sm_getI (q := 84) dX5_readPupil_81 rfl fk_X5_54 hc3 (by decide) (by decide) ?_
  refine sm_iconst (v := 1) (q := 85) dX5_readPupil_84 rfl (by decide) ?_
  rcases sm_if_e h with ⟨hb10, h⟩ | ⟨hb10, h⟩
  · refine sm_icmp_ne (tgt := 120) (q := 88) dX5_readPupil_85 (by decide) rfl (fun hn => absurd hb10 hn) (fun _ => ?_)
    refine sm_aload_n (q := 89) dX5_readPupil_88 rfl rfl 0 rfl ?_
    refine sm_getI (q := 92) dX5_readPupil_89 rfl fk_X5_38 hc3 (by decide) (by decide) ?_
    refine sm_aload_n (q := 93) dX5_readPupil_92 rfl rfl 0 rfl ?_
    refine sm_getI (q := 96) dX5_readPupil_93 rfl fk_X5_137 hc3 (by decide) (by decide) ?_
    refine sm_isub (q := 97) dX5_readPupil_96 rfl ?_
    refine sm_iconst (v := 4) (q := 98) dX5_readPupil_97 rfl (by decide) ?_
    rcases sm_if_e h with ⟨hb11, h⟩ | ⟨hb11, h⟩
    · refine sm_icmp_gt (tgt := 120) (q := 101) dX5_readPupil_98 (by decide) rfl (fun _ => ?_) (fun hn => absurd hb11 hn)
      refine sm_pick [0, 1] rfl ?_
      exact w_X5_readPupil_120 N R _ _ _ _ h
    · refine sm_icmp_gt (tgt := 120) (q := 101) dX5_readPupil_98 (by decide) rfl (fun ht => absurd ht hb11) (fun _ => ?_)
      refine sm_aload_n (q := 102) dX5_readPupil_101 rfl rfl 0 rfl ?_
      refine sm_getI (q := 105) dX5_readPupil_102 rfl fk_X5_140 hc3 (by decide) (by decide) ?_
      refine sm_aload_n (q := 106) dX5_readPupil_105 rfl rfl 0 rfl ?_
      refine sm_getR (r := R a0 2) (q := 109) dX5_readPupil_106 rfl fk_X5_18 hc3 (by decide) (by decide) rfl ?_
      obtain ⟨hc12, h⟩ := sm_gd_e h
      refine sm_getI (q := 112) dX5_readPupil_109 rfl fk_X5_96 hc12 (by decide) (by decide) ?_
      rcases sm_if_e h with ⟨hb13, h⟩ | ⟨hb13, h⟩
      · refine sm_icmp_lt (tgt := 120) (q := 115) dX5_readPupil_112 (by decide) rfl (fun _ => ?_) (fun hn => absurd hb13 hn)
        refine sm_pick [0, 1] rfl ?_
        exact w_X5_readPupil_120 N R _ _ _ _ h
      · refine sm_icmp_lt (tgt := 120) (q := 115) dX5_readPupil_112 (by decide) rfl (fun ht => absurd ht hb13) (fun _ => ?_)
        refine sm_aload_n (q := 116) dX5_readPupil_115 rfl rfl 0 rfl ?_
        refine sm_iconst (v := 3) (q := 117) dX5_readPupil_116 rfl (by decide) ?_
        obtain ⟨p14, hc_p14, h⟩ := sm_bd_e h
        refine sm_callVv (q := 120) (As := [.inl (3 : Int32)]) (S := []) (e_X5_stop hc_p14) mv_X5_88 hc3 rfl (by decide) (Nat.le_of_ble_eq_true rfl) dX5_readPupil_117 rfl ?_
        refine sm_pick [0, 1] rfl ?_
        exact w_X5_readPupil_120 N R _ _ _ _ h
  · refine sm_icmp_ne (tgt := 120) (q := 88) dX5_readPupil_85 (by decide) rfl (fun _ => ?_) (fun he => absurd he hb10)
    refine sm_pick [0, 1] rfl ?_
    exact w_X5_readPupil_120 N R _ _ _ _ h
set_option maxHeartbeats 4000000 in
set_option maxRecDepth 100000 in
theorem w_X5_readPupil {l : Launch} (N : Nat) (R : Nat → Nat → Nat) : ∀ (a0 : Nat) (I : (Nat → Nat → Int32)) (y : (Unit × (Nat → Nat → Int32))), f_X5_readPupil N R a0 I = some y → sm_W l 5 mX5_readPupil 0 [(0, .inr (.inl a0))] [] (I, R) (.inl none) (y.2, R) := by
  intro a0 I y h
  unfold f_X5_readPupil at h
  refine sm_aload_n (q := 1) dX5_readPupil_0 rfl rfl 0 rfl ?_
  obtain ⟨hc1, h⟩ := sm_gd_e h
  refine sm_getR (r := R a0 2) (q := 4) dX5_readPupil_1 rfl fk_X5_18 hc1 (by decide) (by decide) rfl ?_
  obtain ⟨hc2, h⟩ := sm_gd_e h
  refine sm_getR (r := R (R a0 2) 5) (q := 7) dX5_readPupil_4 rfl fk_X5_114 hc2 (by decide) (by decide) rfl ?_
  obtain ⟨hc3, h⟩ := sm_gd_e h
  refine sm_getI (q := 10) dX5_readPupil_7 rfl fk_X5_118 hc3 (by decide) (by decide) ?_
  refine sm_istore_n (L' := [(1, .inl (I (R (R a0 2) 5) 1)), (0, .inr (.inl a0))]) (q := 11) dX5_readPupil_10 rfl rfl (by decide) rfl ?_
  refine sm_iload_n (q := 12) dX5_readPupil_11 rfl rfl 0 rfl ?_
  refine sm_bipush (v := 7) (q := 14) dX5_readPupil_12 rfl (by decide) ?_
  rcases sm_if_e h with ⟨hb4, h⟩ | ⟨hb4, h⟩
  · refine sm_icmp_lt (tgt := 23) (q := 17) dX5_readPupil_14 (by decide) rfl (fun _ => ?_) (fun hn => absurd hb4 hn)
    refine sm_aload_n (q := 24) dX5_readPupil_23 rfl rfl 1 rfl ?_
    refine sm_getR (r := R a0 2) (q := 27) dX5_readPupil_24 rfl fk_X5_18 hc1 (by decide) (by decide) rfl ?_
    refine sm_getR (r := R (R a0 2) 5) (q := 30) dX5_readPupil_27 rfl fk_X5_114 hc2 (by decide) (by decide) rfl ?_
    refine sm_getR (r := R (R (R a0 2) 5) 0) (q := 33) dX5_readPupil_30 rfl fk_X5_123 hc3 (by decide) (by decide) rfl ?_
    refine sm_iload_n (q := 34) dX5_readPupil_33 rfl rfl 0 rfl ?_
    obtain ⟨hc5, h⟩ := sm_gd_e h
    refine sm_aald (t := 3) (n := (sm_kd (R (R (R a0 2) 5) 0)).2) (q := 35) dX5_readPupil_34 rfl (Prod.ext hc5.1 rfl) (Or.inl ⟨rfl, rfl⟩) hc5.2 rfl ?_
    refine sm_astore_n (L' := [(2, .inr (.inl (R (R (R (R a0 2) 5) 0) ((I (R (R a0 2) 5) 1)).toNatClampNeg))), (1, .inl (I (R (R a0 2) 5) 1)), (0, .inr (.inl a0))]) (q := 36) dX5_readPupil_35 rfl rfl (by decide) rfl ?_
    refine sm_aload_n (q := 37) dX5_readPupil_36 rfl rfl 0 rfl ?_
    refine sm_aload_n (q := 38) dX5_readPupil_37 rfl rfl 2 rfl ?_
    refine sm_ldcS (tx := "prodigy") (q := 40) dX5_readPupil_38 rfl (List.mem_of_getElem? (i := 4) rfl) ?_
    obtain ⟨p6, hc_p6, h⟩ := sm_bd_e h
    refine sm_callVi (q := 43) (As := [.inr (.inl (1000 + 4))]) (S := [.inr (.inl (R (R (R (R a0 2) 5) 0) ((I (R (R a0 2) 5) 1)).toNatClampNeg))]) (e_X5_isWord hc_p6) mv_X5_62 hc1 rfl (by decide) (Nat.le_of_ble_eq_true rfl) dX5_readPupil_40 rfl ?_
    rcases sm_if_e h with ⟨hb7, h⟩ | ⟨hb7, h⟩
    · refine sm_if_eq (tgt := 50) (q := 46) dX5_readPupil_43 (by decide) rfl (fun _ => ?_) (fun hn => absurd hb7 hn)
      refine sm_iconst (v := 0) (q := 51) dX5_readPupil_50 rfl (by decide) ?_
      refine sm_pick [2, 0] rfl ?_
      exact w_X5_readPupil_51 N R _ _ _ _ _ _ h
    · refine sm_if_eq (tgt := 50) (q := 46) dX5_readPupil_43 (by decide) rfl (fun ht => absurd ht hb7) (fun _ => ?_)
      refine sm_iconst (v := 1) (q := 47) dX5_readPupil_46 rfl (by decide) ?_
      refine sm_goto (q := 51) dX5_readPupil_47 (by decide) ?_
      refine sm_pick [2, 0] rfl ?_
      exact w_X5_readPupil_51 N R _ _ _ _ _ _ h
  · refine sm_icmp_lt (tgt := 23) (q := 17) dX5_readPupil_14 (by decide) rfl (fun ht => absurd ht hb4) (fun _ => ?_)
    refine sm_aload_n (q := 18) dX5_readPupil_17 rfl rfl 1 rfl ?_
    refine sm_iconst (v := 2) (q := 19) dX5_readPupil_18 rfl (by decide) ?_
    obtain ⟨p8, hc_p8, h⟩ := sm_bd_e h
    refine sm_callVv (q := 22) (As := [.inl (2 : Int32)]) (S := []) (e_X5_stop hc_p8) mv_X5_88 hc1 rfl (by decide) (Nat.le_of_ble_eq_true rfl) dX5_readPupil_19 rfl ?_
    obtain rfl := Option.some.inj h
    exact sm_vret dX5_readPupil_22 rfl
theorem e_X5_readPupil {l : Launch} {N : Nat} {R : Nat → Nat → Nat} {a0 : Nat} {I : (Nat → Nat → Int32)} {y : (Unit × (Nat → Nat → Int32))} (h : f_X5_readPupil N R a0 I = some y) : sm_E l 5 mX5_readPupil [.inr (.inl a0)] (I, R) (.inl none) (y.2, R) :=
  sm_meth (by decide) (Nat.le_of_ble_eq_true rfl) (w_X5_readPupil N R a0 I y h)
def f_X5_readPianos (N : Nat) (R : Nat → Nat → Nat) : Nat → (Nat → Nat → Int32) → Option (Unit × (Nat → Nat → Int32)) := fun a0 I =>
  sm_gd (sm_kd a0 = (5, 11)) <|
  if (I a0 10) = 0 then (
    sm_lt (sm_up I a0 (sm_up (I a0) 10 (1 : Int32))) fun I3 =>
    (f_X5_advance N R a0 I3).bind fun p4 =>
    sm_gd (sm_kd (R a0 2) = (7, 9)) <|
    (f_X5_readNumber N R a0 (1 : Int32) (4 : Int32) p4.2).bind fun p6 =>
    sm_gd (sm_kd (R (R a0 2) 5) = (10, 4)) <|
    sm_lt (sm_up p6.2 (R (R a0 2) 5) (sm_up (p6.2 (R (R a0 2) 5)) 3 p6.1)) fun I8 =>
    some ((), I8))
  else (
    (f_X5_stop N R a0 (5 : Int32) I).bind fun p9 =>
    some ((), p9.2))
set_option maxHeartbeats 4000000 in
set_option maxRecDepth 100000 in
theorem w_X5_readPianos {l : Launch} (N : Nat) (R : Nat → Nat → Nat) : ∀ (a0 : Nat) (I : (Nat → Nat → Int32)) (y : (Unit × (Nat → Nat → Int32))), f_X5_readPianos N R a0 I = some y → sm_W l 2 mX5_readPianos 0 [(0, .inr (.inl a0))] [] (I, R) (.inl none) (y.2, R) := by
  intro a0 I y h
  unfold f_X5_readPianos at h
  refine sm_aload_n (q := 1) dX5_readPianos_0 rfl rfl 0 rfl ?_
  obtain ⟨hc1, h⟩ := sm_gd_e h
  refine sm_getI (q := 4) dX5_readPianos_1 rfl fk_X5_47 hc1 (by decide) (by decide) ?_
  rcases sm_if_e h with ⟨hb2, h⟩ | ⟨hb2, h⟩
  · refine sm_if_eq (tgt := 13) (q := 7) dX5_readPianos_4 (by decide) rfl (fun _ => ?_) (fun hn => absurd hb2 hn)
    refine sm_aload_n (q := 14) dX5_readPianos_13 rfl rfl 0 rfl ?_
    refine sm_iconst (v := 1) (q := 15) dX5_readPianos_14 rfl (by decide) ?_
    obtain ⟨I3, hI3, h⟩ := sm_lt_e h
    refine sm_putZ (q := 18) dX5_readPianos_15 rfl fk_X5_47 hc1 (by decide) (by decide) (by decide) ?_
    refine sm_memI hI3 ?_
    refine sm_aload_n (q := 19) dX5_readPianos_18 rfl rfl 0 rfl ?_
    obtain ⟨p4, hc_p4, h⟩ := sm_bd_e h
    refine sm_callVv (q := 22) (As := []) (S := []) (e_X5_advance hc_p4) mv_X5_51 hc1 rfl (by decide) (Nat.le_of_ble_eq_true rfl) dX5_readPianos_19 rfl ?_
    refine sm_aload_n (q := 23) dX5_readPianos_22 rfl rfl 0 rfl ?_
    refine sm_getR (r := R a0 2) (q := 26) dX5_readPianos_23 rfl fk_X5_18 hc1 (by decide) (by decide) rfl ?_
    obtain ⟨hc5, h⟩ := sm_gd_e h
    refine sm_getR (r := R (R a0 2) 5) (q := 29) dX5_readPianos_26 rfl fk_X5_114 hc5 (by decide) (by decide) rfl ?_
    refine sm_aload_n (q := 30) dX5_readPianos_29 rfl rfl 0 rfl ?_
    refine sm_iconst (v := 1) (q := 31) dX5_readPianos_30 rfl (by decide) ?_
    refine sm_iconst (v := 4) (q := 32) dX5_readPianos_31 rfl (by decide) ?_
    obtain ⟨p6, hc_p6, h⟩ := sm_bd_e h
    refine sm_callVi (q := 35) (As := [.inl (1 : Int32), .inl (4 : Int32)]) (S := [.inr (.inl (R (R a0 2) 5))]) (e_X5_readNumber hc_p6) mv_X5_108 hc1 rfl (by decide) (Nat.le_of_ble_eq_true rfl) dX5_readPianos_32 rfl ?_
    obtain ⟨hc7, h⟩ := sm_gd_e h
    obtain ⟨I8, hI8, h⟩ := sm_lt_e h
    refine sm_putI (q := 38) dX5_readPianos_35 rfl fk_X5_150 hc7 (by decide) (by decide) ?_
    refine sm_memI hI8 ?_
    obtain rfl := Option.some.inj h
    exact sm_vret dX5_readPianos_38 rfl
  · refine sm_if_eq (tgt := 13) (q := 7) dX5_readPianos_4 (by decide) rfl (fun ht => absurd ht hb2) (fun _ => ?_)
    refine sm_aload_n (q := 8) dX5_readPianos_7 rfl rfl 0 rfl ?_
    refine sm_iconst (v := 5) (q := 9) dX5_readPianos_8 rfl (by decide) ?_
    obtain ⟨p9, hc_p9, h⟩ := sm_bd_e h
    refine sm_callVv (q := 12) (As := [.inl (5 : Int32)]) (S := []) (e_X5_stop hc_p9) mv_X5_88 hc1 rfl (by decide) (Nat.le_of_ble_eq_true rfl) dX5_readPianos_9 rfl ?_
    obtain rfl := Option.some.inj h
    exact sm_vret dX5_readPianos_12 rfl
theorem e_X5_readPianos {l : Launch} {N : Nat} {R : Nat → Nat → Nat} {a0 : Nat} {I : (Nat → Nat → Int32)} {y : (Unit × (Nat → Nat → Int32))} (h : f_X5_readPianos N R a0 I = some y) : sm_E l 2 mX5_readPianos [.inr (.inl a0)] (I, R) (.inl none) (y.2, R) :=
  sm_meth (by decide) (Nat.le_of_ble_eq_true rfl) (w_X5_readPianos N R a0 I y h)
def f_X5_isSign (N : Nat) (R : Nat → Nat → Nat) : Nat → Int32 → (Nat → Nat → Int32) → Option (Int32 × (Nat → Nat → Int32)) := fun a0 a1 I =>
  sm_gd (sm_kd a0 = (5, 11)) <|
  if (I a0 3) = (3 : Int32) then (
    if (I a0 7) = a1 then (
      some ((1 : Int32), I))
    else (
      some ((0 : Int32), I)))
  else (
    some ((0 : Int32), I))
set_option maxHeartbeats 4000000 in
set_option maxRecDepth 100000 in
theorem w_X5_isSign {l : Launch} (N : Nat) (R : Nat → Nat → Nat) : ∀ (a0 : Nat) (a1 : Int32) (I : (Nat → Nat → Int32)) (y : (Int32 × (Nat → Nat → Int32))), f_X5_isSign N R a0 a1 I = some y → sm_W l 0 mX5_isSign 0 [(0, .inr (.inl a0)), (1, .inl a1)] [] (I, R) (.inl (some (.inl y.1))) (y.2, R) := by
  intro a0 a1 I y h
  unfold f_X5_isSign at h
  refine sm_aload_n (q := 1) dX5_isSign_0 rfl rfl 0 rfl ?_
  obtain ⟨hc1, h⟩ := sm_gd_e h
  refine sm_getI (q := 4) dX5_isSign_1 rfl fk_X5_54 hc1 (by decide) (by decide) ?_
  refine sm_iconst (v := 3) (q := 5) dX5_isSign_4 rfl (by decide) ?_
  rcases sm_if_e h with ⟨hb2, h⟩ | ⟨hb2, h⟩
  · refine sm_icmp_ne (tgt := 20) (q := 8) dX5_isSign_5 (by decide) rfl (fun hn => absurd hb2 hn) (fun _ => ?_)
    refine sm_aload_n (q := 9) dX5_isSign_8 rfl rfl 0 rfl ?_
    refine sm_getI (q := 12) dX5_isSign_9 rfl fk_X5_199 hc1 (by decide) (by decide) ?_
    refine sm_iload_n (q := 13) dX5_isSign_12 rfl rfl 1 rfl ?_
    rcases sm_if_e h with ⟨hb3, h⟩ | ⟨hb3, h⟩
    · refine sm_icmp_ne (tgt := 20) (q := 16) dX5_isSign_13 (by decide) rfl (fun hn => absurd hb3 hn) (fun _ => ?_)
      refine sm_iconst (v := 1) (q := 17) dX5_isSign_16 rfl (by decide) ?_
      refine sm_goto (q := 21) dX5_isSign_17 (by decide) ?_
      obtain rfl := Option.some.inj h
      exact sm_zret dX5_isSign_21 rfl (by decide)
    · refine sm_icmp_ne (tgt := 20) (q := 16) dX5_isSign_13 (by decide) rfl (fun _ => ?_) (fun he => absurd he hb3)
      refine sm_iconst (v := 0) (q := 21) dX5_isSign_20 rfl (by decide) ?_
      obtain rfl := Option.some.inj h
      exact sm_zret dX5_isSign_21 rfl (by decide)
  · refine sm_icmp_ne (tgt := 20) (q := 8) dX5_isSign_5 (by decide) rfl (fun _ => ?_) (fun he => absurd he hb2)
    refine sm_iconst (v := 0) (q := 21) dX5_isSign_20 rfl (by decide) ?_
    obtain rfl := Option.some.inj h
    exact sm_zret dX5_isSign_21 rfl (by decide)
theorem e_X5_isSign {l : Launch} {N : Nat} {R : Nat → Nat → Nat} {a0 : Nat} {a1 : Int32} {I : (Nat → Nat → Int32)} {y : (Int32 × (Nat → Nat → Int32))} (h : f_X5_isSign N R a0 a1 I = some y) : sm_E l 0 mX5_isSign [.inr (.inl a0), .inl a1] (I, R) (.inl (some (.inl y.1))) (y.2, R) :=
  sm_meth (by decide) (Nat.le_of_ble_eq_true rfl) (w_X5_isSign N R a0 a1 I y h)
def f_X5_valueHere (N : Nat) (R : Nat → Nat → Nat) : Nat → (Nat → Nat → Int32) → Option (Int32 × (Nat → Nat → Int32)) := fun a0 I =>
  sm_gd (sm_kd a0 = (5, 11)) <|
  (f_X5_isWord N R a0 (1000 + 7) I).bind fun p2 =>
  if p2.1 = 0 then (
    (f_X5_isWord N R a0 (1000 + 8) p2.2).bind fun p4 =>
    if p4.1 = 0 then (
      (f_X5_isWord N R a0 (1000 + 9) p4.2).bind fun p6 =>
      if p6.1 = 0 then (
        (f_X5_isWord N R a0 (1000 + 10) p6.2).bind fun p8 =>
        if p8.1 = 0 then (
          (f_X5_isWord N R a0 (1000 + 11) p8.2).bind fun p10 =>
          if p10.1 = 0 then (
            (f_X5_isWord N R a0 (1000 + 12) p10.2).bind fun p12 =>
            if p12.1 = 0 then (
              some ((-1 : Int32), p12.2))
            else (
              some ((5 : Int32), p12.2)))
          else (
            some ((4 : Int32), p10.2)))
        else (
          some ((3 : Int32), p8.2)))
      else (
        some ((2 : Int32), p6.2)))
    else (
      some ((1 : Int32), p4.2)))
  else (
    some ((0 : Int32), p2.2))
set_option maxHeartbeats 4000000 in
set_option maxRecDepth 100000 in
theorem w_X5_valueHere {l : Launch} (N : Nat) (R : Nat → Nat → Nat) : ∀ (a0 : Nat) (I : (Nat → Nat → Int32)) (y : (Int32 × (Nat → Nat → Int32))), f_X5_valueHere N R a0 I = some y → sm_W l 5 mX5_valueHere 0 [(0, .inr (.inl a0))] [] (I, R) (.inl (some (.inl y.1))) (y.2, R) := by
  intro a0 I y h
  unfold f_X5_valueHere at h
  refine sm_aload_n (q := 1) dX5_valueHere_0 rfl rfl 0 rfl ?_
  refine sm_ldcS (tx := "skill") (q := 3) dX5_valueHere_1 rfl (List.mem_of_getElem? (i := 7) rfl) ?_
  obtain ⟨hc1, h⟩ := sm_gd_e h
  obtain ⟨p2, hc_p2, h⟩ := sm_bd_e h
  refine sm_callVi (q := 6) (As := [.inr (.inl (1000 + 7))]) (S := []) (e_X5_isWord hc_p2) mv_X5_62 hc1 rfl (by decide) (Nat.le_of_ble_eq_true rfl) dX5_valueHere_3 rfl ?_
  rcases sm_if_e h with ⟨hb3, h⟩ | ⟨hb3, h⟩
  · refine sm_if_eq (tgt := 11) (q := 9) dX5_valueHere_6 (by decide) rfl (fun _ => ?_) (fun hn => absurd hb3 hn)
    refine sm_aload_n (q := 12) dX5_valueHere_11 rfl rfl 0 rfl ?_
    refine sm_ldcS (tx := "sore") (q := 14) dX5_valueHere_12 rfl (List.mem_of_getElem? (i := 8) rfl) ?_
    obtain ⟨p4, hc_p4, h⟩ := sm_bd_e h
    refine sm_callVi (q := 17) (As := [.inr (.inl (1000 + 8))]) (S := []) (e_X5_isWord hc_p4) mv_X5_62 hc1 rfl (by decide) (Nat.le_of_ble_eq_true rfl) dX5_valueHere_14 rfl ?_
    rcases sm_if_e h with ⟨hb5, h⟩ | ⟨hb5, h⟩
    · refine sm_if_eq (tgt := 22) (q := 20) dX5_valueHere_17 (by decide) rfl (fun _ => ?_) (fun hn => absurd hb5 hn)
      refine sm_aload_n (q := 23) dX5_valueHere_22 rfl rfl 0 rfl ?_
      refine sm_ldcS (tx := "hard") (q := 25) dX5_valueHere_23 rfl (List.mem_of_getElem? (i := 9) rfl) ?_
      obtain ⟨p6, hc_p6, h⟩ := sm_bd_e h
      refine sm_callVi (q := 28) (As := [.inr (.inl (1000 + 9))]) (S := []) (e_X5_isWord hc_p6) mv_X5_62 hc1 rfl (by decide) (Nat.le_of_ble_eq_true rfl) dX5_valueHere_25 rfl ?_
      rcases sm_if_e h with ⟨hb7, h⟩ | ⟨hb7, h⟩
      · refine sm_if_eq (tgt := 33) (q := 31) dX5_valueHere_28 (by decide) rfl (fun _ => ?_) (fun hn => absurd hb7 hn)
        refine sm_aload_n (q := 34) dX5_valueHere_33 rfl rfl 0 rfl ?_
        refine sm_ldcS (tx := "bar") (q := 36) dX5_valueHere_34 rfl (List.mem_of_getElem? (i := 10) rfl) ?_
        obtain ⟨p8, hc_p8, h⟩ := sm_bd_e h
        refine sm_callVi (q := 39) (As := [.inr (.inl (1000 + 10))]) (S := []) (e_X5_isWord hc_p8) mv_X5_62 hc1 rfl (by decide) (Nat.le_of_ble_eq_true rfl) dX5_valueHere_36 rfl ?_
        rcases sm_if_e h with ⟨hb9, h⟩ | ⟨hb9, h⟩
        · refine sm_if_eq (tgt := 44) (q := 42) dX5_valueHere_39 (by decide) rfl (fun _ => ?_) (fun hn => absurd hb9 hn)
          refine sm_aload_n (q := 45) dX5_valueHere_44 rfl rfl 0 rfl ?_
          refine sm_ldcS (tx := "bars") (q := 47) dX5_valueHere_45 rfl (List.mem_of_getElem? (i := 11) rfl) ?_
          obtain ⟨p10, hc_p10, h⟩ := sm_bd_e h
          refine sm_callVi (q := 50) (As := [.inr (.inl (1000 + 11))]) (S := []) (e_X5_isWord hc_p10) mv_X5_62 hc1 rfl (by decide) (Nat.le_of_ble_eq_true rfl) dX5_valueHere_47 rfl ?_
          rcases sm_if_e h with ⟨hb11, h⟩ | ⟨hb11, h⟩
          · refine sm_if_eq (tgt := 55) (q := 53) dX5_valueHere_50 (by decide) rfl (fun _ => ?_) (fun hn => absurd hb11 hn)
            refine sm_aload_n (q := 56) dX5_valueHere_55 rfl rfl 0 rfl ?_
            refine sm_ldcS (tx := "away") (q := 58) dX5_valueHere_56 rfl (List.mem_of_getElem? (i := 12) rfl) ?_
            obtain ⟨p12, hc_p12, h⟩ := sm_bd_e h
            refine sm_callVi (q := 61) (As := [.inr (.inl (1000 + 12))]) (S := []) (e_X5_isWord hc_p12) mv_X5_62 hc1 rfl (by decide) (Nat.le_of_ble_eq_true rfl) dX5_valueHere_58 rfl ?_
            rcases sm_if_e h with ⟨hb13, h⟩ | ⟨hb13, h⟩
            · refine sm_if_eq (tgt := 68) (q := 64) dX5_valueHere_61 (by decide) rfl (fun _ => ?_) (fun hn => absurd hb13 hn)
              refine sm_iconst (v := -1) (q := 69) dX5_valueHere_68 rfl (by decide) ?_
              obtain rfl := Option.some.inj h
              exact sm_iret dX5_valueHere_69 rfl
            · refine sm_if_eq (tgt := 68) (q := 64) dX5_valueHere_61 (by decide) rfl (fun ht => absurd ht hb13) (fun _ => ?_)
              refine sm_iconst (v := 5) (q := 65) dX5_valueHere_64 rfl (by decide) ?_
              refine sm_goto (q := 69) dX5_valueHere_65 (by decide) ?_
              obtain rfl := Option.some.inj h
              exact sm_iret dX5_valueHere_69 rfl
          · refine sm_if_eq (tgt := 55) (q := 53) dX5_valueHere_50 (by decide) rfl (fun ht => absurd ht hb11) (fun _ => ?_)
            refine sm_iconst (v := 4) (q := 54) dX5_valueHere_53 rfl (by decide) ?_
            obtain rfl := Option.some.inj h
            exact sm_iret dX5_valueHere_54 rfl
        · refine sm_if_eq (tgt := 44) (q := 42) dX5_valueHere_39 (by decide) rfl (fun ht => absurd ht hb9) (fun _ => ?_)
          refine sm_iconst (v := 3) (q := 43) dX5_valueHere_42 rfl (by decide) ?_
          obtain rfl := Option.some.inj h
          exact sm_iret dX5_valueHere_43 rfl
      · refine sm_if_eq (tgt := 33) (q := 31) dX5_valueHere_28 (by decide) rfl (fun ht => absurd ht hb7) (fun _ => ?_)
        refine sm_iconst (v := 2) (q := 32) dX5_valueHere_31 rfl (by decide) ?_
        obtain rfl := Option.some.inj h
        exact sm_iret dX5_valueHere_32 rfl
    · refine sm_if_eq (tgt := 22) (q := 20) dX5_valueHere_17 (by decide) rfl (fun ht => absurd ht hb5) (fun _ => ?_)
      refine sm_iconst (v := 1) (q := 21) dX5_valueHere_20 rfl (by decide) ?_
      obtain rfl := Option.some.inj h
      exact sm_iret dX5_valueHere_21 rfl
  · refine sm_if_eq (tgt := 11) (q := 9) dX5_valueHere_6 (by decide) rfl (fun ht => absurd ht hb3) (fun _ => ?_)
    refine sm_iconst (v := 0) (q := 10) dX5_valueHere_9 rfl (by decide) ?_
    obtain rfl := Option.some.inj h
    exact sm_iret dX5_valueHere_10 rfl
theorem e_X5_valueHere {l : Launch} {N : Nat} {R : Nat → Nat → Nat} {a0 : Nat} {I : (Nat → Nat → Int32)} {y : (Int32 × (Nat → Nat → Int32))} (h : f_X5_valueHere N R a0 I = some y) : sm_E l 5 mX5_valueHere [.inr (.inl a0)] (I, R) (.inl (some (.inl y.1))) (y.2, R) :=
  sm_meth (by decide) (Nat.le_of_ble_eq_true rfl) (w_X5_valueHere N R a0 I y h)
def f_X5_skipSign (N : Nat) (R : Nat → Nat → Nat) : Nat → Int32 → (Nat → Nat → Int32) → Option (Unit × (Nat → Nat → Int32)) := fun a0 a1 I =>
  sm_gd (sm_kd a0 = (5, 11)) <|
  (f_X5_isSign N R a0 a1 I).bind fun p2 =>
  if p2.1 = 0 then (
    (f_X5_stop N R a0 (1 : Int32) p2.2).bind fun p4 =>
    some ((), p4.2))
  else (
    (f_X5_advance N R a0 p2.2).bind fun p5 =>
    some ((), p5.2))
set_option maxHeartbeats 4000000 in
set_option maxRecDepth 100000 in
theorem w_X5_skipSign {l : Launch} (N : Nat) (R : Nat → Nat → Nat) : ∀ (a0 : Nat) (a1 : Int32) (I : (Nat → Nat → Int32)) (y : (Unit × (Nat → Nat → Int32))), f_X5_skipSign N R a0 a1 I = some y → sm_W l 1 mX5_skipSign 0 [(0, .inr (.inl a0)), (1, .inl a1)] [] (I, R) (.inl none) (y.2, R) := by
  intro a0 a1 I y h
  unfold f_X5_skipSign at h
  refine sm_aload_n (q := 1) dX5_skipSign_0 rfl rfl 0 rfl ?_
  refine sm_iload_n (q := 2) dX5_skipSign_1 rfl rfl 1 rfl ?_
  obtain ⟨hc1, h⟩ := sm_gd_e h
  obtain ⟨p2, hc_p2, h⟩ := sm_bd_e h
  refine sm_callVi (q := 5) (As := [.inl a1]) (S := []) (e_X5_isSign hc_p2) mv_X5_165 hc1 rfl (by decide) (Nat.le_of_ble_eq_true rfl) dX5_skipSign_2 rfl ?_
  rcases sm_if_e h with ⟨hb3, h⟩ | ⟨hb3, h⟩
  · refine sm_if_eq (tgt := 15) (q := 8) dX5_skipSign_5 (by decide) rfl (fun _ => ?_) (fun hn => absurd hb3 hn)
    refine sm_aload_n (q := 16) dX5_skipSign_15 rfl rfl 0 rfl ?_
    refine sm_iconst (v := 1) (q := 17) dX5_skipSign_16 rfl (by decide) ?_
    obtain ⟨p4, hc_p4, h⟩ := sm_bd_e h
    refine sm_callVv (q := 20) (As := [.inl (1 : Int32)]) (S := []) (e_X5_stop hc_p4) mv_X5_88 hc1 rfl (by decide) (Nat.le_of_ble_eq_true rfl) dX5_skipSign_17 rfl ?_
    obtain rfl := Option.some.inj h
    exact sm_vret dX5_skipSign_20 rfl
  · refine sm_if_eq (tgt := 15) (q := 8) dX5_skipSign_5 (by decide) rfl (fun ht => absurd ht hb3) (fun _ => ?_)
    refine sm_aload_n (q := 9) dX5_skipSign_8 rfl rfl 0 rfl ?_
    obtain ⟨p5, hc_p5, h⟩ := sm_bd_e h
    refine sm_callVv (q := 12) (As := []) (S := []) (e_X5_advance hc_p5) mv_X5_51 hc1 rfl (by decide) (Nat.le_of_ble_eq_true rfl) dX5_skipSign_9 rfl ?_
    refine sm_goto (q := 20) dX5_skipSign_12 (by decide) ?_
    obtain rfl := Option.some.inj h
    exact sm_vret dX5_skipSign_20 rfl
theorem e_X5_skipSign {l : Launch} {N : Nat} {R : Nat → Nat → Nat} {a0 : Nat} {a1 : Int32} {I : (Nat → Nat → Int32)} {y : (Unit × (Nat → Nat → Int32))} (h : f_X5_skipSign N R a0 a1 I = some y) : sm_E l 1 mX5_skipSign [.inr (.inl a0), .inl a1] (I, R) (.inl none) (y.2, R) :=
  sm_meth (by decide) (Nat.le_of_ble_eq_true rfl) (w_X5_skipSign N R a0 a1 I y h)
def f_X5_skipNots_27 (N : Nat) (R : Nat → Nat → Nat) : Nat → Int32 → (Nat → Nat → Int32) → Option (Int32 × (Nat → Nat → Int32)) := fun a0 a1 I =>
  sm_gd (sm_kd a0 = (5, 11)) <|
  (f_X5_isWord N R a0 (1000 + 13) I).bind fun p2 =>
  if p2.1 = 0 then (
    some (a1, p2.2))
  else (
    if a1 = (6 : Int32) then (
      (f_X5_stop N R a0 (2 : Int32) p2.2).bind fun p5 =>
      some (a1, p5.2))
    else (
      some (a1, p2.2)))
def f_X5_skipNots_2 (N : Nat) (R : Nat → Nat → Nat) : Nat → Nat → Int32 → (Nat → Nat → Int32) → Option (Int32 × (Nat → Nat → Int32))
  | 0, _, _, _ => none
  | n + 1, a0, a1, I =>
    if (6 : Int32) ≤ a1 then (
      f_X5_skipNots_27 N R a0 a1 I)
    else (
      sm_gd (sm_kd a0 = (5, 11)) <|
      (f_X5_isWord N R a0 (1000 + 13) I).bind fun p3 =>
      if p3.1 = 0 then (
        f_X5_skipNots_27 N R a0 a1 p3.2)
      else (
        (f_X5_advance N R a0 p3.2).bind fun p5 =>
        f_X5_skipNots_2 N R n a0 (a1 + 1) p5.2))
def f_X5_skipNots (N : Nat) (R : Nat → Nat → Nat) : Nat → (Nat → Nat → Int32) → Option (Int32 × (Nat → Nat → Int32)) := fun a0 I =>
  f_X5_skipNots_2 N R N a0 (0 : Int32) I
set_option maxHeartbeats 4000000 in
set_option maxRecDepth 100000 in
theorem w_X5_skipNots_27 {l : Launch} (N : Nat) (R : Nat → Nat → Nat) : ∀ (a0 : Nat) (a1 : Int32) (I : (Nat → Nat → Int32)) (y : (Int32 × (Nat → Nat → Int32))), f_X5_skipNots_27 N R a0 a1 I = some y → sm_W l 5 mX5_skipNots 27 [(0, .inr (.inl a0)), (1, .inl a1)] [] (I, R) (.inl (some (.inl y.1))) (y.2, R) := by
  intro a0 a1 I y h
  unfold f_X5_skipNots_27 at h
  refine sm_aload_n (q := 28) dX5_skipNots_27 rfl rfl 0 rfl ?_
  refine sm_ldcS (tx := "not") (q := 30) dX5_skipNots_28 rfl (List.mem_of_getElem? (i := 13) rfl) ?_
  obtain ⟨hc1, h⟩ := sm_gd_e h
  obtain ⟨p2, hc_p2, h⟩ := sm_bd_e h
  refine sm_callVi (q := 33) (As := [.inr (.inl (1000 + 13))]) (S := []) (e_X5_isWord hc_p2) mv_X5_62 hc1 rfl (by decide) (Nat.le_of_ble_eq_true rfl) dX5_skipNots_30 rfl ?_
  rcases sm_if_e h with ⟨hb3, h⟩ | ⟨hb3, h⟩
  · refine sm_if_eq (tgt := 47) (q := 36) dX5_skipNots_33 (by decide) rfl (fun _ => ?_) (fun hn => absurd hb3 hn)
    refine sm_iload_n (q := 48) dX5_skipNots_47 rfl rfl 1 rfl ?_
    obtain rfl := Option.some.inj h
    exact sm_iret dX5_skipNots_48 rfl
  · refine sm_if_eq (tgt := 47) (q := 36) dX5_skipNots_33 (by decide) rfl (fun ht => absurd ht hb3) (fun _ => ?_)
    refine sm_iload_n (q := 37) dX5_skipNots_36 rfl rfl 1 rfl ?_
    refine sm_bipush (v := 6) (q := 39) dX5_skipNots_37 rfl (by decide) ?_
    rcases sm_if_e h with ⟨hb4, h⟩ | ⟨hb4, h⟩
    · refine sm_icmp_ne (tgt := 47) (q := 42) dX5_skipNots_39 (by decide) rfl (fun hn => absurd hb4 hn) (fun _ => ?_)
      refine sm_aload_n (q := 43) dX5_skipNots_42 rfl rfl 0 rfl ?_
      refine sm_iconst (v := 2) (q := 44) dX5_skipNots_43 rfl (by decide) ?_
      obtain ⟨p5, hc_p5, h⟩ := sm_bd_e h
      refine sm_callVv (q := 47) (As := [.inl (2 : Int32)]) (S := []) (e_X5_stop hc_p5) mv_X5_88 hc1 rfl (by decide) (Nat.le_of_ble_eq_true rfl) dX5_skipNots_44 rfl ?_
      refine sm_iload_n (q := 48) dX5_skipNots_47 rfl rfl 1 rfl ?_
      obtain rfl := Option.some.inj h
      exact sm_iret dX5_skipNots_48 rfl
    · refine sm_icmp_ne (tgt := 47) (q := 42) dX5_skipNots_39 (by decide) rfl (fun _ => ?_) (fun he => absurd he hb4)
      refine sm_iload_n (q := 48) dX5_skipNots_47 rfl rfl 1 rfl ?_
      obtain rfl := Option.some.inj h
      exact sm_iret dX5_skipNots_48 rfl
set_option maxHeartbeats 4000000 in
set_option maxRecDepth 100000 in
theorem w_X5_skipNots_2 {l : Launch} (N : Nat) (R : Nat → Nat → Nat) : ∀ (n : Nat) (a0 : Nat) (a1 : Int32) (I : (Nat → Nat → Int32)) (y : (Int32 × (Nat → Nat → Int32))), f_X5_skipNots_2 N R n a0 a1 I = some y → sm_W l 5 mX5_skipNots 2 [(0, .inr (.inl a0)), (1, .inl a1)] [] (I, R) (.inl (some (.inl y.1))) (y.2, R) := by
  intro n
  induction n with
  | zero => intro a0 a1 I y h; cases h
  | succ n ih =>
    intro a0 a1 I y h
    rw [f_X5_skipNots_2] at h
    refine sm_iload_n (q := 3) dX5_skipNots_2 rfl rfl 1 rfl ?_
    refine sm_bipush (v := 6) (q := 5) dX5_skipNots_3 rfl (by decide) ?_
    rcases sm_if_e h with ⟨hb1, h⟩ | ⟨hb1, h⟩
    · refine sm_icmp_ge (tgt := 27) (q := 8) dX5_skipNots_5 (by decide) rfl (fun _ => ?_) (fun hn => absurd hb1 hn)
      refine sm_pick [0, 1] rfl ?_
      exact w_X5_skipNots_27 N R _ _ _ _ h
    · refine sm_icmp_ge (tgt := 27) (q := 8) dX5_skipNots_5 (by decide) rfl (fun ht => absurd ht hb1) (fun _ => ?_)
      refine sm_aload_n (q := 9) dX5_skipNots_8 rfl rfl 0 rfl ?_
      refine sm_ldcS (tx := "not") (q := 11) dX5_skipNots_9 rfl (List.mem_of_getElem? (i := 13) rfl) ?_
      obtain ⟨hc2, h⟩ := sm_gd_e h
      obtain ⟨p3, hc_p3, h⟩ := sm_bd_e h
      refine sm_callVi (q := 14) (As := [.inr (.inl (1000 + 13))]) (S := []) (e_X5_isWord hc_p3) mv_X5_62 hc2 rfl (by decide) (Nat.le_of_ble_eq_true rfl) dX5_skipNots_11 rfl ?_
      rcases sm_if_e h with ⟨hb4, h⟩ | ⟨hb4, h⟩
      · refine sm_if_eq (tgt := 27) (q := 17) dX5_skipNots_14 (by decide) rfl (fun _ => ?_) (fun hn => absurd hb4 hn)
        refine sm_pick [0, 1] rfl ?_
        exact w_X5_skipNots_27 N R _ _ _ _ h
      · refine sm_if_eq (tgt := 27) (q := 17) dX5_skipNots_14 (by decide) rfl (fun ht => absurd ht hb4) (fun _ => ?_)
        refine sm_aload_n (q := 18) dX5_skipNots_17 rfl rfl 0 rfl ?_
        obtain ⟨p5, hc_p5, h⟩ := sm_bd_e h
        refine sm_callVv (q := 21) (As := []) (S := []) (e_X5_advance hc_p5) mv_X5_51 hc2 rfl (by decide) (Nat.le_of_ble_eq_true rfl) dX5_skipNots_18 rfl ?_
        refine sm_iinc (v := (a1 + 1)) (L' := [(1, .inl (a1 + 1)), (0, .inr (.inl a0))]) (q := 24) dX5_skipNots_21 rfl 1 rfl rfl (by decide) rfl ?_
        refine sm_goto (q := 2) dX5_skipNots_24 (by decide) ?_
        refine sm_pick [1, 0] rfl ?_
        exact ih _ _ _ _ h
set_option maxHeartbeats 4000000 in
set_option maxRecDepth 100000 in
theorem w_X5_skipNots {l : Launch} (N : Nat) (R : Nat → Nat → Nat) : ∀ (a0 : Nat) (I : (Nat → Nat → Int32)) (y : (Int32 × (Nat → Nat → Int32))), f_X5_skipNots N R a0 I = some y → sm_W l 5 mX5_skipNots 0 [(0, .inr (.inl a0))] [] (I, R) (.inl (some (.inl y.1))) (y.2, R) := by
  intro a0 I y h
  unfold f_X5_skipNots at h
  refine sm_iconst (v := 0) (q := 1) dX5_skipNots_0 rfl (by decide) ?_
  refine sm_istore_n (L' := [(1, .inl (0 : Int32)), (0, .inr (.inl a0))]) (q := 2) dX5_skipNots_1 rfl rfl (by decide) rfl ?_
  refine sm_pick [1, 0] rfl ?_
  exact w_X5_skipNots_2 N R N _ _ _ _ h
theorem e_X5_skipNots {l : Launch} {N : Nat} {R : Nat → Nat → Nat} {a0 : Nat} {I : (Nat → Nat → Int32)} {y : (Int32 × (Nat → Nat → Int32))} (h : f_X5_skipNots N R a0 I = some y) : sm_E l 5 mX5_skipNots [.inr (.inl a0)] (I, R) (.inl (some (.inl y.1))) (y.2, R) :=
  sm_meth (by decide) (Nat.le_of_ble_eq_true rfl) (w_X5_skipNots N R a0 I y h)
def f_X5_operatorHere (N : Nat) (R : Nat → Nat → Nat) : Nat → Int32 → (Nat → Nat → Int32) → Option (Int32 × (Nat → Nat → Int32)) := fun a0 a1 I =>
  if a1 = 0 then (
    sm_gd (sm_kd a0 = (5, 11)) <|
    (f_X5_isWord N R a0 (1000 + 14) I).bind fun p3 =>
    if p3.1 = 0 then (
      some ((-1 : Int32), p3.2))
    else (
      some ((20000 : Int32), p3.2)))
  else (
    if a1 = 1 then (
      sm_gd (sm_kd a0 = (5, 11)) <|
      (f_X5_isWord N R a0 (1000 + 15) I).bind fun p7 =>
      if p7.1 = 0 then (
        some ((-1 : Int32), p7.2))
      else (
        some ((20001 : Int32), p7.2)))
    else (
      if a1 = 2 then (
        some ((-1 : Int32), I))
      else (
        if a1 = 3 then (
          sm_gd (sm_kd a0 = (5, 11)) <|
          (f_X5_isSign N R a0 (60 : Int32) I).bind fun p12 =>
          if p12.1 = 0 then (
            (f_X5_isSign N R a0 (61 : Int32) p12.2).bind fun p14 =>
            if p14.1 = 0 then (
              some ((-1 : Int32), p14.2))
            else (
              some ((20004 : Int32), p14.2)))
          else (
            some ((20003 : Int32), p12.2)))
        else (
          if a1 = 4 then (
            sm_gd (sm_kd a0 = (5, 11)) <|
            (f_X5_isSign N R a0 (43 : Int32) I).bind fun p18 =>
            if p18.1 = 0 then (
              (f_X5_isSign N R a0 (45 : Int32) p18.2).bind fun p20 =>
              if p20.1 = 0 then (
                some ((-1 : Int32), p20.2))
              else (
                some ((20006 : Int32), p20.2)))
            else (
              some ((20005 : Int32), p18.2)))
          else (
            if a1 = 5 then (
              sm_gd (sm_kd a0 = (5, 11)) <|
              (f_X5_isSign N R a0 (42 : Int32) I).bind fun p24 =>
              if p24.1 = 0 then (
                (f_X5_isSign N R a0 (47 : Int32) p24.2).bind fun p26 =>
                if p26.1 = 0 then (
                  some ((-1 : Int32), p26.2))
                else (
                  some ((20008 : Int32), p26.2)))
              else (
                some ((20007 : Int32), p24.2)))
            else (
              some ((-1 : Int32), I)))))))
set_option maxHeartbeats 4000000 in
set_option maxRecDepth 100000 in
theorem w_X5_operatorHere {l : Launch} (N : Nat) (R : Nat → Nat → Nat) : ∀ (a0 : Nat) (a1 : Int32) (I : (Nat → Nat → Int32)) (y : (Int32 × (Nat → Nat → Int32))), f_X5_operatorHere N R a0 a1 I = some y → sm_W l 5 mX5_operatorHere 0 [(0, .inr (.inl a0)), (1, .inl a1)] [] (I, R) (.inl (some (.inl y.1))) (y.2, R) := by
  intro a0 a1 I y h
  unfold f_X5_operatorHere at h
  refine sm_iload_n (q := 1) dX5_operatorHere_0 rfl rfl 1 rfl ?_
  rcases sm_if_e h with ⟨hb1, h⟩ | ⟨hb1, h⟩
  · refine sm_tableIn (q := 40) (off := 39) dX5_operatorHere_1 (by rw [hb1]; decide) (by rw [hb1]; decide) (by rw [hb1]; decide) (by decide) ?_
    refine sm_aload_n (q := 41) dX5_operatorHere_40 rfl rfl 0 rfl ?_
    refine sm_ldcS (tx := "or") (q := 43) dX5_operatorHere_41 rfl (List.mem_of_getElem? (i := 14) rfl) ?_
    obtain ⟨hc2, h⟩ := sm_gd_e h
    obtain ⟨p3, hc_p3, h⟩ := sm_bd_e h
    refine sm_callVi (q := 46) (As := [.inr (.inl (1000 + 14))]) (S := []) (e_X5_isWord hc_p3) mv_X5_62 hc2 rfl (by decide) (Nat.le_of_ble_eq_true rfl) dX5_operatorHere_43 rfl ?_
    rcases sm_if_e h with ⟨hb4, h⟩ | ⟨hb4, h⟩
    · refine sm_if_eq (tgt := 55) (q := 49) dX5_operatorHere_46 (by decide) rfl (fun _ => ?_) (fun hn => absurd hb4 hn)
      refine sm_iconst (v := -1) (q := 56) dX5_operatorHere_55 rfl (by decide) ?_
      obtain rfl := Option.some.inj h
      exact sm_iret dX5_operatorHere_56 rfl
    · refine sm_if_eq (tgt := 55) (q := 49) dX5_operatorHere_46 (by decide) rfl (fun ht => absurd ht hb4) (fun _ => ?_)
      refine sm_sipush (v := 20000) (q := 52) dX5_operatorHere_49 rfl (by decide) ?_
      refine sm_goto (q := 56) dX5_operatorHere_52 (by decide) ?_
      obtain rfl := Option.some.inj h
      exact sm_iret dX5_operatorHere_56 rfl
  · rcases sm_if_e h with ⟨hb5, h⟩ | ⟨hb5, h⟩
    · refine sm_tableIn (q := 57) (off := 56) dX5_operatorHere_1 (by rw [hb5]; decide) (by rw [hb5]; decide) (by rw [hb5]; decide) (by decide) ?_
      refine sm_aload_n (q := 58) dX5_operatorHere_57 rfl rfl 0 rfl ?_
      refine sm_ldcS (tx := "and") (q := 60) dX5_operatorHere_58 rfl (List.mem_of_getElem? (i := 15) rfl) ?_
      obtain ⟨hc6, h⟩ := sm_gd_e h
      obtain ⟨p7, hc_p7, h⟩ := sm_bd_e h
      refine sm_callVi (q := 63) (As := [.inr (.inl (1000 + 15))]) (S := []) (e_X5_isWord hc_p7) mv_X5_62 hc6 rfl (by decide) (Nat.le_of_ble_eq_true rfl) dX5_operatorHere_60 rfl ?_
      rcases sm_if_e h with ⟨hb8, h⟩ | ⟨hb8, h⟩
      · refine sm_if_eq (tgt := 72) (q := 66) dX5_operatorHere_63 (by decide) rfl (fun _ => ?_) (fun hn => absurd hb8 hn)
        refine sm_iconst (v := -1) (q := 73) dX5_operatorHere_72 rfl (by decide) ?_
        obtain rfl := Option.some.inj h
        exact sm_iret dX5_operatorHere_73 rfl
      · refine sm_if_eq (tgt := 72) (q := 66) dX5_operatorHere_63 (by decide) rfl (fun ht => absurd ht hb8) (fun _ => ?_)
        refine sm_sipush (v := 20001) (q := 69) dX5_operatorHere_66 rfl (by decide) ?_
        refine sm_goto (q := 73) dX5_operatorHere_69 (by decide) ?_
        obtain rfl := Option.some.inj h
        exact sm_iret dX5_operatorHere_73 rfl
    · rcases sm_if_e h with ⟨hb9, h⟩ | ⟨hb9, h⟩
      · refine sm_tableIn (q := 170) (off := 169) dX5_operatorHere_1 (by rw [hb9]; decide) (by rw [hb9]; decide) (by rw [hb9]; decide) (by decide) ?_
        refine sm_iconst (v := -1) (q := 171) dX5_operatorHere_170 rfl (by decide) ?_
        obtain rfl := Option.some.inj h
        exact sm_iret dX5_operatorHere_171 rfl
      · rcases sm_if_e h with ⟨hb10, h⟩ | ⟨hb10, h⟩
        · refine sm_tableIn (q := 74) (off := 73) dX5_operatorHere_1 (by rw [hb10]; decide) (by rw [hb10]; decide) (by rw [hb10]; decide) (by decide) ?_
          refine sm_aload_n (q := 75) dX5_operatorHere_74 rfl rfl 0 rfl ?_
          refine sm_bipush (v := 60) (q := 77) dX5_operatorHere_75 rfl (by decide) ?_
          obtain ⟨hc11, h⟩ := sm_gd_e h
          obtain ⟨p12, hc_p12, h⟩ := sm_bd_e h
          refine sm_callVi (q := 80) (As := [.inl (60 : Int32)]) (S := []) (e_X5_isSign hc_p12) mv_X5_165 hc11 rfl (by decide) (Nat.le_of_ble_eq_true rfl) dX5_operatorHere_77 rfl ?_
          rcases sm_if_e h with ⟨hb13, h⟩ | ⟨hb13, h⟩
          · refine sm_if_eq (tgt := 89) (q := 83) dX5_operatorHere_80 (by decide) rfl (fun _ => ?_) (fun hn => absurd hb13 hn)
            refine sm_aload_n (q := 90) dX5_operatorHere_89 rfl rfl 0 rfl ?_
            refine sm_bipush (v := 61) (q := 92) dX5_operatorHere_90 rfl (by decide) ?_
            obtain ⟨p14, hc_p14, h⟩ := sm_bd_e h
            refine sm_callVi (q := 95) (As := [.inl (61 : Int32)]) (S := []) (e_X5_isSign hc_p14) mv_X5_165 hc11 rfl (by decide) (Nat.le_of_ble_eq_true rfl) dX5_operatorHere_92 rfl ?_
            rcases sm_if_e h with ⟨hb15, h⟩ | ⟨hb15, h⟩
            · refine sm_if_eq (tgt := 104) (q := 98) dX5_operatorHere_95 (by decide) rfl (fun _ => ?_) (fun hn => absurd hb15 hn)
              refine sm_iconst (v := -1) (q := 105) dX5_operatorHere_104 rfl (by decide) ?_
              obtain rfl := Option.some.inj h
              exact sm_iret dX5_operatorHere_105 rfl
            · refine sm_if_eq (tgt := 104) (q := 98) dX5_operatorHere_95 (by decide) rfl (fun ht => absurd ht hb15) (fun _ => ?_)
              refine sm_sipush (v := 20004) (q := 101) dX5_operatorHere_98 rfl (by decide) ?_
              refine sm_goto (q := 105) dX5_operatorHere_101 (by decide) ?_
              obtain rfl := Option.some.inj h
              exact sm_iret dX5_operatorHere_105 rfl
          · refine sm_if_eq (tgt := 89) (q := 83) dX5_operatorHere_80 (by decide) rfl (fun ht => absurd ht hb13) (fun _ => ?_)
            refine sm_sipush (v := 20003) (q := 86) dX5_operatorHere_83 rfl (by decide) ?_
            refine sm_goto (q := 105) dX5_operatorHere_86 (by decide) ?_
            obtain rfl := Option.some.inj h
            exact sm_iret dX5_operatorHere_105 rfl
        · rcases sm_if_e h with ⟨hb16, h⟩ | ⟨hb16, h⟩
          · refine sm_tableIn (q := 106) (off := 105) dX5_operatorHere_1 (by rw [hb16]; decide) (by rw [hb16]; decide) (by rw [hb16]; decide) (by decide) ?_
            refine sm_aload_n (q := 107) dX5_operatorHere_106 rfl rfl 0 rfl ?_
            refine sm_bipush (v := 43) (q := 109) dX5_operatorHere_107 rfl (by decide) ?_
            obtain ⟨hc17, h⟩ := sm_gd_e h
            obtain ⟨p18, hc_p18, h⟩ := sm_bd_e h
            refine sm_callVi (q := 112) (As := [.inl (43 : Int32)]) (S := []) (e_X5_isSign hc_p18) mv_X5_165 hc17 rfl (by decide) (Nat.le_of_ble_eq_true rfl) dX5_operatorHere_109 rfl ?_
            rcases sm_if_e h with ⟨hb19, h⟩ | ⟨hb19, h⟩
            · refine sm_if_eq (tgt := 121) (q := 115) dX5_operatorHere_112 (by decide) rfl (fun _ => ?_) (fun hn => absurd hb19 hn)
              refine sm_aload_n (q := 122) dX5_operatorHere_121 rfl rfl 0 rfl ?_
              refine sm_bipush (v := 45) (q := 124) dX5_operatorHere_122 rfl (by decide) ?_
              obtain ⟨p20, hc_p20, h⟩ := sm_bd_e h
              refine sm_callVi (q := 127) (As := [.inl (45 : Int32)]) (S := []) (e_X5_isSign hc_p20) mv_X5_165 hc17 rfl (by decide) (Nat.le_of_ble_eq_true rfl) dX5_operatorHere_124 rfl ?_
              rcases sm_if_e h with ⟨hb21, h⟩ | ⟨hb21, h⟩
              · refine sm_if_eq (tgt := 136) (q := 130) dX5_operatorHere_127 (by decide) rfl (fun _ => ?_) (fun hn => absurd hb21 hn)
                refine sm_iconst (v := -1) (q := 137) dX5_operatorHere_136 rfl (by decide) ?_
                obtain rfl := Option.some.inj h
                exact sm_iret dX5_operatorHere_137 rfl
              · refine sm_if_eq (tgt := 136) (q := 130) dX5_operatorHere_127 (by decide) rfl (fun ht => absurd ht hb21) (fun _ => ?_)
                refine sm_sipush (v := 20006) (q := 133) dX5_operatorHere_130 rfl (by decide) ?_
                refine sm_goto (q := 137) dX5_operatorHere_133 (by decide) ?_
                obtain rfl := Option.some.inj h
                exact sm_iret dX5_operatorHere_137 rfl
            · refine sm_if_eq (tgt := 121) (q := 115) dX5_operatorHere_112 (by decide) rfl (fun ht => absurd ht hb19) (fun _ => ?_)
              refine sm_sipush (v := 20005) (q := 118) dX5_operatorHere_115 rfl (by decide) ?_
              refine sm_goto (q := 137) dX5_operatorHere_118 (by decide) ?_
              obtain rfl := Option.some.inj h
              exact sm_iret dX5_operatorHere_137 rfl
          · rcases sm_if_e h with ⟨hb22, h⟩ | ⟨hb22, h⟩
            · refine sm_tableIn (q := 138) (off := 137) dX5_operatorHere_1 (by rw [hb22]; decide) (by rw [hb22]; decide) (by rw [hb22]; decide) (by decide) ?_
              refine sm_aload_n (q := 139) dX5_operatorHere_138 rfl rfl 0 rfl ?_
              refine sm_bipush (v := 42) (q := 141) dX5_operatorHere_139 rfl (by decide) ?_
              obtain ⟨hc23, h⟩ := sm_gd_e h
              obtain ⟨p24, hc_p24, h⟩ := sm_bd_e h
              refine sm_callVi (q := 144) (As := [.inl (42 : Int32)]) (S := []) (e_X5_isSign hc_p24) mv_X5_165 hc23 rfl (by decide) (Nat.le_of_ble_eq_true rfl) dX5_operatorHere_141 rfl ?_
              rcases sm_if_e h with ⟨hb25, h⟩ | ⟨hb25, h⟩
              · refine sm_if_eq (tgt := 153) (q := 147) dX5_operatorHere_144 (by decide) rfl (fun _ => ?_) (fun hn => absurd hb25 hn)
                refine sm_aload_n (q := 154) dX5_operatorHere_153 rfl rfl 0 rfl ?_
                refine sm_bipush (v := 47) (q := 156) dX5_operatorHere_154 rfl (by decide) ?_
                obtain ⟨p26, hc_p26, h⟩ := sm_bd_e h
                refine sm_callVi (q := 159) (As := [.inl (47 : Int32)]) (S := []) (e_X5_isSign hc_p26) mv_X5_165 hc23 rfl (by decide) (Nat.le_of_ble_eq_true rfl) dX5_operatorHere_156 rfl ?_
                rcases sm_if_e h with ⟨hb27, h⟩ | ⟨hb27, h⟩
                · refine sm_if_eq (tgt := 168) (q := 162) dX5_operatorHere_159 (by decide) rfl (fun _ => ?_) (fun hn => absurd hb27 hn)
                  refine sm_iconst (v := -1) (q := 169) dX5_operatorHere_168 rfl (by decide) ?_
                  obtain rfl := Option.some.inj h
                  exact sm_iret dX5_operatorHere_169 rfl
                · refine sm_if_eq (tgt := 168) (q := 162) dX5_operatorHere_159 (by decide) rfl (fun ht => absurd ht hb27) (fun _ => ?_)
                  refine sm_sipush (v := 20008) (q := 165) dX5_operatorHere_162 rfl (by decide) ?_
                  refine sm_goto (q := 169) dX5_operatorHere_165 (by decide) ?_
                  obtain rfl := Option.some.inj h
                  exact sm_iret dX5_operatorHere_169 rfl
              · refine sm_if_eq (tgt := 153) (q := 147) dX5_operatorHere_144 (by decide) rfl (fun ht => absurd ht hb25) (fun _ => ?_)
                refine sm_sipush (v := 20007) (q := 150) dX5_operatorHere_147 rfl (by decide) ?_
                refine sm_goto (q := 169) dX5_operatorHere_150 (by decide) ?_
                obtain rfl := Option.some.inj h
                exact sm_iret dX5_operatorHere_169 rfl
            · refine sm_tableOut (q := 170) dX5_operatorHere_1 (sm_sw (fun v h1 h2 he => (fun e => e.elim (fun e => hb1 (he.trans ((congrArg Int32.ofInt e).trans (by decide)))) (fun e => e.elim (fun e => hb5 (he.trans ((congrArg Int32.ofInt e).trans (by decide)))) (fun e => e.elim (fun e => hb9 (he.trans ((congrArg Int32.ofInt e).trans (by decide)))) (fun e => e.elim (fun e => hb10 (he.trans ((congrArg Int32.ofInt e).trans (by decide)))) (fun e => e.elim (fun e => hb16 (he.trans ((congrArg Int32.ofInt e).trans (by decide)))) (fun e => hb22 (he.trans ((congrArg Int32.ofInt e).trans (by decide))))))))) (show v = 0 ∨ v = 1 ∨ v = 2 ∨ v = 3 ∨ v = 4 ∨ v = 5 by omega))) (by decide) ?_
              refine sm_iconst (v := -1) (q := 171) dX5_operatorHere_170 rfl (by decide) ?_
              obtain rfl := Option.some.inj h
              exact sm_iret dX5_operatorHere_171 rfl
theorem e_X5_operatorHere {l : Launch} {N : Nat} {R : Nat → Nat → Nat} {a0 : Nat} {a1 : Int32} {I : (Nat → Nat → Int32)} {y : (Int32 × (Nat → Nat → Int32))} (h : f_X5_operatorHere N R a0 a1 I = some y) : sm_E l 5 mX5_operatorHere [.inr (.inl a0), .inl a1] (I, R) (.inl (some (.inl y.1))) (y.2, R) :=
  sm_meth (by decide) (Nat.le_of_ble_eq_true rfl) (w_X5_operatorHere N R a0 a1 I y h)
def f_X5_readPart_53 (N : Nat) (R : Nat → Nat → Nat) (rc_X5_readPart : Nat → Int32 → (Nat → Nat → Int32) → Option (Unit × (Nat → Nat → Int32))) (rc_X5_readLevel : Nat → Int32 → Int32 → (Nat → Nat → Int32) → Option (Unit × (Nat → Nat → Int32))) : Nat → Int32 → (Nat → Nat → Int32) → Option (Unit × (Nat → Nat → Int32)) := fun a0 a1 I =>
  sm_gd (sm_kd a0 = (5, 11)) <|
  if (I a0 3) = (2 : Int32) then (
    sm_gd (sm_kd (R a0 2) = (7, 9)) <|
    (f_X5_valueHere N R a0 I).bind fun p4 =>
    sm_gd (sm_kd (R (R a0 2) 4) = (6, 4)) <|
    (f_X6_add N R (R (R a0 2) 4) ((10000 : Int32) + p4.1) p4.2).bind fun p6 =>
    (f_X5_advance N R a0 p6.2).bind fun p7 =>
    some ((), p7.2))
  else (
    (f_X5_isSign N R a0 (40 : Int32) I).bind fun p8 =>
    if p8.1 = 0 then (
      (f_X5_stop N R a0 (1 : Int32) p8.2).bind fun p10 =>
      some ((), p10.2))
    else (
      (f_X5_advance N R a0 p8.2).bind fun p11 =>
      (rc_X5_readLevel a0 (0 : Int32) (a1 + (1 : Int32)) p11.2).bind fun p12 =>
      (f_X5_skipSign N R a0 (41 : Int32) p12.2).bind fun p13 =>
      some ((), p13.2)))
def f_X5_readPart (N : Nat) (R : Nat → Nat → Nat) (rc_X5_readPart : Nat → Int32 → (Nat → Nat → Int32) → Option (Unit × (Nat → Nat → Int32))) (rc_X5_readLevel : Nat → Int32 → Int32 → (Nat → Nat → Int32) → Option (Unit × (Nat → Nat → Int32))) : Nat → Int32 → (Nat → Nat → Int32) → Option (Unit × (Nat → Nat → Int32)) := fun a0 a1 I =>
  sm_gd (sm_kd a0 = (5, 11)) <|
  if (I a0 3) = (1 : Int32) then (
    sm_gd (sm_kd (R a0 2) = (7, 9)) <|
    (f_X5_readNumber N R a0 (0 : Int32) (9999 : Int32) I).bind fun p4 =>
    sm_gd (sm_kd (R (R a0 2) 4) = (6, 4)) <|
    (f_X6_add N R (R (R a0 2) 4) p4.1 p4.2).bind fun p6 =>
    some ((), p6.2))
  else (
    if (I a0 3) = (2 : Int32) then (
      (f_X5_valueHere N R a0 I).bind fun p8 =>
      if p8.1 = (-1 : Int32) then (
        (f_X5_stop N R a0 (3 : Int32) p8.2).bind fun p10 =>
        some ((), p10.2))
      else (
        f_X5_readPart_53 N R rc_X5_readPart rc_X5_readLevel a0 a1 p8.2))
    else (
      f_X5_readPart_53 N R rc_X5_readPart rc_X5_readLevel a0 a1 I))
set_option maxHeartbeats 4000000 in
set_option maxRecDepth 100000 in
theorem w_X5_readPart_53 {l : Launch} (N : Nat) (R : Nat → Nat → Nat) (rc_X5_readPart : Nat → Int32 → (Nat → Nat → Int32) → Option (Unit × (Nat → Nat → Int32))) (rc_X5_readLevel : Nat → Int32 → Int32 → (Nat → Nat → Int32) → Option (Unit × (Nat → Nat → Int32))) (dd : Nat) (hdd : 6 ≤ dd) (hrc_X5_readPart : ∀ (a0 : Nat) (a1 : Int32) (I : (Nat → Nat → Int32)) (y : (Unit × (Nat → Nat → Int32))), rc_X5_readPart a0 a1 I = some y → sm_E l dd mX5_readPart [.inr (.inl a0), .inl a1] (I, R) (.inl none) (y.2, R)) (hrc_X5_readLevel : ∀ (a0 : Nat) (a1 : Int32) (a2 : Int32) (I : (Nat → Nat → Int32)) (y : (Unit × (Nat → Nat → Int32))), rc_X5_readLevel a0 a1 a2 I = some y → sm_E l dd mX5_readLevel [.inr (.inl a0), .inl a1, .inl a2] (I, R) (.inl none) (y.2, R)) : ∀ (a0 : Nat) (a1 : Int32) (I : (Nat → Nat → Int32)) (y : (Unit × (Nat → Nat → Int32))), f_X5_readPart_53 N R rc_X5_readPart rc_X5_readLevel a0 a1 I = some y → sm_W l (dd + 1) mX5_readPart 53 [(0, .inr (.inl a0)), (1, .inl a1)] [] (I, R) (.inl none) (y.2, R) := by
  intro a0 a1 I y h
  unfold f_X5_readPart_53 at h
  refine sm_aload_n (q := 54) dX5_readPart_53 rfl rfl 0 rfl ?_
  obtain ⟨hc1, h⟩ := sm_gd_e h
  refine sm_getI (q := 57) dX5_readPart_54 rfl fk_X5_54 hc1 (by decide) (by decide) ?_
  refine sm_iconst (v := 2) (q := 58) dX5_readPart_57 rfl (by decide) ?_
  rcases sm_if_e h with ⟨hb2, h⟩ | ⟨hb2, h⟩
  · refine sm_icmp_ne (tgt := 86) (q := 61) dX5_readPart_58 (by decide) rfl (fun hn => absurd hb2 hn) (fun _ => ?_)
    refine sm_aload_n (q := 62) dX5_readPart_61 rfl rfl 0 rfl ?_
    refine sm_getR (r := R a0 2) (q := 65) dX5_readPart_62 rfl fk_X5_18 hc1 (by decide) (by decide) rfl ?_
    obtain ⟨hc3, h⟩ := sm_gd_e h
    refine sm_getR (r := R (R a0 2) 4) (q := 68) dX5_readPart_65 rfl fk_X5_152 hc3 (by decide) (by decide) rfl ?_
    refine sm_sipush (v := 10000) (q := 71) dX5_readPart_68 rfl (by decide) ?_
    refine sm_aload_n (q := 72) dX5_readPart_71 rfl rfl 0 rfl ?_
    obtain ⟨p4, hc_p4, h⟩ := sm_bd_e h
    refine sm_callVi (q := 75) (As := []) (S := [.inl (10000 : Int32), .inr (.inl (R (R a0 2) 4))]) (e_X5_valueHere hc_p4) mv_X5_189 hc1 rfl (by omega) (Nat.le_of_ble_eq_true rfl) dX5_readPart_72 rfl ?_
    refine sm_iadd (q := 76) dX5_readPart_75 rfl ?_
    obtain ⟨hc5, h⟩ := sm_gd_e h
    obtain ⟨p6, hc_p6, h⟩ := sm_bd_e h
    refine sm_callVv (q := 79) (As := [.inl ((10000 : Int32) + p4.1)]) (S := []) (e_X6_add hc_p6) mv_X5_176 hc5 rfl (by omega) (Nat.le_of_ble_eq_true rfl) dX5_readPart_76 rfl ?_
    refine sm_aload_n (q := 80) dX5_readPart_79 rfl rfl 0 rfl ?_
    obtain ⟨p7, hc_p7, h⟩ := sm_bd_e h
    refine sm_callVv (q := 83) (As := []) (S := []) (e_X5_advance hc_p7) mv_X5_51 hc1 rfl (by omega) (Nat.le_of_ble_eq_true rfl) dX5_readPart_80 rfl ?_
    refine sm_goto (q := 121) dX5_readPart_83 (by decide) ?_
    obtain rfl := Option.some.inj h
    exact sm_vret dX5_readPart_121 rfl
  · refine sm_icmp_ne (tgt := 86) (q := 61) dX5_readPart_58 (by decide) rfl (fun _ => ?_) (fun he => absurd he hb2)
    refine sm_aload_n (q := 87) dX5_readPart_86 rfl rfl 0 rfl ?_
    refine sm_bipush (v := 40) (q := 89) dX5_readPart_87 rfl (by decide) ?_
    obtain ⟨p8, hc_p8, h⟩ := sm_bd_e h
    refine sm_callVi (q := 92) (As := [.inl (40 : Int32)]) (S := []) (e_X5_isSign hc_p8) mv_X5_165 hc1 rfl (by omega) (Nat.le_of_ble_eq_true rfl) dX5_readPart_89 rfl ?_
    rcases sm_if_e h with ⟨hb9, h⟩ | ⟨hb9, h⟩
    · refine sm_if_eq (tgt := 116) (q := 95) dX5_readPart_92 (by decide) rfl (fun _ => ?_) (fun hn => absurd hb9 hn)
      refine sm_aload_n (q := 117) dX5_readPart_116 rfl rfl 0 rfl ?_
      refine sm_iconst (v := 1) (q := 118) dX5_readPart_117 rfl (by decide) ?_
      obtain ⟨p10, hc_p10, h⟩ := sm_bd_e h
      refine sm_callVv (q := 121) (As := [.inl (1 : Int32)]) (S := []) (e_X5_stop hc_p10) mv_X5_88 hc1 rfl (by omega) (Nat.le_of_ble_eq_true rfl) dX5_readPart_118 rfl ?_
      obtain rfl := Option.some.inj h
      exact sm_vret dX5_readPart_121 rfl
    · refine sm_if_eq (tgt := 116) (q := 95) dX5_readPart_92 (by decide) rfl (fun ht => absurd ht hb9) (fun _ => ?_)
      refine sm_aload_n (q := 96) dX5_readPart_95 rfl rfl 0 rfl ?_
      obtain ⟨p11, hc_p11, h⟩ := sm_bd_e h
      refine sm_callVv (q := 99) (As := []) (S := []) (e_X5_advance hc_p11) mv_X5_51 hc1 rfl (by omega) (Nat.le_of_ble_eq_true rfl) dX5_readPart_96 rfl ?_
      refine sm_aload_n (q := 100) dX5_readPart_99 rfl rfl 0 rfl ?_
      refine sm_iconst (v := 0) (q := 101) dX5_readPart_100 rfl (by decide) ?_
      refine sm_iload_n (q := 102) dX5_readPart_101 rfl rfl 1 rfl ?_
      refine sm_iconst (v := 1) (q := 103) dX5_readPart_102 rfl (by decide) ?_
      refine sm_iadd (q := 104) dX5_readPart_103 rfl ?_
      obtain ⟨p12, hc_p12, h⟩ := sm_bd_e h
      refine sm_callVv (q := 107) (As := [.inl (0 : Int32), .inl (a1 + (1 : Int32))]) (S := []) (hrc_X5_readLevel _ _ _ _ _ hc_p12) mv_X5_161 hc1 rfl (by omega) (Nat.le_of_ble_eq_true rfl) dX5_readPart_104 rfl ?_
      refine sm_aload_n (q := 108) dX5_readPart_107 rfl rfl 0 rfl ?_
      refine sm_bipush (v := 41) (q := 110) dX5_readPart_108 rfl (by decide) ?_
      obtain ⟨p13, hc_p13, h⟩ := sm_bd_e h
      refine sm_callVv (q := 113) (As := [.inl (41 : Int32)]) (S := []) (e_X5_skipSign hc_p13) mv_X5_92 hc1 rfl (by omega) (Nat.le_of_ble_eq_true rfl) dX5_readPart_110 rfl ?_
      refine sm_goto (q := 121) dX5_readPart_113 (by decide) ?_
      obtain rfl := Option.some.inj h
      exact sm_vret dX5_readPart_121 rfl
set_option maxHeartbeats 4000000 in
set_option maxRecDepth 100000 in
theorem w_X5_readPart {l : Launch} (N : Nat) (R : Nat → Nat → Nat) (rc_X5_readPart : Nat → Int32 → (Nat → Nat → Int32) → Option (Unit × (Nat → Nat → Int32))) (rc_X5_readLevel : Nat → Int32 → Int32 → (Nat → Nat → Int32) → Option (Unit × (Nat → Nat → Int32))) (dd : Nat) (hdd : 6 ≤ dd) (hrc_X5_readPart : ∀ (a0 : Nat) (a1 : Int32) (I : (Nat → Nat → Int32)) (y : (Unit × (Nat → Nat → Int32))), rc_X5_readPart a0 a1 I = some y → sm_E l dd mX5_readPart [.inr (.inl a0), .inl a1] (I, R) (.inl none) (y.2, R)) (hrc_X5_readLevel : ∀ (a0 : Nat) (a1 : Int32) (a2 : Int32) (I : (Nat → Nat → Int32)) (y : (Unit × (Nat → Nat → Int32))), rc_X5_readLevel a0 a1 a2 I = some y → sm_E l dd mX5_readLevel [.inr (.inl a0), .inl a1, .inl a2] (I, R) (.inl none) (y.2, R)) : ∀ (a0 : Nat) (a1 : Int32) (I : (Nat → Nat → Int32)) (y : (Unit × (Nat → Nat → Int32))), f_X5_readPart N R rc_X5_readPart rc_X5_readLevel a0 a1 I = some y → sm_W l (dd + 1) mX5_readPart 0 [(0, .inr (.inl a0)), (1, .inl a1)] [] (I, R) (.inl none) (y.2, R) := by
  intro a0 a1 I y h
  unfold f_X5_readPart at h
  refine sm_aload_n (q := 1) dX5_readPart_0 rfl rfl 0 rfl ?_
  obtain ⟨hc1, h⟩ := sm_gd_e h
  refine sm_getI (q := 4) dX5_readPart_1 rfl fk_X5_54 hc1 (by decide) (by decide) ?_
  refine sm_iconst (v := 1) (q := 5) dX5_readPart_4 rfl (by decide) ?_
  rcases sm_if_e h with ⟨hb2, h⟩ | ⟨hb2, h⟩
  · refine sm_icmp_ne (tgt := 29) (q := 8) dX5_readPart_5 (by decide) rfl (fun hn => absurd hb2 hn) (fun _ => ?_)
    refine sm_aload_n (q := 9) dX5_readPart_8 rfl rfl 0 rfl ?_
    refine sm_getR (r := R a0 2) (q := 12) dX5_readPart_9 rfl fk_X5_18 hc1 (by decide) (by decide) rfl ?_
    obtain ⟨hc3, h⟩ := sm_gd_e h
    refine sm_getR (r := R (R a0 2) 4) (q := 15) dX5_readPart_12 rfl fk_X5_152 hc3 (by decide) (by decide) rfl ?_
    refine sm_aload_n (q := 16) dX5_readPart_15 rfl rfl 0 rfl ?_
    refine sm_iconst (v := 0) (q := 17) dX5_readPart_16 rfl (by decide) ?_
    refine sm_sipush (v := 9999) (q := 20) dX5_readPart_17 rfl (by decide) ?_
    obtain ⟨p4, hc_p4, h⟩ := sm_bd_e h
    refine sm_callVi (q := 23) (As := [.inl (0 : Int32), .inl (9999 : Int32)]) (S := [.inr (.inl (R (R a0 2) 4))]) (e_X5_readNumber hc_p4) mv_X5_108 hc1 rfl (by omega) (Nat.le_of_ble_eq_true rfl) dX5_readPart_20 rfl ?_
    obtain ⟨hc5, h⟩ := sm_gd_e h
    obtain ⟨p6, hc_p6, h⟩ := sm_bd_e h
    refine sm_callVv (q := 26) (As := [.inl p4.1]) (S := []) (e_X6_add hc_p6) mv_X5_176 hc5 rfl (by omega) (Nat.le_of_ble_eq_true rfl) dX5_readPart_23 rfl ?_
    refine sm_goto (q := 121) dX5_readPart_26 (by decide) ?_
    obtain rfl := Option.some.inj h
    exact sm_vret dX5_readPart_121 rfl
  · refine sm_icmp_ne (tgt := 29) (q := 8) dX5_readPart_5 (by decide) rfl (fun _ => ?_) (fun he => absurd he hb2)
    refine sm_aload_n (q := 30) dX5_readPart_29 rfl rfl 0 rfl ?_
    refine sm_getI (q := 33) dX5_readPart_30 rfl fk_X5_54 hc1 (by decide) (by decide) ?_
    refine sm_iconst (v := 2) (q := 34) dX5_readPart_33 rfl (by decide) ?_
    rcases sm_if_e h with ⟨hb7, h⟩ | ⟨hb7, h⟩
    · refine sm_icmp_ne (tgt := 53) (q := 37) dX5_readPart_34 (by decide) rfl (fun hn => absurd hb7 hn) (fun _ => ?_)
      refine sm_aload_n (q := 38) dX5_readPart_37 rfl rfl 0 rfl ?_
      obtain ⟨p8, hc_p8, h⟩ := sm_bd_e h
      refine sm_callVi (q := 41) (As := []) (S := []) (e_X5_valueHere hc_p8) mv_X5_189 hc1 rfl (by omega) (Nat.le_of_ble_eq_true rfl) dX5_readPart_38 rfl ?_
      refine sm_iconst (v := -1) (q := 42) dX5_readPart_41 rfl (by decide) ?_
      rcases sm_if_e h with ⟨hb9, h⟩ | ⟨hb9, h⟩
      · refine sm_icmp_ne (tgt := 53) (q := 45) dX5_readPart_42 (by decide) rfl (fun hn => absurd hb9 hn) (fun _ => ?_)
        refine sm_aload_n (q := 46) dX5_readPart_45 rfl rfl 0 rfl ?_
        refine sm_iconst (v := 3) (q := 47) dX5_readPart_46 rfl (by decide) ?_
        obtain ⟨p10, hc_p10, h⟩ := sm_bd_e h
        refine sm_callVv (q := 50) (As := [.inl (3 : Int32)]) (S := []) (e_X5_stop hc_p10) mv_X5_88 hc1 rfl (by omega) (Nat.le_of_ble_eq_true rfl) dX5_readPart_47 rfl ?_
        refine sm_goto (q := 121) dX5_readPart_50 (by decide) ?_
        obtain rfl := Option.some.inj h
        exact sm_vret dX5_readPart_121 rfl
      · refine sm_icmp_ne (tgt := 53) (q := 45) dX5_readPart_42 (by decide) rfl (fun _ => ?_) (fun he => absurd he hb9)
        refine sm_pick [0, 1] rfl ?_
        exact w_X5_readPart_53 N R rc_X5_readPart rc_X5_readLevel dd hdd hrc_X5_readPart hrc_X5_readLevel _ _ _ _ h
    · refine sm_icmp_ne (tgt := 53) (q := 37) dX5_readPart_34 (by decide) rfl (fun _ => ?_) (fun he => absurd he hb7)
      refine sm_pick [0, 1] rfl ?_
      exact w_X5_readPart_53 N R rc_X5_readPart rc_X5_readLevel dd hdd hrc_X5_readPart hrc_X5_readLevel _ _ _ _ h
def f_X5_readLevel_127 (N : Nat) (R : Nat → Nat → Nat) (rc_X5_readPart : Nat → Int32 → (Nat → Nat → Int32) → Option (Unit × (Nat → Nat → Int32))) (rc_X5_readLevel : Nat → Int32 → Int32 → (Nat → Nat → Int32) → Option (Unit × (Nat → Nat → Int32))) : Nat → Nat → Int32 → Int32 → Int32 → Int32 → Int32 → (Nat → Nat → Int32) → Option (Unit × (Nat → Nat → Int32))
  | 0, _, _, _, _, _, _, _ => none
  | n + 1, a0, a1, a2, a4, a5, a6, I =>
    if a4 ≤ a6 then (
      some ((), I))
    else (
      if a5 = (-1 : Int32) then (
        some ((), I))
      else (
        sm_gd (sm_kd a0 = (5, 11)) <|
        (f_X5_advance N R a0 I).bind fun p4 =>
        (rc_X5_readLevel a0 (a1 + (1 : Int32)) a2 p4.2).bind fun p5 =>
        sm_gd (sm_kd (R a0 2) = (7, 9)) <|
        sm_gd (sm_kd (R (R a0 2) 4) = (6, 4)) <|
        (f_X6_add N R (R (R a0 2) 4) a5 p5.2).bind fun p8 =>
        (f_X5_operatorHere N R a0 a1 p8.2).bind fun p9 =>
        f_X5_readLevel_127 N R rc_X5_readPart rc_X5_readLevel n a0 a1 a2 a4 p9.1 (a6 + 1) p9.2))
def f_X5_readLevel_78 (N : Nat) (R : Nat → Nat → Nat) (rc_X5_readPart : Nat → Int32 → (Nat → Nat → Int32) → Option (Unit × (Nat → Nat → Int32))) (rc_X5_readLevel : Nat → Int32 → Int32 → (Nat → Nat → Int32) → Option (Unit × (Nat → Nat → Int32))) : Nat → Nat → Int32 → Int32 → Int32 → Int32 → (Nat → Nat → Int32) → Option (Unit × (Nat → Nat → Int32))
  | 0, _, _, _, _, _, _ => none
  | n + 1, a0, a1, a2, a3, a4, I =>
    if a3 ≤ a4 then (
      if a1 = (3 : Int32) then (
        sm_gd (sm_kd a0 = (5, 11)) <|
        (f_X5_operatorHere N R a0 a1 I).bind fun p4 =>
        f_X5_readLevel_127 N R rc_X5_readPart rc_X5_readLevel N a0 a1 a2 (1 : Int32) p4.1 (0 : Int32) p4.2)
      else (
        sm_gd (sm_kd a0 = (5, 11)) <|
        (f_X5_operatorHere N R a0 a1 I).bind fun p6 =>
        f_X5_readLevel_127 N R rc_X5_readPart rc_X5_readLevel N a0 a1 a2 (700 : Int32) p6.1 (0 : Int32) p6.2))
    else (
      sm_gd (sm_kd a0 = (5, 11)) <|
      sm_gd (sm_kd (R a0 2) = (7, 9)) <|
      sm_gd (sm_kd (R (R a0 2) 4) = (6, 4)) <|
      (f_X6_add N R (R (R a0 2) 4) (20002 : Int32) I).bind fun p10 =>
      f_X5_readLevel_78 N R rc_X5_readPart rc_X5_readLevel n a0 a1 a2 a3 (a4 + 1) p10.2)
def f_X5_readLevel_66 (N : Nat) (R : Nat → Nat → Nat) (rc_X5_readPart : Nat → Int32 → (Nat → Nat → Int32) → Option (Unit × (Nat → Nat → Int32))) (rc_X5_readLevel : Nat → Int32 → Int32 → (Nat → Nat → Int32) → Option (Unit × (Nat → Nat → Int32))) : Nat → Int32 → Int32 → Int32 → (Nat → Nat → Int32) → Option (Unit × (Nat → Nat → Int32)) := fun a0 a1 a2 b0 I =>
  sm_gd (sm_kd a0 = (5, 11)) <|
  (rc_X5_readLevel a0 (a1 + (1 : Int32)) a2 I).bind fun p2 =>
  f_X5_readLevel_78 N R rc_X5_readPart rc_X5_readLevel N a0 a1 a2 b0 (0 : Int32) p2.2
def f_X5_readLevel (N : Nat) (R : Nat → Nat → Nat) (rc_X5_readPart : Nat → Int32 → (Nat → Nat → Int32) → Option (Unit × (Nat → Nat → Int32))) (rc_X5_readLevel : Nat → Int32 → Int32 → (Nat → Nat → Int32) → Option (Unit × (Nat → Nat → Int32))) : Nat → Int32 → Int32 → (Nat → Nat → Int32) → Option (Unit × (Nat → Nat → Int32)) := fun a0 a1 a2 I =>
  if a2 < (6 : Int32) then (
    if a1 < (6 : Int32) then (
      if a1 = (2 : Int32) then (
        sm_gd (sm_kd a0 = (5, 11)) <|
        (f_X5_skipNots N R a0 I).bind fun p5 =>
        f_X5_readLevel_66 N R rc_X5_readPart rc_X5_readLevel a0 a1 a2 p5.1 p5.2)
      else (
        f_X5_readLevel_66 N R rc_X5_readPart rc_X5_readLevel a0 a1 a2 (0 : Int32) I))
    else (
      sm_gd (sm_kd a0 = (5, 11)) <|
      (rc_X5_readPart a0 a2 I).bind fun p7 =>
      some ((), p7.2)))
  else (
    sm_gd (sm_kd a0 = (5, 11)) <|
    if (I a0 3) = (1 : Int32) then (
      (f_X5_stop N R a0 (2 : Int32) I).bind fun p10 =>
      some ((), p10.2))
    else (
      if (I a0 3) = (2 : Int32) then (
        (f_X5_stop N R a0 (2 : Int32) I).bind fun p12 =>
        some ((), p12.2))
      else (
        (f_X5_isSign N R a0 (40 : Int32) I).bind fun p13 =>
        if p13.1 = 0 then (
          (f_X5_stop N R a0 (1 : Int32) p13.2).bind fun p15 =>
          some ((), p15.2))
        else (
          (f_X5_stop N R a0 (2 : Int32) p13.2).bind fun p16 =>
          some ((), p16.2)))))
set_option maxHeartbeats 4000000 in
set_option maxRecDepth 100000 in
theorem w_X5_readLevel_127 {l : Launch} (N : Nat) (R : Nat → Nat → Nat) (rc_X5_readPart : Nat → Int32 → (Nat → Nat → Int32) → Option (Unit × (Nat → Nat → Int32))) (rc_X5_readLevel : Nat → Int32 → Int32 → (Nat → Nat → Int32) → Option (Unit × (Nat → Nat → Int32))) (dd : Nat) (hdd : 6 ≤ dd) (hrc_X5_readPart : ∀ (a0 : Nat) (a1 : Int32) (I : (Nat → Nat → Int32)) (y : (Unit × (Nat → Nat → Int32))), rc_X5_readPart a0 a1 I = some y → sm_E l dd mX5_readPart [.inr (.inl a0), .inl a1] (I, R) (.inl none) (y.2, R)) (hrc_X5_readLevel : ∀ (a0 : Nat) (a1 : Int32) (a2 : Int32) (I : (Nat → Nat → Int32)) (y : (Unit × (Nat → Nat → Int32))), rc_X5_readLevel a0 a1 a2 I = some y → sm_E l dd mX5_readLevel [.inr (.inl a0), .inl a1, .inl a2] (I, R) (.inl none) (y.2, R)) : ∀ (n : Nat) (a0 : Nat) (a1 : Int32) (a2 : Int32) (a4 : Int32) (a5 : Int32) (a6 : Int32) (I : (Nat → Nat → Int32)) (y : (Unit × (Nat → Nat → Int32))), f_X5_readLevel_127 N R rc_X5_readPart rc_X5_readLevel n a0 a1 a2 a4 a5 a6 I = some y → sm_W l (dd + 1) mX5_readLevel 127 [(0, .inr (.inl a0)), (1, .inl a1), (2, .inl a2), (4, .inl a4), (5, .inl a5), (6, .inl a6)] [] (I, R) (.inl none) (y.2, R) := by
  intro n
  induction n with
  | zero => intro a0 a1 a2 a4 a5 a6 I y h; cases h
  | succ n ih =>
    intro a0 a1 a2 a4 a5 a6 I y h
    rw [f_X5_readLevel_127] at h
    refine sm_iload (q := 129) dX5_readLevel_127 rfl 5 rfl ?_
    refine sm_iload (q := 131) dX5_readLevel_129 rfl 3 rfl ?_
    rcases sm_if_e h with ⟨hb1, h⟩ | ⟨hb1, h⟩
    · refine sm_icmp_ge (tgt := 177) (q := 134) dX5_readLevel_131 (by decide) rfl (fun _ => ?_) (fun hn => absurd hb1 hn)
      obtain rfl := Option.some.inj h
      exact sm_vret dX5_readLevel_177 rfl
    · refine sm_icmp_ge (tgt := 177) (q := 134) dX5_readLevel_131 (by decide) rfl (fun ht => absurd ht hb1) (fun _ => ?_)
      refine sm_iload (q := 136) dX5_readLevel_134 rfl 4 rfl ?_
      refine sm_iconst (v := -1) (q := 137) dX5_readLevel_136 rfl (by decide) ?_
      rcases sm_if_e h with ⟨hb2, h⟩ | ⟨hb2, h⟩
      · refine sm_icmp_eq (tgt := 177) (q := 140) dX5_readLevel_137 (by decide) rfl (fun _ => ?_) (fun hn => absurd hb2 hn)
        obtain rfl := Option.some.inj h
        exact sm_vret dX5_readLevel_177 rfl
      · refine sm_icmp_eq (tgt := 177) (q := 140) dX5_readLevel_137 (by decide) rfl (fun ht => absurd ht hb2) (fun _ => ?_)
        refine sm_aload_n (q := 141) dX5_readLevel_140 rfl rfl 0 rfl ?_
        obtain ⟨hc3, h⟩ := sm_gd_e h
        obtain ⟨p4, hc_p4, h⟩ := sm_bd_e h
        refine sm_callVv (q := 144) (As := []) (S := []) (e_X5_advance hc_p4) mv_X5_51 hc3 rfl (by omega) (Nat.le_of_ble_eq_true rfl) dX5_readLevel_141 rfl ?_
        refine sm_aload_n (q := 145) dX5_readLevel_144 rfl rfl 0 rfl ?_
        refine sm_iload_n (q := 146) dX5_readLevel_145 rfl rfl 1 rfl ?_
        refine sm_iconst (v := 1) (q := 147) dX5_readLevel_146 rfl (by decide) ?_
        refine sm_iadd (q := 148) dX5_readLevel_147 rfl ?_
        refine sm_iload_n (q := 149) dX5_readLevel_148 rfl rfl 2 rfl ?_
        obtain ⟨p5, hc_p5, h⟩ := sm_bd_e h
        refine sm_callVv (q := 152) (As := [.inl (a1 + (1 : Int32)), .inl a2]) (S := []) (hrc_X5_readLevel _ _ _ _ _ hc_p5) mv_X5_161 hc3 rfl (by omega) (Nat.le_of_ble_eq_true rfl) dX5_readLevel_149 rfl ?_
        refine sm_aload_n (q := 153) dX5_readLevel_152 rfl rfl 0 rfl ?_
        refine sm_getR (r := R a0 2) (q := 156) dX5_readLevel_153 rfl fk_X5_18 hc3 (by decide) (by decide) rfl ?_
        obtain ⟨hc6, h⟩ := sm_gd_e h
        refine sm_getR (r := R (R a0 2) 4) (q := 159) dX5_readLevel_156 rfl fk_X5_152 hc6 (by decide) (by decide) rfl ?_
        refine sm_iload (q := 161) dX5_readLevel_159 rfl 4 rfl ?_
        obtain ⟨hc7, h⟩ := sm_gd_e h
        obtain ⟨p8, hc_p8, h⟩ := sm_bd_e h
        refine sm_callVv (q := 164) (As := [.inl a5]) (S := []) (e_X6_add hc_p8) mv_X5_176 hc7 rfl (by omega) (Nat.le_of_ble_eq_true rfl) dX5_readLevel_161 rfl ?_
        refine sm_aload_n (q := 165) dX5_readLevel_164 rfl rfl 0 rfl ?_
        refine sm_iload_n (q := 166) dX5_readLevel_165 rfl rfl 1 rfl ?_
        obtain ⟨p9, hc_p9, h⟩ := sm_bd_e h
        refine sm_callVi (q := 169) (As := [.inl a1]) (S := []) (e_X5_operatorHere hc_p9) mv_X5_179 hc3 rfl (by omega) (Nat.le_of_ble_eq_true rfl) dX5_readLevel_166 rfl ?_
        refine sm_istore (L' := [(5, .inl p9.1), (0, .inr (.inl a0)), (1, .inl a1), (2, .inl a2), (4, .inl a4), (6, .inl a6)]) (q := 171) dX5_readLevel_169 rfl (by decide) rfl ?_
        refine sm_iinc (v := (a6 + 1)) (L' := [(6, .inl (a6 + 1)), (5, .inl p9.1), (0, .inr (.inl a0)), (1, .inl a1), (2, .inl a2), (4, .inl a4)]) (q := 174) dX5_readLevel_171 rfl 5 rfl rfl (by decide) rfl ?_
        refine sm_goto (q := 127) dX5_readLevel_174 (by decide) ?_
        refine sm_pick [2, 3, 4, 5, 1, 0] rfl ?_
        exact ih _ _ _ _ _ _ _ _ h
set_option maxHeartbeats 4000000 in
set_option maxRecDepth 100000 in
theorem w_X5_readLevel_78 {l : Launch} (N : Nat) (R : Nat → Nat → Nat) (rc_X5_readPart : Nat → Int32 → (Nat → Nat → Int32) → Option (Unit × (Nat → Nat → Int32))) (rc_X5_readLevel : Nat → Int32 → Int32 → (Nat → Nat → Int32) → Option (Unit × (Nat → Nat → Int32))) (dd : Nat) (hdd : 6 ≤ dd) (hrc_X5_readPart : ∀ (a0 : Nat) (a1 : Int32) (I : (Nat → Nat → Int32)) (y : (Unit × (Nat → Nat → Int32))), rc_X5_readPart a0 a1 I = some y → sm_E l dd mX5_readPart [.inr (.inl a0), .inl a1] (I, R) (.inl none) (y.2, R)) (hrc_X5_readLevel : ∀ (a0 : Nat) (a1 : Int32) (a2 : Int32) (I : (Nat → Nat → Int32)) (y : (Unit × (Nat → Nat → Int32))), rc_X5_readLevel a0 a1 a2 I = some y → sm_E l dd mX5_readLevel [.inr (.inl a0), .inl a1, .inl a2] (I, R) (.inl none) (y.2, R)) : ∀ (n : Nat) (a0 : Nat) (a1 : Int32) (a2 : Int32) (a3 : Int32) (a4 : Int32) (I : (Nat → Nat → Int32)) (y : (Unit × (Nat → Nat → Int32))), f_X5_readLevel_78 N R rc_X5_readPart rc_X5_readLevel n a0 a1 a2 a3 a4 I = some y → sm_W l (dd + 1) mX5_readLevel 78 [(0, .inr (.inl a0)), (1, .inl a1), (2, .inl a2), (3, .inl a3), (4, .inl a4)] [] (I, R) (.inl none) (y.2, R) := by
  intro n
  induction n with
  | zero => intro a0 a1 a2 a3 a4 I y h; cases h
  | succ n ih =>
    intro a0 a1 a2 a3 a4 I y h
    rw [f_X5_readLevel_78] at h
    refine sm_iload (q := 80) dX5_readLevel_78 rfl 4 rfl ?_
    refine sm_iload_n (q := 81) dX5_readLevel_80 rfl rfl 3 rfl ?_
    rcases sm_if_e h with ⟨hb1, h⟩ | ⟨hb1, h⟩
    · refine sm_icmp_ge (tgt := 103) (q := 84) dX5_readLevel_81 (by decide) rfl (fun _ => ?_) (fun hn => absurd hb1 hn)
      refine sm_iload_n (q := 104) dX5_readLevel_103 rfl rfl 1 rfl ?_
      refine sm_iconst (v := 3) (q := 105) dX5_readLevel_104 rfl (by decide) ?_
      rcases sm_if_e h with ⟨hb2, h⟩ | ⟨hb2, h⟩
      · refine sm_icmp_ne (tgt := 112) (q := 108) dX5_readLevel_105 (by decide) rfl (fun hn => absurd hb2 hn) (fun _ => ?_)
        refine sm_iconst (v := 1) (q := 109) dX5_readLevel_108 rfl (by decide) ?_
        refine sm_goto (q := 115) dX5_readLevel_109 (by decide) ?_
        refine sm_istore (L' := [(4, .inl (1 : Int32)), (0, .inr (.inl a0)), (1, .inl a1), (2, .inl a2), (3, .inl a3)]) (q := 117) dX5_readLevel_115 rfl (by decide) rfl ?_
        refine sm_aload_n (q := 118) dX5_readLevel_117 rfl rfl 1 rfl ?_
        refine sm_iload_n (q := 119) dX5_readLevel_118 rfl rfl 2 rfl ?_
        obtain ⟨hc3, h⟩ := sm_gd_e h
        obtain ⟨p4, hc_p4, h⟩ := sm_bd_e h
        refine sm_callVi (q := 122) (As := [.inl a1]) (S := []) (e_X5_operatorHere hc_p4) mv_X5_179 hc3 rfl (by omega) (Nat.le_of_ble_eq_true rfl) dX5_readLevel_119 rfl ?_
        refine sm_istore (L' := [(5, .inl p4.1), (4, .inl (1 : Int32)), (0, .inr (.inl a0)), (1, .inl a1), (2, .inl a2), (3, .inl a3)]) (q := 124) dX5_readLevel_122 rfl (by decide) rfl ?_
        refine sm_iconst (v := 0) (q := 125) dX5_readLevel_124 rfl (by decide) ?_
        refine sm_istore (L' := [(6, .inl (0 : Int32)), (5, .inl p4.1), (4, .inl (1 : Int32)), (0, .inr (.inl a0)), (1, .inl a1), (2, .inl a2), (3, .inl a3)]) (q := 127) dX5_readLevel_125 rfl (by decide) rfl ?_
        refine sm_pick [3, 4, 5, 2, 1, 0] rfl ?_
        exact w_X5_readLevel_127 N R rc_X5_readPart rc_X5_readLevel dd hdd hrc_X5_readPart hrc_X5_readLevel N _ _ _ _ _ _ _ _ h
      · refine sm_icmp_ne (tgt := 112) (q := 108) dX5_readLevel_105 (by decide) rfl (fun _ => ?_) (fun he => absurd he hb2)
        refine sm_sipush (v := 700) (q := 115) dX5_readLevel_112 rfl (by decide) ?_
        refine sm_istore (L' := [(4, .inl (700 : Int32)), (0, .inr (.inl a0)), (1, .inl a1), (2, .inl a2), (3, .inl a3)]) (q := 117) dX5_readLevel_115 rfl (by decide) rfl ?_
        refine sm_aload_n (q := 118) dX5_readLevel_117 rfl rfl 1 rfl ?_
        refine sm_iload_n (q := 119) dX5_readLevel_118 rfl rfl 2 rfl ?_
        obtain ⟨hc5, h⟩ := sm_gd_e h
        obtain ⟨p6, hc_p6, h⟩ := sm_bd_e h
        refine sm_callVi (q := 122) (As := [.inl a1]) (S := []) (e_X5_operatorHere hc_p6) mv_X5_179 hc5 rfl (by omega) (Nat.le_of_ble_eq_true rfl) dX5_readLevel_119 rfl ?_
        refine sm_istore (L' := [(5, .inl p6.1), (4, .inl (700 : Int32)), (0, .inr (.inl a0)), (1, .inl a1), (2, .inl a2), (3, .inl a3)]) (q := 124) dX5_readLevel_122 rfl (by decide) rfl ?_
        refine sm_iconst (v := 0) (q := 125) dX5_readLevel_124 rfl (by decide) ?_
        refine sm_istore (L' := [(6, .inl (0 : Int32)), (5, .inl p6.1), (4, .inl (700 : Int32)), (0, .inr (.inl a0)), (1, .inl a1), (2, .inl a2), (3, .inl a3)]) (q := 127) dX5_readLevel_125 rfl (by decide) rfl ?_
        refine sm_pick [3, 4, 5, 2, 1, 0] rfl ?_
        exact w_X5_readLevel_127 N R rc_X5_readPart rc_X5_readLevel dd hdd hrc_X5_readPart hrc_X5_readLevel N _ _ _ _ _ _ _ _ h
    · refine sm_icmp_ge (tgt := 103) (q := 84) dX5_readLevel_81 (by decide) rfl (fun ht => absurd ht hb1) (fun _ => ?_)
      refine sm_aload_n (q := 85) dX5_readLevel_84 rfl rfl 0 rfl ?_
      obtain ⟨hc7, h⟩ := sm_gd_e h
      refine sm_getR (r := R a0 2) (q := 88) dX5_readLevel_85 rfl fk_X5_18 hc7 (by decide) (by decide) rfl ?_
      obtain ⟨hc8, h⟩ := sm_gd_e h
      refine sm_getR (r := R (R a0 2) 4) (q := 91) dX5_readLevel_88 rfl fk_X5_152 hc8 (by decide) (by decide) rfl ?_
      refine sm_sipush (v := 20002) (q := 94) dX5_readLevel_91 rfl (by decide) ?_
      obtain ⟨hc9, h⟩ := sm_gd_e h
      obtain ⟨p10, hc_p10, h⟩ := sm_bd_e h
      refine sm_callVv (q := 97) (As := [.inl (20002 : Int32)]) (S := []) (e_X6_add hc_p10) mv_X5_176 hc9 rfl (by omega) (Nat.le_of_ble_eq_true rfl) dX5_readLevel_94 rfl ?_
      refine sm_iinc (v := (a4 + 1)) (L' := [(4, .inl (a4 + 1)), (0, .inr (.inl a0)), (1, .inl a1), (2, .inl a2), (3, .inl a3)]) (q := 100) dX5_readLevel_97 rfl 4 rfl rfl (by decide) rfl ?_
      refine sm_goto (q := 78) dX5_readLevel_100 (by decide) ?_
      refine sm_pick [1, 2, 3, 4, 0] rfl ?_
      exact ih _ _ _ _ _ _ _ h
set_option maxHeartbeats 4000000 in
set_option maxRecDepth 100000 in
theorem w_X5_readLevel_66 {l : Launch} (N : Nat) (R : Nat → Nat → Nat) (rc_X5_readPart : Nat → Int32 → (Nat → Nat → Int32) → Option (Unit × (Nat → Nat → Int32))) (rc_X5_readLevel : Nat → Int32 → Int32 → (Nat → Nat → Int32) → Option (Unit × (Nat → Nat → Int32))) (dd : Nat) (hdd : 6 ≤ dd) (hrc_X5_readPart : ∀ (a0 : Nat) (a1 : Int32) (I : (Nat → Nat → Int32)) (y : (Unit × (Nat → Nat → Int32))), rc_X5_readPart a0 a1 I = some y → sm_E l dd mX5_readPart [.inr (.inl a0), .inl a1] (I, R) (.inl none) (y.2, R)) (hrc_X5_readLevel : ∀ (a0 : Nat) (a1 : Int32) (a2 : Int32) (I : (Nat → Nat → Int32)) (y : (Unit × (Nat → Nat → Int32))), rc_X5_readLevel a0 a1 a2 I = some y → sm_E l dd mX5_readLevel [.inr (.inl a0), .inl a1, .inl a2] (I, R) (.inl none) (y.2, R)) : ∀ (a0 : Nat) (a1 : Int32) (a2 : Int32) (b0 : Int32) (I : (Nat → Nat → Int32)) (y : (Unit × (Nat → Nat → Int32))), f_X5_readLevel_66 N R rc_X5_readPart rc_X5_readLevel a0 a1 a2 b0 I = some y → sm_W l (dd + 1) mX5_readLevel 66 [(0, .inr (.inl a0)), (1, .inl a1), (2, .inl a2)] [.inl b0] (I, R) (.inl none) (y.2, R) := by
  intro a0 a1 a2 b0 I y h
  unfold f_X5_readLevel_66 at h
  refine sm_istore_n (L' := [(3, .inl b0), (0, .inr (.inl a0)), (1, .inl a1), (2, .inl a2)]) (q := 67) dX5_readLevel_66 rfl rfl (by decide) rfl ?_
  refine sm_aload_n (q := 68) dX5_readLevel_67 rfl rfl 1 rfl ?_
  refine sm_iload_n (q := 69) dX5_readLevel_68 rfl rfl 2 rfl ?_
  refine sm_iconst (v := 1) (q := 70) dX5_readLevel_69 rfl (by decide) ?_
  refine sm_iadd (q := 71) dX5_readLevel_70 rfl ?_
  refine sm_iload_n (q := 72) dX5_readLevel_71 rfl rfl 3 rfl ?_
  obtain ⟨hc1, h⟩ := sm_gd_e h
  obtain ⟨p2, hc_p2, h⟩ := sm_bd_e h
  refine sm_callVv (q := 75) (As := [.inl (a1 + (1 : Int32)), .inl a2]) (S := []) (hrc_X5_readLevel _ _ _ _ _ hc_p2) mv_X5_161 hc1 rfl (by omega) (Nat.le_of_ble_eq_true rfl) dX5_readLevel_72 rfl ?_
  refine sm_iconst (v := 0) (q := 76) dX5_readLevel_75 rfl (by decide) ?_
  refine sm_istore (L' := [(4, .inl (0 : Int32)), (3, .inl b0), (0, .inr (.inl a0)), (1, .inl a1), (2, .inl a2)]) (q := 78) dX5_readLevel_76 rfl (by decide) rfl ?_
  refine sm_pick [2, 3, 4, 1, 0] rfl ?_
  exact w_X5_readLevel_78 N R rc_X5_readPart rc_X5_readLevel dd hdd hrc_X5_readPart hrc_X5_readLevel N _ _ _ _ _ _ _ h
set_option maxHeartbeats 4000000 in
set_option maxRecDepth 100000 in
theorem w_X5_readLevel {l : Launch} (N : Nat) (R : Nat → Nat → Nat) (rc_X5_readPart : Nat → Int32 → (Nat → Nat → Int32) → Option (Unit × (Nat → Nat → Int32))) (rc_X5_readLevel : Nat → Int32 → Int32 → (Nat → Nat → Int32) → Option (Unit × (Nat → Nat → Int32))) (dd : Nat) (hdd : 6 ≤ dd) (hrc_X5_readPart : ∀ (a0 : Nat) (a1 : Int32) (I : (Nat → Nat → Int32)) (y : (Unit × (Nat → Nat → Int32))), rc_X5_readPart a0 a1 I = some y → sm_E l dd mX5_readPart [.inr (.inl a0), .inl a1] (I, R) (.inl none) (y.2, R)) (hrc_X5_readLevel : ∀ (a0 : Nat) (a1 : Int32) (a2 : Int32) (I : (Nat → Nat → Int32)) (y : (Unit × (Nat → Nat → Int32))), rc_X5_readLevel a0 a1 a2 I = some y → sm_E l dd mX5_readLevel [.inr (.inl a0), .inl a1, .inl a2] (I, R) (.inl none) (y.2, R)) : ∀ (a0 : Nat) (a1 : Int32) (a2 : Int32) (I : (Nat → Nat → Int32)) (y : (Unit × (Nat → Nat → Int32))), f_X5_readLevel N R rc_X5_readPart rc_X5_readLevel a0 a1 a2 I = some y → sm_W l (dd + 1) mX5_readLevel 0 [(0, .inr (.inl a0)), (1, .inl a1), (2, .inl a2)] [] (I, R) (.inl none) (y.2, R) := by
  intro a0 a1 a2 I y h
  unfold f_X5_readLevel at h
  refine sm_iload_n (q := 1) dX5_readLevel_0 rfl rfl 2 rfl ?_
  refine sm_bipush (v := 6) (q := 3) dX5_readLevel_1 rfl (by decide) ?_
  rcases sm_if_e h with ⟨hb1, h⟩ | ⟨hb1, h⟩
  · refine sm_icmp_lt (tgt := 41) (q := 6) dX5_readLevel_3 (by decide) rfl (fun _ => ?_) (fun hn => absurd hb1 hn)
    refine sm_iload_n (q := 42) dX5_readLevel_41 rfl rfl 1 rfl ?_
    refine sm_bipush (v := 6) (q := 44) dX5_readLevel_42 rfl (by decide) ?_
    rcases sm_if_e h with ⟨hb2, h⟩ | ⟨hb2, h⟩
    · refine sm_icmp_lt (tgt := 53) (q := 47) dX5_readLevel_44 (by decide) rfl (fun _ => ?_) (fun hn => absurd hb2 hn)
      refine sm_iload_n (q := 54) dX5_readLevel_53 rfl rfl 1 rfl ?_
      refine sm_iconst (v := 2) (q := 55) dX5_readLevel_54 rfl (by decide) ?_
      rcases sm_if_e h with ⟨hb3, h⟩ | ⟨hb3, h⟩
      · refine sm_icmp_ne (tgt := 65) (q := 58) dX5_readLevel_55 (by decide) rfl (fun hn => absurd hb3 hn) (fun _ => ?_)
        refine sm_aload_n (q := 59) dX5_readLevel_58 rfl rfl 0 rfl ?_
        obtain ⟨hc4, h⟩ := sm_gd_e h
        obtain ⟨p5, hc_p5, h⟩ := sm_bd_e h
        refine sm_callVi (q := 62) (As := []) (S := []) (e_X5_skipNots hc_p5) mv_X5_172 hc4 rfl (by omega) (Nat.le_of_ble_eq_true rfl) dX5_readLevel_59 rfl ?_
        refine sm_goto (q := 66) dX5_readLevel_62 (by decide) ?_
        refine sm_pick [0, 1, 2] rfl ?_
        exact w_X5_readLevel_66 N R rc_X5_readPart rc_X5_readLevel dd hdd hrc_X5_readPart hrc_X5_readLevel _ _ _ _ _ _ h
      · refine sm_icmp_ne (tgt := 65) (q := 58) dX5_readLevel_55 (by decide) rfl (fun _ => ?_) (fun he => absurd he hb3)
        refine sm_iconst (v := 0) (q := 66) dX5_readLevel_65 rfl (by decide) ?_
        refine sm_pick [0, 1, 2] rfl ?_
        exact w_X5_readLevel_66 N R rc_X5_readPart rc_X5_readLevel dd hdd hrc_X5_readPart hrc_X5_readLevel _ _ _ _ _ _ h
    · refine sm_icmp_lt (tgt := 53) (q := 47) dX5_readLevel_44 (by decide) rfl (fun ht => absurd ht hb2) (fun _ => ?_)
      refine sm_aload_n (q := 48) dX5_readLevel_47 rfl rfl 0 rfl ?_
      refine sm_iload_n (q := 49) dX5_readLevel_48 rfl rfl 2 rfl ?_
      obtain ⟨hc6, h⟩ := sm_gd_e h
      obtain ⟨p7, hc_p7, h⟩ := sm_bd_e h
      refine sm_callVv (q := 52) (As := [.inl a2]) (S := []) (hrc_X5_readPart _ _ _ _ hc_p7) mv_X5_169 hc6 rfl (by omega) (Nat.le_of_ble_eq_true rfl) dX5_readLevel_49 rfl ?_
      obtain rfl := Option.some.inj h
      exact sm_vret dX5_readLevel_52 rfl
  · refine sm_icmp_lt (tgt := 41) (q := 6) dX5_readLevel_3 (by decide) rfl (fun ht => absurd ht hb1) (fun _ => ?_)
    refine sm_aload_n (q := 7) dX5_readLevel_6 rfl rfl 0 rfl ?_
    refine sm_aload_n (q := 8) dX5_readLevel_7 rfl rfl 0 rfl ?_
    obtain ⟨hc8, h⟩ := sm_gd_e h
    refine sm_getI (q := 11) dX5_readLevel_8 rfl fk_X5_54 hc8 (by decide) (by decide) ?_
    refine sm_iconst (v := 1) (q := 12) dX5_readLevel_11 rfl (by decide) ?_
    rcases sm_if_e h with ⟨hb9, h⟩ | ⟨hb9, h⟩
    · refine sm_icmp_eq (tgt := 32) (q := 15) dX5_readLevel_12 (by decide) rfl (fun _ => ?_) (fun hn => absurd hb9 hn)
      refine sm_iconst (v := 2) (q := 33) dX5_readLevel_32 rfl (by decide) ?_
      refine sm_goto (q := 37) dX5_readLevel_33 (by decide) ?_
      obtain ⟨p10, hc_p10, h⟩ := sm_bd_e h
      refine sm_callVv (q := 40) (As := [.inl (2 : Int32)]) (S := []) (e_X5_stop hc_p10) mv_X5_88 hc8 rfl (by omega) (Nat.le_of_ble_eq_true rfl) dX5_readLevel_37 rfl ?_
      obtain rfl := Option.some.inj h
      exact sm_vret dX5_readLevel_40 rfl
    · refine sm_icmp_eq (tgt := 32) (q := 15) dX5_readLevel_12 (by decide) rfl (fun ht => absurd ht hb9) (fun _ => ?_)
      refine sm_aload_n (q := 16) dX5_readLevel_15 rfl rfl 0 rfl ?_
      refine sm_getI (q := 19) dX5_readLevel_16 rfl fk_X5_54 hc8 (by decide) (by decide) ?_
      refine sm_iconst (v := 2) (q := 20) dX5_readLevel_19 rfl (by decide) ?_
      rcases sm_if_e h with ⟨hb11, h⟩ | ⟨hb11, h⟩
      · refine sm_icmp_eq (tgt := 32) (q := 23) dX5_readLevel_20 (by decide) rfl (fun _ => ?_) (fun hn => absurd hb11 hn)
        refine sm_iconst (v := 2) (q := 33) dX5_readLevel_32 rfl (by decide) ?_
        refine sm_goto (q := 37) dX5_readLevel_33 (by decide) ?_
        obtain ⟨p12, hc_p12, h⟩ := sm_bd_e h
        refine sm_callVv (q := 40) (As := [.inl (2 : Int32)]) (S := []) (e_X5_stop hc_p12) mv_X5_88 hc8 rfl (by omega) (Nat.le_of_ble_eq_true rfl) dX5_readLevel_37 rfl ?_
        obtain rfl := Option.some.inj h
        exact sm_vret dX5_readLevel_40 rfl
      · refine sm_icmp_eq (tgt := 32) (q := 23) dX5_readLevel_20 (by decide) rfl (fun ht => absurd ht hb11) (fun _ => ?_)
        refine sm_aload_n (q := 24) dX5_readLevel_23 rfl rfl 0 rfl ?_
        refine sm_bipush (v := 40) (q := 26) dX5_readLevel_24 rfl (by decide) ?_
        obtain ⟨p13, hc_p13, h⟩ := sm_bd_e h
        refine sm_callVi (q := 29) (As := [.inl (40 : Int32)]) (S := [.inr (.inl a0)]) (e_X5_isSign hc_p13) mv_X5_165 hc8 rfl (by omega) (Nat.le_of_ble_eq_true rfl) dX5_readLevel_26 rfl ?_
        rcases sm_if_e h with ⟨hb14, h⟩ | ⟨hb14, h⟩
        · refine sm_if_eq (tgt := 36) (q := 32) dX5_readLevel_29 (by decide) rfl (fun _ => ?_) (fun hn => absurd hb14 hn)
          refine sm_iconst (v := 1) (q := 37) dX5_readLevel_36 rfl (by decide) ?_
          obtain ⟨p15, hc_p15, h⟩ := sm_bd_e h
          refine sm_callVv (q := 40) (As := [.inl (1 : Int32)]) (S := []) (e_X5_stop hc_p15) mv_X5_88 hc8 rfl (by omega) (Nat.le_of_ble_eq_true rfl) dX5_readLevel_37 rfl ?_
          obtain rfl := Option.some.inj h
          exact sm_vret dX5_readLevel_40 rfl
        · refine sm_if_eq (tgt := 36) (q := 32) dX5_readLevel_29 (by decide) rfl (fun ht => absurd ht hb14) (fun _ => ?_)
          refine sm_iconst (v := 2) (q := 33) dX5_readLevel_32 rfl (by decide) ?_
          refine sm_goto (q := 37) dX5_readLevel_33 (by decide) ?_
          obtain ⟨p16, hc_p16, h⟩ := sm_bd_e h
          refine sm_callVv (q := 40) (As := [.inl (2 : Int32)]) (S := []) (e_X5_stop hc_p16) mv_X5_88 hc8 rfl (by omega) (Nat.le_of_ble_eq_true rfl) dX5_readLevel_37 rfl ?_
          obtain rfl := Option.some.inj h
          exact sm_vret dX5_readLevel_40 rfl
def gG_X5_readPart (N : Nat) (R : Nat → Nat → Nat) : Nat → (Nat → Int32 → (Nat → Nat → Int32) → Option (Unit × (Nat → Nat → Int32))) × (Nat → Int32 → Int32 → (Nat → Nat → Int32) → Option (Unit × (Nat → Nat → Int32)))
  | 0 => (fun _ _ _ => none, fun _ _ _ _ => none)
  | d + 1 => (fun a0 a1 I => f_X5_readPart N R (gG_X5_readPart N R d).1 (gG_X5_readPart N R d).2 a0 a1 I, fun a0 a1 a2 I => f_X5_readLevel N R (gG_X5_readPart N R d).1 (gG_X5_readPart N R d).2 a0 a1 a2 I)
theorem wG_X5_readPart {l : Launch} (N : Nat) (R : Nat → Nat → Nat) : ∀ d : Nat, (∀ (a0 : Nat) (a1 : Int32) (I : Nat → Nat → Int32) (y : (Unit × (Nat → Nat → Int32))), (gG_X5_readPart N R d).1 a0 a1 I = some y → sm_E l (6 + d) mX5_readPart [.inr (.inl a0), .inl a1] (I, R) (.inl none) (y.2, R)) ∧ (∀ (a0 : Nat) (a1 : Int32) (a2 : Int32) (I : Nat → Nat → Int32) (y : (Unit × (Nat → Nat → Int32))), (gG_X5_readPart N R d).2 a0 a1 a2 I = some y → sm_E l (6 + d) mX5_readLevel [.inr (.inl a0), .inl a1, .inl a2] (I, R) (.inl none) (y.2, R)) := by
  intro d
  induction d with
  | zero => exact ⟨fun a0 a1 I y h => (by rw [gG_X5_readPart] at h; cases h), fun a0 a1 a2 I y h => (by rw [gG_X5_readPart] at h; cases h)⟩
  | succ d ih =>
    obtain ⟨h_0, h_1⟩ := ih
    refine ⟨?_, ?_⟩
    · intro a0 a1 I y h
      rw [gG_X5_readPart] at h
      exact sm_meth (by decide) (Nat.le_of_ble_eq_true rfl) (w_X5_readPart N R (gG_X5_readPart N R d).1 (gG_X5_readPart N R d).2 (6 + d) (by omega) h_0 h_1 a0 a1 I y h)
    · intro a0 a1 a2 I y h
      rw [gG_X5_readPart] at h
      exact sm_meth (by decide) (Nat.le_of_ble_eq_true rfl) (w_X5_readLevel N R (gG_X5_readPart N R d).1 (gG_X5_readPart N R d).2 (6 + d) (by omega) h_0 h_1 a0 a1 a2 I y h)
def g_X5_readPart (N : Nat) (R : Nat → Nat → Nat) : Nat → Int32 → (Nat → Nat → Int32) → Option (Unit × (Nat → Nat → Int32)) := fun a0 a1 I => (gG_X5_readPart N R 64).1 a0 a1 I
theorem e_X5_readPart {l : Launch} {N : Nat} {R : Nat → Nat → Nat} {a0 : Nat} {a1 : Int32} {I : Nat → Nat → Int32} {y : (Unit × (Nat → Nat → Int32))} (h : g_X5_readPart N R a0 a1 I = some y) : sm_E l 70 mX5_readPart [.inr (.inl a0), .inl a1] (I, R) (.inl none) (y.2, R) := (wG_X5_readPart N R 64).1 _ _ _ _ h
def g_X5_readLevel (N : Nat) (R : Nat → Nat → Nat) : Nat → Int32 → Int32 → (Nat → Nat → Int32) → Option (Unit × (Nat → Nat → Int32)) := fun a0 a1 a2 I => (gG_X5_readPart N R 64).2 a0 a1 a2 I
theorem e_X5_readLevel {l : Launch} {N : Nat} {R : Nat → Nat → Nat} {a0 : Nat} {a1 : Int32} {a2 : Int32} {I : Nat → Nat → Int32} {y : (Unit × (Nat → Nat → Int32))} (h : g_X5_readLevel N R a0 a1 a2 I = some y) : sm_E l 70 mX5_readLevel [.inr (.inl a0), .inl a1, .inl a2] (I, R) (.inl none) (y.2, R) := (wG_X5_readPart N R 64).2 _ _ _ _ _ h
def f_X5_readLearns (N : Nat) (R : Nat → Nat → Nat) : Nat → (Nat → Nat → Int32) → Option (Unit × (Nat → Nat → Int32)) := fun a0 I =>
  sm_gd (sm_kd a0 = (5, 11)) <|
  sm_gd (sm_kd (R a0 2) = (7, 9)) <|
  sm_gd (sm_kd (R (R a0 2) 4) = (6, 4)) <|
  if (I (R (R a0 2) 4) 2) = 0 then (
    sm_lt (sm_up I (R (R a0 2) 4) (sm_up (I (R (R a0 2) 4)) 2 (1 : Int32))) fun I5 =>
    (f_X5_advance N R a0 I5).bind fun p6 =>
    (g_X5_readLevel N R a0 (0 : Int32) (0 : Int32) p6.2).bind fun p7 =>
    some ((), p7.2))
  else (
    (f_X5_stop N R a0 (5 : Int32) I).bind fun p8 =>
    some ((), p8.2))
set_option maxHeartbeats 4000000 in
set_option maxRecDepth 100000 in
theorem w_X5_readLearns {l : Launch} (N : Nat) (R : Nat → Nat → Nat) : ∀ (a0 : Nat) (I : (Nat → Nat → Int32)) (y : (Unit × (Nat → Nat → Int32))), f_X5_readLearns N R a0 I = some y → sm_W l 71 mX5_readLearns 0 [(0, .inr (.inl a0))] [] (I, R) (.inl none) (y.2, R) := by
  intro a0 I y h
  unfold f_X5_readLearns at h
  refine sm_aload_n (q := 1) dX5_readLearns_0 rfl rfl 0 rfl ?_
  obtain ⟨hc1, h⟩ := sm_gd_e h
  refine sm_getR (r := R a0 2) (q := 4) dX5_readLearns_1 rfl fk_X5_18 hc1 (by decide) (by decide) rfl ?_
  obtain ⟨hc2, h⟩ := sm_gd_e h
  refine sm_getR (r := R (R a0 2) 4) (q := 7) dX5_readLearns_4 rfl fk_X5_152 hc2 (by decide) (by decide) rfl ?_
  obtain ⟨hc3, h⟩ := sm_gd_e h
  refine sm_getI (q := 10) dX5_readLearns_7 rfl fk_X5_156 hc3 (by decide) (by decide) ?_
  rcases sm_if_e h with ⟨hb4, h⟩ | ⟨hb4, h⟩
  · refine sm_if_eq (tgt := 19) (q := 13) dX5_readLearns_10 (by decide) rfl (fun _ => ?_) (fun hn => absurd hb4 hn)
    refine sm_aload_n (q := 20) dX5_readLearns_19 rfl rfl 0 rfl ?_
    refine sm_getR (r := R a0 2) (q := 23) dX5_readLearns_20 rfl fk_X5_18 hc1 (by decide) (by decide) rfl ?_
    refine sm_getR (r := R (R a0 2) 4) (q := 26) dX5_readLearns_23 rfl fk_X5_152 hc2 (by decide) (by decide) rfl ?_
    refine sm_iconst (v := 1) (q := 27) dX5_readLearns_26 rfl (by decide) ?_
    obtain ⟨I5, hI5, h⟩ := sm_lt_e h
    refine sm_putZ (q := 30) dX5_readLearns_27 rfl fk_X5_156 hc3 (by decide) (by decide) (by decide) ?_
    refine sm_memI hI5 ?_
    refine sm_aload_n (q := 31) dX5_readLearns_30 rfl rfl 0 rfl ?_
    obtain ⟨p6, hc_p6, h⟩ := sm_bd_e h
    refine sm_callVv (q := 34) (As := []) (S := []) (e_X5_advance hc_p6) mv_X5_51 hc1 rfl (by decide) (Nat.le_of_ble_eq_true rfl) dX5_readLearns_31 rfl ?_
    refine sm_aload_n (q := 35) dX5_readLearns_34 rfl rfl 0 rfl ?_
    refine sm_iconst (v := 0) (q := 36) dX5_readLearns_35 rfl (by decide) ?_
    refine sm_iconst (v := 0) (q := 37) dX5_readLearns_36 rfl (by decide) ?_
    obtain ⟨p7, hc_p7, h⟩ := sm_bd_e h
    refine sm_callVv (q := 40) (As := [.inl (0 : Int32), .inl (0 : Int32)]) (S := []) (e_X5_readLevel hc_p7) mv_X5_161 hc1 rfl (by decide) (Nat.le_of_ble_eq_true rfl) dX5_readLearns_37 rfl ?_
    obtain rfl := Option.some.inj h
    exact sm_vret dX5_readLearns_40 rfl
  · refine sm_if_eq (tgt := 19) (q := 13) dX5_readLearns_10 (by decide) rfl (fun ht => absurd ht hb4) (fun _ => ?_)
    refine sm_aload_n (q := 14) dX5_readLearns_13 rfl rfl 0 rfl ?_
    refine sm_iconst (v := 5) (q := 15) dX5_readLearns_14 rfl (by decide) ?_
    obtain ⟨p8, hc_p8, h⟩ := sm_bd_e h
    refine sm_callVv (q := 18) (As := [.inl (5 : Int32)]) (S := []) (e_X5_stop hc_p8) mv_X5_88 hc1 rfl (by decide) (Nat.le_of_ble_eq_true rfl) dX5_readLearns_15 rfl ?_
    obtain rfl := Option.some.inj h
    exact sm_vret dX5_readLearns_18 rfl
theorem e_X5_readLearns {l : Launch} {N : Nat} {R : Nat → Nat → Nat} {a0 : Nat} {I : (Nat → Nat → Int32)} {y : (Unit × (Nat → Nat → Int32))} (h : f_X5_readLearns N R a0 I = some y) : sm_E l 71 mX5_readLearns [.inr (.inl a0)] (I, R) (.inl none) (y.2, R) :=
  sm_meth (by decide) (Nat.le_of_ble_eq_true rfl) (w_X5_readLearns N R a0 I y h)
def f_X5_readLine_18 (N : Nat) (R : Nat → Nat → Nat) : Nat → (Nat → Nat → Int32) → Option (Unit × (Nat → Nat → Int32)) := fun a0 I =>
  sm_gd (sm_kd a0 = (5, 11)) <|
  (f_X5_readPiece N R a0 I).bind fun p2 =>
  (f_X5_skipSign N R a0 (59 : Int32) p2.2).bind fun p3 =>
  some ((), p3.2)
def f_X5_readLine_43 (N : Nat) (R : Nat → Nat → Nat) : Nat → (Nat → Nat → Int32) → Option (Unit × (Nat → Nat → Int32)) := fun a0 I =>
  sm_gd (sm_kd a0 = (5, 11)) <|
  (f_X5_readPupil N R a0 I).bind fun p2 =>
  (f_X5_skipSign N R a0 (59 : Int32) p2.2).bind fun p3 =>
  some ((), p3.2)
def f_X5_readLine (N : Nat) (R : Nat → Nat → Nat) : Nat → (Nat → Nat → Int32) → Option (Unit × (Nat → Nat → Int32)) := fun a0 I =>
  sm_gd (sm_kd a0 = (5, 11)) <|
  (f_X5_isWord N R a0 (1000 + 1) I).bind fun p2 =>
  if p2.1 = 0 then (
    (f_X5_isWord N R a0 (1000 + 2) p2.2).bind fun p4 =>
    if p4.1 = 0 then (
      (f_X5_isWord N R a0 (1000 + 3) p4.2).bind fun p6 =>
      if p6.1 = 0 then (
        (f_X5_isWord N R a0 (1000 + 4) p6.2).bind fun p8 =>
        if p8.1 = 0 then (
          (f_X5_isWord N R a0 (1000 + 5) p8.2).bind fun p10 =>
          if p10.1 = 0 then (
            (f_X5_isWord N R a0 (1000 + 6) p10.2).bind fun p12 =>
            if p12.1 = 0 then (
              (f_X5_stop N R a0 (1 : Int32) p12.2).bind fun p14 =>
              (f_X5_skipSign N R a0 (59 : Int32) p14.2).bind fun p15 =>
              some ((), p15.2))
            else (
              (f_X5_readLearns N R a0 p12.2).bind fun p16 =>
              (f_X5_skipSign N R a0 (59 : Int32) p16.2).bind fun p17 =>
              some ((), p17.2)))
          else (
            (f_X5_readPianos N R a0 p10.2).bind fun p18 =>
            (f_X5_skipSign N R a0 (59 : Int32) p18.2).bind fun p19 =>
            some ((), p19.2)))
        else (
          f_X5_readLine_43 N R a0 p8.2))
      else (
        f_X5_readLine_43 N R a0 p6.2))
    else (
      f_X5_readLine_18 N R a0 p4.2))
  else (
    f_X5_readLine_18 N R a0 p2.2)
set_option maxHeartbeats 4000000 in
set_option maxRecDepth 100000 in
theorem w_X5_readLine_18 {l : Launch} (N : Nat) (R : Nat → Nat → Nat) : ∀ (a0 : Nat) (I : (Nat → Nat → Int32)) (y : (Unit × (Nat → Nat → Int32))), f_X5_readLine_18 N R a0 I = some y → sm_W l 72 mX5_readLine 18 [(0, .inr (.inl a0))] [] (I, R) (.inl none) (y.2, R) := by
  intro a0 I y h
  unfold f_X5_readLine_18 at h
  refine sm_aload_n (q := 19) dX5_readLine_18 rfl rfl 0 rfl ?_
  obtain ⟨hc1, h⟩ := sm_gd_e h
  obtain ⟨p2, hc_p2, h⟩ := sm_bd_e h
  refine sm_callVv (q := 22) (As := []) (S := []) (e_X5_readPiece hc_p2) mv_X5_68 hc1 rfl (by decide) (Nat.le_of_ble_eq_true rfl) dX5_readLine_19 rfl ?_
  refine sm_goto (q := 87) dX5_readLine_22 (by decide) ?_
  refine sm_aload_n (q := 88) dX5_readLine_87 rfl rfl 0 rfl ?_
  refine sm_bipush (v := 59) (q := 90) dX5_readLine_88 rfl (by decide) ?_
  obtain ⟨p3, hc_p3, h⟩ := sm_bd_e h
  refine sm_callVv (q := 93) (As := [.inl (59 : Int32)]) (S := []) (e_X5_skipSign hc_p3) mv_X5_92 hc1 rfl (by decide) (Nat.le_of_ble_eq_true rfl) dX5_readLine_90 rfl ?_
  obtain rfl := Option.some.inj h
  exact sm_vret dX5_readLine_93 rfl
set_option maxHeartbeats 4000000 in
set_option maxRecDepth 100000 in
theorem w_X5_readLine_43 {l : Launch} (N : Nat) (R : Nat → Nat → Nat) : ∀ (a0 : Nat) (I : (Nat → Nat → Int32)) (y : (Unit × (Nat → Nat → Int32))), f_X5_readLine_43 N R a0 I = some y → sm_W l 72 mX5_readLine 43 [(0, .inr (.inl a0))] [] (I, R) (.inl none) (y.2, R) := by
  intro a0 I y h
  unfold f_X5_readLine_43 at h
  refine sm_aload_n (q := 44) dX5_readLine_43 rfl rfl 0 rfl ?_
  obtain ⟨hc1, h⟩ := sm_gd_e h
  obtain ⟨p2, hc_p2, h⟩ := sm_bd_e h
  refine sm_callVv (q := 47) (As := []) (S := []) (e_X5_readPupil hc_p2) mv_X5_75 hc1 rfl (by decide) (Nat.le_of_ble_eq_true rfl) dX5_readLine_44 rfl ?_
  refine sm_goto (q := 87) dX5_readLine_47 (by decide) ?_
  refine sm_aload_n (q := 88) dX5_readLine_87 rfl rfl 0 rfl ?_
  refine sm_bipush (v := 59) (q := 90) dX5_readLine_88 rfl (by decide) ?_
  obtain ⟨p3, hc_p3, h⟩ := sm_bd_e h
  refine sm_callVv (q := 93) (As := [.inl (59 : Int32)]) (S := []) (e_X5_skipSign hc_p3) mv_X5_92 hc1 rfl (by decide) (Nat.le_of_ble_eq_true rfl) dX5_readLine_90 rfl ?_
  obtain rfl := Option.some.inj h
  exact sm_vret dX5_readLine_93 rfl
set_option maxHeartbeats 4000000 in
set_option maxRecDepth 100000 in
theorem w_X5_readLine {l : Launch} (N : Nat) (R : Nat → Nat → Nat) : ∀ (a0 : Nat) (I : (Nat → Nat → Int32)) (y : (Unit × (Nat → Nat → Int32))), f_X5_readLine N R a0 I = some y → sm_W l 72 mX5_readLine 0 [(0, .inr (.inl a0))] [] (I, R) (.inl none) (y.2, R) := by
  intro a0 I y h
  unfold f_X5_readLine at h
  refine sm_aload_n (q := 1) dX5_readLine_0 rfl rfl 0 rfl ?_
  refine sm_ldcS (tx := "piece") (q := 3) dX5_readLine_1 rfl (List.mem_of_getElem? (i := 1) rfl) ?_
  obtain ⟨hc1, h⟩ := sm_gd_e h
  obtain ⟨p2, hc_p2, h⟩ := sm_bd_e h
  refine sm_callVi (q := 6) (As := [.inr (.inl (1000 + 1))]) (S := []) (e_X5_isWord hc_p2) mv_X5_62 hc1 rfl (by decide) (Nat.le_of_ble_eq_true rfl) dX5_readLine_3 rfl ?_
  rcases sm_if_e h with ⟨hb3, h⟩ | ⟨hb3, h⟩
  · refine sm_if_ne (tgt := 18) (q := 9) dX5_readLine_6 (by decide) rfl (fun hn => absurd hb3 hn) (fun _ => ?_)
    refine sm_aload_n (q := 10) dX5_readLine_9 rfl rfl 0 rfl ?_
    refine sm_ldcS (tx := "study") (q := 12) dX5_readLine_10 rfl (List.mem_of_getElem? (i := 2) rfl) ?_
    obtain ⟨p4, hc_p4, h⟩ := sm_bd_e h
    refine sm_callVi (q := 15) (As := [.inr (.inl (1000 + 2))]) (S := []) (e_X5_isWord hc_p4) mv_X5_62 hc1 rfl (by decide) (Nat.le_of_ble_eq_true rfl) dX5_readLine_12 rfl ?_
    rcases sm_if_e h with ⟨hb5, h⟩ | ⟨hb5, h⟩
    · refine sm_if_eq (tgt := 25) (q := 18) dX5_readLine_15 (by decide) rfl (fun _ => ?_) (fun hn => absurd hb5 hn)
      refine sm_aload_n (q := 26) dX5_readLine_25 rfl rfl 0 rfl ?_
      refine sm_ldcS (tx := "pupil") (q := 28) dX5_readLine_26 rfl (List.mem_of_getElem? (i := 3) rfl) ?_
      obtain ⟨p6, hc_p6, h⟩ := sm_bd_e h
      refine sm_callVi (q := 31) (As := [.inr (.inl (1000 + 3))]) (S := []) (e_X5_isWord hc_p6) mv_X5_62 hc1 rfl (by decide) (Nat.le_of_ble_eq_true rfl) dX5_readLine_28 rfl ?_
      rcases sm_if_e h with ⟨hb7, h⟩ | ⟨hb7, h⟩
      · refine sm_if_ne (tgt := 43) (q := 34) dX5_readLine_31 (by decide) rfl (fun hn => absurd hb7 hn) (fun _ => ?_)
        refine sm_aload_n (q := 35) dX5_readLine_34 rfl rfl 0 rfl ?_
        refine sm_ldcS (tx := "prodigy") (q := 37) dX5_readLine_35 rfl (List.mem_of_getElem? (i := 4) rfl) ?_
        obtain ⟨p8, hc_p8, h⟩ := sm_bd_e h
        refine sm_callVi (q := 40) (As := [.inr (.inl (1000 + 4))]) (S := []) (e_X5_isWord hc_p8) mv_X5_62 hc1 rfl (by decide) (Nat.le_of_ble_eq_true rfl) dX5_readLine_37 rfl ?_
        rcases sm_if_e h with ⟨hb9, h⟩ | ⟨hb9, h⟩
        · refine sm_if_eq (tgt := 50) (q := 43) dX5_readLine_40 (by decide) rfl (fun _ => ?_) (fun hn => absurd hb9 hn)
          refine sm_aload_n (q := 51) dX5_readLine_50 rfl rfl 0 rfl ?_
          refine sm_ldcS (tx := "pianos") (q := 53) dX5_readLine_51 rfl (List.mem_of_getElem? (i := 5) rfl) ?_
          obtain ⟨p10, hc_p10, h⟩ := sm_bd_e h
          refine sm_callVi (q := 56) (As := [.inr (.inl (1000 + 5))]) (S := []) (e_X5_isWord hc_p10) mv_X5_62 hc1 rfl (by decide) (Nat.le_of_ble_eq_true rfl) dX5_readLine_53 rfl ?_
          rcases sm_if_e h with ⟨hb11, h⟩ | ⟨hb11, h⟩
          · refine sm_if_eq (tgt := 66) (q := 59) dX5_readLine_56 (by decide) rfl (fun _ => ?_) (fun hn => absurd hb11 hn)
            refine sm_aload_n (q := 67) dX5_readLine_66 rfl rfl 0 rfl ?_
            refine sm_ldcS (tx := "learns") (q := 69) dX5_readLine_67 rfl (List.mem_of_getElem? (i := 6) rfl) ?_
            obtain ⟨p12, hc_p12, h⟩ := sm_bd_e h
            refine sm_callVi (q := 72) (As := [.inr (.inl (1000 + 6))]) (S := []) (e_X5_isWord hc_p12) mv_X5_62 hc1 rfl (by decide) (Nat.le_of_ble_eq_true rfl) dX5_readLine_69 rfl ?_
            rcases sm_if_e h with ⟨hb13, h⟩ | ⟨hb13, h⟩
            · refine sm_if_eq (tgt := 82) (q := 75) dX5_readLine_72 (by decide) rfl (fun _ => ?_) (fun hn => absurd hb13 hn)
              refine sm_aload_n (q := 83) dX5_readLine_82 rfl rfl 0 rfl ?_
              refine sm_iconst (v := 1) (q := 84) dX5_readLine_83 rfl (by decide) ?_
              obtain ⟨p14, hc_p14, h⟩ := sm_bd_e h
              refine sm_callVv (q := 87) (As := [.inl (1 : Int32)]) (S := []) (e_X5_stop hc_p14) mv_X5_88 hc1 rfl (by decide) (Nat.le_of_ble_eq_true rfl) dX5_readLine_84 rfl ?_
              refine sm_aload_n (q := 88) dX5_readLine_87 rfl rfl 0 rfl ?_
              refine sm_bipush (v := 59) (q := 90) dX5_readLine_88 rfl (by decide) ?_
              obtain ⟨p15, hc_p15, h⟩ := sm_bd_e h
              refine sm_callVv (q := 93) (As := [.inl (59 : Int32)]) (S := []) (e_X5_skipSign hc_p15) mv_X5_92 hc1 rfl (by decide) (Nat.le_of_ble_eq_true rfl) dX5_readLine_90 rfl ?_
              obtain rfl := Option.some.inj h
              exact sm_vret dX5_readLine_93 rfl
            · refine sm_if_eq (tgt := 82) (q := 75) dX5_readLine_72 (by decide) rfl (fun ht => absurd ht hb13) (fun _ => ?_)
              refine sm_aload_n (q := 76) dX5_readLine_75 rfl rfl 0 rfl ?_
              obtain ⟨p16, hc_p16, h⟩ := sm_bd_e h
              refine sm_callVv (q := 79) (As := []) (S := []) (e_X5_readLearns hc_p16) mv_X5_85 hc1 rfl (by decide) (Nat.le_of_ble_eq_true rfl) dX5_readLine_76 rfl ?_
              refine sm_goto (q := 87) dX5_readLine_79 (by decide) ?_
              refine sm_aload_n (q := 88) dX5_readLine_87 rfl rfl 0 rfl ?_
              refine sm_bipush (v := 59) (q := 90) dX5_readLine_88 rfl (by decide) ?_
              obtain ⟨p17, hc_p17, h⟩ := sm_bd_e h
              refine sm_callVv (q := 93) (As := [.inl (59 : Int32)]) (S := []) (e_X5_skipSign hc_p17) mv_X5_92 hc1 rfl (by decide) (Nat.le_of_ble_eq_true rfl) dX5_readLine_90 rfl ?_
              obtain rfl := Option.some.inj h
              exact sm_vret dX5_readLine_93 rfl
          · refine sm_if_eq (tgt := 66) (q := 59) dX5_readLine_56 (by decide) rfl (fun ht => absurd ht hb11) (fun _ => ?_)
            refine sm_aload_n (q := 60) dX5_readLine_59 rfl rfl 0 rfl ?_
            obtain ⟨p18, hc_p18, h⟩ := sm_bd_e h
            refine sm_callVv (q := 63) (As := []) (S := []) (e_X5_readPianos hc_p18) mv_X5_80 hc1 rfl (by decide) (Nat.le_of_ble_eq_true rfl) dX5_readLine_60 rfl ?_
            refine sm_goto (q := 87) dX5_readLine_63 (by decide) ?_
            refine sm_aload_n (q := 88) dX5_readLine_87 rfl rfl 0 rfl ?_
            refine sm_bipush (v := 59) (q := 90) dX5_readLine_88 rfl (by decide) ?_
            obtain ⟨p19, hc_p19, h⟩ := sm_bd_e h
            refine sm_callVv (q := 93) (As := [.inl (59 : Int32)]) (S := []) (e_X5_skipSign hc_p19) mv_X5_92 hc1 rfl (by decide) (Nat.le_of_ble_eq_true rfl) dX5_readLine_90 rfl ?_
            obtain rfl := Option.some.inj h
            exact sm_vret dX5_readLine_93 rfl
        · refine sm_if_eq (tgt := 50) (q := 43) dX5_readLine_40 (by decide) rfl (fun ht => absurd ht hb9) (fun _ => ?_)
          refine sm_pick [0] rfl ?_
          exact w_X5_readLine_43 N R _ _ _ h
      · refine sm_if_ne (tgt := 43) (q := 34) dX5_readLine_31 (by decide) rfl (fun _ => ?_) (fun he => absurd he hb7)
        refine sm_pick [0] rfl ?_
        exact w_X5_readLine_43 N R _ _ _ h
    · refine sm_if_eq (tgt := 25) (q := 18) dX5_readLine_15 (by decide) rfl (fun ht => absurd ht hb5) (fun _ => ?_)
      refine sm_pick [0] rfl ?_
      exact w_X5_readLine_18 N R _ _ _ h
  · refine sm_if_ne (tgt := 18) (q := 9) dX5_readLine_6 (by decide) rfl (fun _ => ?_) (fun he => absurd he hb3)
    refine sm_pick [0] rfl ?_
    exact w_X5_readLine_18 N R _ _ _ h
theorem e_X5_readLine {l : Launch} {N : Nat} {R : Nat → Nat → Nat} {a0 : Nat} {I : (Nat → Nat → Int32)} {y : (Unit × (Nat → Nat → Int32))} (h : f_X5_readLine N R a0 I = some y) : sm_E l 72 mX5_readLine [.inr (.inl a0)] (I, R) (.inl none) (y.2, R) :=
  sm_meth (by decide) (Nat.le_of_ble_eq_true rfl) (w_X5_readLine N R a0 I y h)
def f_X5_readSchool_50 (N : Nat) (R : Nat → Nat → Nat) : Nat → Nat → Int32 → (Nat → Nat → Int32) → Option (Unit × (Nat → Nat → Int32))
  | 0, _, _, _ => none
  | n + 1, a0, a2, I =>
    if (700 : Int32) ≤ a2 then (
      some ((), I))
    else (
      sm_gd (sm_kd a0 = (5, 11)) <|
      if (I a0 3) = 0 then (
        some ((), I))
      else (
        if (I a0 8) = 0 then (
          (f_X5_readLine N R a0 I).bind fun p5 =>
          f_X5_readSchool_50 N R n a0 (a2 + 1) p5.2)
        else (
          some ((), I))))
def f_X5_readSchool (N : Nat) (R : Nat → Nat → Nat) : Nat → Int32 → (Nat → Nat → Int32) → Option (Unit × (Nat → Nat → Int32)) := fun a0 a1 I =>
  sm_gd (sm_kd a0 = (5, 11)) <|
  sm_gd ((sm_kd (R a0 0)).1 = 14) <|
  sm_lt (sm_up I a0 (sm_up (I a0) 1 (sm_mx (0 : Int32) (sm_mn a1 (Int32.ofNat (sm_kd (R a0 0)).2))))) fun I3 =>
  sm_gd (sm_kd (R a0 2) = (7, 9)) <|
  (f_X7_clear N R (R a0 2) I3).bind fun p5 =>
  sm_lt (sm_up p5.2 a0 (sm_up (p5.2 a0) 5 (0 : Int32))) fun I6 =>
  sm_lt (sm_up I6 a0 (sm_up (I6 a0) 8 (0 : Int32))) fun I7 =>
  sm_lt (sm_up I7 a0 (sm_up (I7 a0) 9 (-1 : Int32))) fun I8 =>
  sm_lt (sm_up I8 a0 (sm_up (I8 a0) 10 (0 : Int32))) fun I9 =>
  (f_X5_advance N R a0 I9).bind fun p10 =>
  f_X5_readSchool_50 N R N a0 (0 : Int32) p10.2
set_option maxHeartbeats 4000000 in
set_option maxRecDepth 100000 in
theorem w_X5_readSchool_50 {l : Launch} (N : Nat) (R : Nat → Nat → Nat) : ∀ (n : Nat) (a0 : Nat) (a2 : Int32) (I : (Nat → Nat → Int32)) (y : (Unit × (Nat → Nat → Int32))), f_X5_readSchool_50 N R n a0 a2 I = some y → sm_W l 73 mX5_readSchool 50 [(0, .inr (.inl a0)), (2, .inl a2)] [] (I, R) (.inl none) (y.2, R) := by
  intro n
  induction n with
  | zero => intro a0 a2 I y h; cases h
  | succ n ih =>
    intro a0 a2 I y h
    rw [f_X5_readSchool_50] at h
    refine sm_iload_n (q := 51) dX5_readSchool_50 rfl rfl 1 rfl ?_
    refine sm_sipush (v := 700) (q := 54) dX5_readSchool_51 rfl (by decide) ?_
    rcases sm_if_e h with ⟨hb1, h⟩ | ⟨hb1, h⟩
    · refine sm_icmp_ge (tgt := 81) (q := 57) dX5_readSchool_54 (by decide) rfl (fun _ => ?_) (fun hn => absurd hb1 hn)
      obtain rfl := Option.some.inj h
      exact sm_vret dX5_readSchool_81 rfl
    · refine sm_icmp_ge (tgt := 81) (q := 57) dX5_readSchool_54 (by decide) rfl (fun ht => absurd ht hb1) (fun _ => ?_)
      refine sm_aload_n (q := 58) dX5_readSchool_57 rfl rfl 0 rfl ?_
      obtain ⟨hc2, h⟩ := sm_gd_e h
      refine sm_getI (q := 61) dX5_readSchool_58 rfl fk_X5_54 hc2 (by decide) (by decide) ?_
      rcases sm_if_e h with ⟨hb3, h⟩ | ⟨hb3, h⟩
      · refine sm_if_eq (tgt := 81) (q := 64) dX5_readSchool_61 (by decide) rfl (fun _ => ?_) (fun hn => absurd hb3 hn)
        obtain rfl := Option.some.inj h
        exact sm_vret dX5_readSchool_81 rfl
      · refine sm_if_eq (tgt := 81) (q := 64) dX5_readSchool_61 (by decide) rfl (fun ht => absurd ht hb3) (fun _ => ?_)
        refine sm_aload_n (q := 65) dX5_readSchool_64 rfl rfl 0 rfl ?_
        refine sm_getI (q := 68) dX5_readSchool_65 rfl fk_X5_41 hc2 (by decide) (by decide) ?_
        rcases sm_if_e h with ⟨hb4, h⟩ | ⟨hb4, h⟩
        · refine sm_if_ne (tgt := 81) (q := 71) dX5_readSchool_68 (by decide) rfl (fun hn => absurd hb4 hn) (fun _ => ?_)
          refine sm_aload_n (q := 72) dX5_readSchool_71 rfl rfl 0 rfl ?_
          obtain ⟨p5, hc_p5, h⟩ := sm_bd_e h
          refine sm_callVv (q := 75) (As := []) (S := []) (e_X5_readLine hc_p5) mv_X5_57 hc2 rfl (by decide) (Nat.le_of_ble_eq_true rfl) dX5_readSchool_72 rfl ?_
          refine sm_iinc (v := (a2 + 1)) (L' := [(2, .inl (a2 + 1)), (0, .inr (.inl a0))]) (q := 78) dX5_readSchool_75 rfl 1 rfl rfl (by decide) rfl ?_
          refine sm_goto (q := 50) dX5_readSchool_78 (by decide) ?_
          refine sm_pick [1, 0] rfl ?_
          exact ih _ _ _ _ h
        · refine sm_if_ne (tgt := 81) (q := 71) dX5_readSchool_68 (by decide) rfl (fun _ => ?_) (fun he => absurd he hb4)
          obtain rfl := Option.some.inj h
          exact sm_vret dX5_readSchool_81 rfl
set_option maxHeartbeats 4000000 in
set_option maxRecDepth 100000 in
theorem w_X5_readSchool {l : Launch} (N : Nat) (R : Nat → Nat → Nat) : ∀ (a0 : Nat) (a1 : Int32) (I : (Nat → Nat → Int32)) (y : (Unit × (Nat → Nat → Int32))), f_X5_readSchool N R a0 a1 I = some y → sm_W l 73 mX5_readSchool 0 [(0, .inr (.inl a0)), (1, .inl a1)] [] (I, R) (.inl none) (y.2, R) := by
  intro a0 a1 I y h
  unfold f_X5_readSchool at h
  refine sm_aload_n (q := 1) dX5_readSchool_0 rfl rfl 0 rfl ?_
  refine sm_iconst (v := 0) (q := 2) dX5_readSchool_1 rfl (by decide) ?_
  refine sm_iload_n (q := 3) dX5_readSchool_2 rfl rfl 1 rfl ?_
  refine sm_aload_n (q := 4) dX5_readSchool_3 rfl rfl 0 rfl ?_
  obtain ⟨hc1, h⟩ := sm_gd_e h
  refine sm_getR (r := R a0 0) (q := 7) dX5_readSchool_4 rfl fk_X5_9 hc1 (by decide) (by decide) rfl ?_
  obtain ⟨hc2, h⟩ := sm_gd_e h
  refine sm_alenI (t := 1) (v := (Int32.ofNat (sm_kd (R a0 0)).2)) (q := 8) dX5_readSchool_7 rfl (Prod.ext hc2 rfl) (by decide) rfl ?_
  refine sm_mmn (q := 11) dX5_readSchool_8 rfl mm_X5_22 (Nat.le_of_ble_eq_true rfl) ?_
  refine sm_mmx (q := 14) dX5_readSchool_11 rfl mm_X5_28 (Nat.le_of_ble_eq_true rfl) ?_
  obtain ⟨I3, hI3, h⟩ := sm_lt_e h
  refine sm_putI (q := 17) dX5_readSchool_14 rfl fk_X5_31 hc1 (by decide) (by decide) ?_
  refine sm_memI hI3 ?_
  refine sm_aload_n (q := 18) dX5_readSchool_17 rfl rfl 0 rfl ?_
  refine sm_getR (r := R a0 2) (q := 21) dX5_readSchool_18 rfl fk_X5_18 hc1 (by decide) (by decide) rfl ?_
  obtain ⟨hc4, h⟩ := sm_gd_e h
  obtain ⟨p5, hc_p5, h⟩ := sm_bd_e h
  refine sm_callVv (q := 24) (As := []) (S := []) (e_X7_clear hc_p5) mv_X5_35 hc4 rfl (by decide) (Nat.le_of_ble_eq_true rfl) dX5_readSchool_21 rfl ?_
  refine sm_aload_n (q := 25) dX5_readSchool_24 rfl rfl 0 rfl ?_
  refine sm_iconst (v := 0) (q := 26) dX5_readSchool_25 rfl (by decide) ?_
  obtain ⟨I6, hI6, h⟩ := sm_lt_e h
  refine sm_putI (q := 29) dX5_readSchool_26 rfl fk_X5_38 hc1 (by decide) (by decide) ?_
  refine sm_memI hI6 ?_
  refine sm_aload_n (q := 30) dX5_readSchool_29 rfl rfl 0 rfl ?_
  refine sm_iconst (v := 0) (q := 31) dX5_readSchool_30 rfl (by decide) ?_
  obtain ⟨I7, hI7, h⟩ := sm_lt_e h
  refine sm_putI (q := 34) dX5_readSchool_31 rfl fk_X5_41 hc1 (by decide) (by decide) ?_
  refine sm_memI hI7 ?_
  refine sm_aload_n (q := 35) dX5_readSchool_34 rfl rfl 0 rfl ?_
  refine sm_iconst (v := -1) (q := 36) dX5_readSchool_35 rfl (by decide) ?_
  obtain ⟨I8, hI8, h⟩ := sm_lt_e h
  refine sm_putI (q := 39) dX5_readSchool_36 rfl fk_X5_44 hc1 (by decide) (by decide) ?_
  refine sm_memI hI8 ?_
  refine sm_aload_n (q := 40) dX5_readSchool_39 rfl rfl 0 rfl ?_
  refine sm_iconst (v := 0) (q := 41) dX5_readSchool_40 rfl (by decide) ?_
  obtain ⟨I9, hI9, h⟩ := sm_lt_e h
  refine sm_putZ (q := 44) dX5_readSchool_41 rfl fk_X5_47 hc1 (by decide) (by decide) (by decide) ?_
  refine sm_memI hI9 ?_
  refine sm_aload_n (q := 45) dX5_readSchool_44 rfl rfl 0 rfl ?_
  obtain ⟨p10, hc_p10, h⟩ := sm_bd_e h
  refine sm_callVv (q := 48) (As := []) (S := []) (e_X5_advance hc_p10) mv_X5_51 hc1 rfl (by decide) (Nat.le_of_ble_eq_true rfl) dX5_readSchool_45 rfl ?_
  refine sm_iconst (v := 0) (q := 49) dX5_readSchool_48 rfl (by decide) ?_
  refine sm_istore_n (L' := [(2, .inl (0 : Int32)), (0, .inr (.inl a0)), (1, .inl a1)]) (q := 50) dX5_readSchool_49 rfl rfl (by decide) rfl ?_
  refine sm_pick [1, 0] rfl ?_
  exact w_X5_readSchool_50 N R N _ _ _ _ h
theorem e_X5_readSchool {l : Launch} {N : Nat} {R : Nat → Nat → Nat} {a0 : Nat} {a1 : Int32} {I : (Nat → Nat → Int32)} {y : (Unit × (Nat → Nat → Int32))} (h : f_X5_readSchool N R a0 a1 I = some y) : sm_E l 73 mX5_readSchool [.inr (.inl a0), .inl a1] (I, R) (.inl none) (y.2, R) :=
  sm_meth (by decide) (Nat.le_of_ble_eq_true rfl) (w_X5_readSchool N R a0 a1 I y h)
