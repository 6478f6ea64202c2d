-- M:TreeAgentModel.question()I
noncomputable def fX12_question_315  (a0 : Nat) (h : sm_H) : Option (Int32 × sm_H) :=
  (sm_R (sm_get h (some a0) 12 7)).bind fun x1 =>
  (sm_aI h x1 0 (6 : Int32)).bind fun x2 =>
  (sm_sI h x1 0 (6 : Int32) (x2 + (1 : Int32))).bind fun h3 =>
  (sm_R (sm_get h3 (some a0) 12 7)).bind fun x4 =>
  (sm_aI h3 x4 0 (7 : Int32)).bind fun x5 =>
  (sm_I (sm_get h3 (some a0) 12 56)).bind fun x6 =>
  if x6 ≤ 0 then (
    (sm_sI h3 x4 0 (7 : Int32) (x5 + (0 : Int32))).bind fun h7 =>
    (sm_I (sm_get h7 (some a0) 12 65)).bind fun x8 =>
    some (x8, h7)
  ) else
  (sm_sI h3 x4 0 (7 : Int32) (x5 + (1 : Int32))).bind fun h9 =>
  (sm_I (sm_get h9 (some a0) 12 65)).bind fun x10 =>
  some (x10, h9)
set_option maxRecDepth 100000 in
set_option maxHeartbeats 4000000 in
theorem sX12_question_315 (l : Launch) (D : va_G) (aC : Nat → ClassId) (B : Nat)   (a0 : Nat) (h : sm_H) : zS l D aC B cX12_question 4 RX12 9 206 (some .int) "question" vlI (fX12_question_315 a0 h) 315 [(0, vR (some a0))] [] h := by
  unfold fX12_question_315
  refine sm_aload_n (i := 0) (j := 0) (pc' := 316) dX12_question_315 rfl rfl rfl ?_
  refine sm_getR (k := 7) (pc' := 319) kX12 (by decide) mw660 dX12_question_316 rfl (fun x1 => ?_)
  refine sm_bipush (v := (6 : Int32)) (pc' := 321) dX12_question_319 rfl (by decide) ?_
  refine sm_dup2 (pc' := 322) rfl rfl dX12_question_321 rfl ?_
  refine sm_iald (t := 0) (pc' := 323) rfl dX12_question_322 rfl (fun x2 => ?_)
  refine sm_iconst (v := (1 : Int32)) (pc' := 324) dX12_question_323 rfl (by decide) ?_
  refine sm_iadd (pc' := 325) dX12_question_324 rfl ?_
  refine sm_iast (t := 0) (pc' := 326) rfl dX12_question_325 rfl (fun h3 => ?_)
  refine sm_aload_n (i := 0) (j := 0) (pc' := 327) dX12_question_326 rfl rfl rfl ?_
  refine sm_getR (k := 7) (pc' := 330) kX12 (by decide) mw660 dX12_question_327 rfl (fun x4 => ?_)
  refine sm_bipush (v := (7 : Int32)) (pc' := 332) dX12_question_330 rfl (by decide) ?_
  refine sm_dup2 (pc' := 333) rfl rfl dX12_question_332 rfl ?_
  refine sm_iald (t := 0) (pc' := 334) rfl dX12_question_333 rfl (fun x5 => ?_)
  refine sm_aload_n (i := 0) (j := 0) (pc' := 335) dX12_question_334 rfl rfl rfl ?_
  refine sm_getI (k := 56) (pc' := 338) kX12 (by decide) mw835 dX12_question_335 rfl (fun x6 => ?_)
  refine sm_if_le (tgt := 345) (pc' := 341) dX12_question_338 (by decide) rfl ?_ ?_
  · refine sm_iconst (v := (0 : Int32)) (pc' := 346) dX12_question_345 rfl (by decide) ?_
    refine sm_iadd (pc' := 347) dX12_question_346 rfl ?_
    refine sm_iast (t := 0) (pc' := 348) rfl dX12_question_347 rfl (fun h7 => ?_)
    refine sm_aload_n (i := 0) (j := 0) (pc' := 349) dX12_question_348 rfl rfl rfl ?_
    refine sm_getI (k := 65) (pc' := 352) kX12 (by decide) mw856 dX12_question_349 rfl (fun x8 => ?_)
    exact sm_iret rfl dX12_question_352
  refine sm_iconst (v := (1 : Int32)) (pc' := 342) dX12_question_341 rfl (by decide) ?_
  refine sm_goto (pc' := 346) dX12_question_342 (by decide) ?_
  refine sm_iadd (pc' := 347) dX12_question_346 rfl ?_
  refine sm_iast (t := 0) (pc' := 348) rfl dX12_question_347 rfl (fun h9 => ?_)
  refine sm_aload_n (i := 0) (j := 0) (pc' := 349) dX12_question_348 rfl rfl rfl ?_
  refine sm_getI (k := 65) (pc' := 352) kX12 (by decide) mw856 dX12_question_349 rfl (fun x10 => ?_)
  exact sm_iret rfl dX12_question_352
noncomputable def fX12_question_257  (a0 : Nat) (a2 : Int32) (h : sm_H) : Option (Int32 × sm_H) :=
  (sm_I (sm_get h (some a0) 12 47)).bind fun x1 =>
  (sm_obj h (some a0) 12).bind fun b15 =>
  sm_cb (fX12_allOctets b15 a2 x1 h) fun x2 h3 =>
  (sm_I (sm_get h3 (some a0) 12 5)).bind fun x4 =>
  if x2 ≤ x4 then (
    (sm_I (sm_get h3 (some a0) 12 47)).bind fun x5 =>
    (sm_obj h3 (some a0) 12).bind fun b11 =>
    sm_cb (fX12_write b11 a2 x5 h3) fun _ h6 =>
    (sm_I (sm_get h6 (some a0) 12 52)).bind fun x7 =>
    if x7 = (163 : Int32) then (
      (sm_I (sm_get h6 (some a0) 12 56)).bind fun x8 =>
      if x8 = 0 then (
        (sm_obj h6 (some a0) 12).bind fun b10 =>
        sm_cb (fX12_carryOut b10 h6) fun _ h9 =>
        fX12_question_315 a0 h9
      ) else
      fX12_question_315 a0 h6
    ) else
    fX12_question_315 a0 h6
  ) else
  (sm_R (sm_get h3 (some a0) 12 7)).bind fun x12 =>
  (sm_aI h3 x12 0 (5 : Int32)).bind fun x13 =>
  (sm_sI h3 x12 0 (5 : Int32) (x13 + (1 : Int32))).bind fun h14 =>
  some ((0 : Int32), h14)
set_option maxRecDepth 100000 in
set_option maxHeartbeats 4000000 in
theorem sX12_question_257 (l : Launch) (D : va_G) (aC : Nat → ClassId) (B : Nat)   (a0 : Nat) (a2 : Int32) (h : sm_H) : zS l D aC B cX12_question 4 RX12 9 206 (some .int) "question" vlI (fX12_question_257 a0 a2 h) 257 [(0, vR (some a0)), (2, vI a2)] [] h := by
  unfold fX12_question_257
  refine sm_aload_n (i := 0) (j := 0) (pc' := 258) dX12_question_257 rfl rfl rfl ?_
  refine sm_iload_n (i := 2) (j := 1) (pc' := 259) dX12_question_258 rfl rfl rfl ?_
  refine sm_aload_n (i := 0) (j := 0) (pc' := 260) dX12_question_259 rfl rfl rfl ?_
  refine sm_getI (k := 47) (pc' := 263) kX12 (by decide) mw860 dX12_question_260 rfl (fun x1 => ?_)
  refine sm_cVI (pc' := 266) (ci := 12) (st := []) (F := fun b => fX12_allOctets b a2 x1 h) [vI a2, vI x1] yY_yX12_allOctets rfl mw862 mw863 mw864 (fun b => mX12_allOctets l D aC B b a2 x1 h) rfl (by decide) (by decide) (by exact Nat.le_of_ble_eq_true rfl) rfl dX12_question_263 rfl (fun x2 h3 => ?_)
  refine sm_aload_n (i := 0) (j := 0) (pc' := 267) dX12_question_266 rfl rfl rfl ?_
  refine sm_getI (k := 5) (pc' := 270) kX12 (by decide) mw659 dX12_question_267 rfl (fun x4 => ?_)
  refine sm_icmp_le (tgt := 285) (pc' := 273) dX12_question_270 (by decide) rfl ?_ ?_
  · refine sm_aload_n (i := 0) (j := 0) (pc' := 286) dX12_question_285 rfl rfl rfl ?_
    refine sm_iload_n (i := 2) (j := 1) (pc' := 287) dX12_question_286 rfl rfl rfl ?_
    refine sm_aload_n (i := 0) (j := 0) (pc' := 288) dX12_question_287 rfl rfl rfl ?_
    refine sm_getI (k := 47) (pc' := 291) kX12 (by decide) mw860 dX12_question_288 rfl (fun x5 => ?_)
    refine sm_cVU (pc' := 294) (ci := 12) (st := []) (F := fun b => fX12_write b a2 x5 h3) [vI a2, vI x5] yY_yX12_write rfl mw884 mw888 mw889 (fun b => mX12_write l D aC B b a2 x5 h3) rfl (by decide) (by decide) (by exact Nat.le_of_ble_eq_true rfl) rfl dX12_question_291 rfl (fun _ h6 => ?_)
    refine sm_aload_n (i := 0) (j := 0) (pc' := 295) dX12_question_294 rfl rfl rfl ?_
    refine sm_getI (k := 52) (pc' := 298) kX12 (by decide) mw794 dX12_question_295 rfl (fun x7 => ?_)
    refine sm_sipush (v := (163 : Int32)) (pc' := 301) dX12_question_298 rfl (by decide) ?_
    refine sm_icmp_ne (tgt := 315) (pc' := 304) dX12_question_301 (by decide) rfl ?_ ?_
    · refine sm_lo (lv' := [(0, vR (some a0))]) [0] rfl ?_
      exact sX12_question_315 l D aC B  a0 h6
    refine sm_aload_n (i := 0) (j := 0) (pc' := 305) dX12_question_304 rfl rfl rfl ?_
    refine sm_getI (k := 56) (pc' := 308) kX12 (by decide) mw835 dX12_question_305 rfl (fun x8 => ?_)
    refine sm_if_ne (tgt := 315) (pc' := 311) dX12_question_308 (by decide) rfl ?_ ?_
    · refine sm_lo (lv' := [(0, vR (some a0))]) [0] rfl ?_
      exact sX12_question_315 l D aC B  a0 h6
    refine sm_aload_n (i := 0) (j := 0) (pc' := 312) dX12_question_311 rfl rfl rfl ?_
    refine sm_cVU (pc' := 315) (ci := 12) (st := []) (F := fun b => fX12_carryOut b h6) [] yY_yX12_carryOut rfl mw885 mw886 mw887 (fun b => mX12_carryOut l D aC B b h6) rfl (by decide) (by decide) (by exact Nat.le_of_ble_eq_true rfl) rfl dX12_question_312 rfl (fun _ h9 => ?_)
    refine sm_lo (lv' := [(0, vR (some a0))]) [0] rfl ?_
    exact sX12_question_315 l D aC B  a0 h9
  refine sm_aload_n (i := 0) (j := 0) (pc' := 274) dX12_question_273 rfl rfl rfl ?_
  refine sm_getR (k := 7) (pc' := 277) kX12 (by decide) mw660 dX12_question_274 rfl (fun x12 => ?_)
  refine sm_iconst (v := (5 : Int32)) (pc' := 278) dX12_question_277 rfl (by decide) ?_
  refine sm_dup2 (pc' := 279) rfl rfl dX12_question_278 rfl ?_
  refine sm_iald (t := 0) (pc' := 280) rfl dX12_question_279 rfl (fun x13 => ?_)
  refine sm_iconst (v := (1 : Int32)) (pc' := 281) dX12_question_280 rfl (by decide) ?_
  refine sm_iadd (pc' := 282) dX12_question_281 rfl ?_
  refine sm_iast (t := 0) (pc' := 283) rfl dX12_question_282 rfl (fun h14 => ?_)
  refine sm_iconst (v := (0 : Int32)) (pc' := 284) dX12_question_283 rfl (by decide) ?_
  exact sm_iret rfl dX12_question_284
noncomputable def fX12_question_189  (a0 : Nat) (a2 : Int32) (h : sm_H) : Option (Int32 × sm_H) :=
  (sm_I (sm_get h (some a0) 12 56)).bind fun x1 =>
  if x1 ≤ 0 then (
    (sm_I (sm_get h (some a0) 12 47)).bind fun x2 =>
    (sm_obj h (some a0) 12).bind fun b12 =>
    sm_cb (fX12_allOctets b12 a2 x2 h) fun x3 h4 =>
    (sm_I (sm_get h4 (some a0) 12 5)).bind fun x5 =>
    if x3 ≤ x5 then (
      fX12_question_257 a0 a2 h4
    ) else
    (sm_put h4 (some a0) 12 56 (sm_v (vI (1 : Int32)))).bind fun h6 =>
    (sm_put h6 (some a0) 12 57 (sm_v (vI (0 : Int32)))).bind fun h7 =>
    (sm_I (sm_get h7 (some a0) 12 48)).bind fun x8 =>
    if x8 = (1 : Int32) then (
      (sm_put h7 (some a0) 12 47 (sm_v (vI (0 : Int32)))).bind fun h11 =>
      fX12_question_257 a0 (0 : Int32) h11
    ) else
    (sm_I (sm_get h7 (some a0) 12 46)).bind fun x9 =>
    (sm_put h7 (some a0) 12 47 (sm_v (vI x9))).bind fun h10 =>
    fX12_question_257 a0 (0 : Int32) h10
  ) else
  (sm_I (sm_get h (some a0) 12 46)).bind fun x13 =>
  (sm_put h (some a0) 12 47 (sm_v (vI x13))).bind fun h14 =>
  fX12_question_257 a0 (0 : Int32) h14
set_option maxRecDepth 100000 in
set_option maxHeartbeats 4000000 in
theorem sX12_question_189 (l : Launch) (D : va_G) (aC : Nat → ClassId) (B : Nat)   (a0 : Nat) (a2 : Int32) (h : sm_H) : zS l D aC B cX12_question 4 RX12 9 206 (some .int) "question" vlI (fX12_question_189 a0 a2 h) 189 [(0, vR (some a0)), (2, vI a2)] [] h := by
  unfold fX12_question_189
  refine sm_aload_n (i := 0) (j := 0) (pc' := 190) dX12_question_189 rfl rfl rfl ?_
  refine sm_getI (k := 56) (pc' := 193) kX12 (by decide) mw835 dX12_question_190 rfl (fun x1 => ?_)
  refine sm_if_le (tgt := 209) (pc' := 196) dX12_question_193 (by decide) rfl ?_ ?_
  · refine sm_aload_n (i := 0) (j := 0) (pc' := 210) dX12_question_209 rfl rfl rfl ?_
    refine sm_iload_n (i := 2) (j := 1) (pc' := 211) dX12_question_210 rfl rfl rfl ?_
    refine sm_aload_n (i := 0) (j := 0) (pc' := 212) dX12_question_211 rfl rfl rfl ?_
    refine sm_getI (k := 47) (pc' := 215) kX12 (by decide) mw860 dX12_question_212 rfl (fun x2 => ?_)
    refine sm_cVI (pc' := 218) (ci := 12) (st := []) (F := fun b => fX12_allOctets b a2 x2 h) [vI a2, vI x2] yY_yX12_allOctets rfl mw862 mw863 mw864 (fun b => mX12_allOctets l D aC B b a2 x2 h) rfl (by decide) (by decide) (by exact Nat.le_of_ble_eq_true rfl) rfl dX12_question_215 rfl (fun x3 h4 => ?_)
    refine sm_aload_n (i := 0) (j := 0) (pc' := 219) dX12_question_218 rfl rfl rfl ?_
    refine sm_getI (k := 5) (pc' := 222) kX12 (by decide) mw659 dX12_question_219 rfl (fun x5 => ?_)
    refine sm_icmp_le (tgt := 257) (pc' := 225) dX12_question_222 (by decide) rfl ?_ ?_
    · exact sX12_question_257 l D aC B  a0 a2 h4
    refine sm_aload_n (i := 0) (j := 0) (pc' := 226) dX12_question_225 rfl rfl rfl ?_
    refine sm_iconst (v := (1 : Int32)) (pc' := 227) dX12_question_226 rfl (by decide) ?_
    refine sm_putI (k := 56) (pc' := 230) kX12 (by decide) mw835 rfl rfl dX12_question_227 rfl (fun h6 => ?_)
    refine sm_aload_n (i := 0) (j := 0) (pc' := 231) dX12_question_230 rfl rfl rfl ?_
    refine sm_iconst (v := (0 : Int32)) (pc' := 232) dX12_question_231 rfl (by decide) ?_
    refine sm_putI (k := 57) (pc' := 235) kX12 (by decide) mw836 rfl rfl dX12_question_232 rfl (fun h7 => ?_)
    refine sm_iconst (v := (0 : Int32)) (pc' := 236) dX12_question_235 rfl (by decide) ?_
    refine sm_istore_n (i := 2) (lv' := [(2, vI (0 : Int32)), (0, vR (some a0))]) (pc' := 237) dX12_question_236 rfl rfl (by decide) rfl ?_
    refine sm_aload_n (i := 0) (j := 1) (pc' := 238) dX12_question_237 rfl rfl rfl ?_
    refine sm_aload_n (i := 0) (j := 1) (pc' := 239) dX12_question_238 rfl rfl rfl ?_
    refine sm_getI (k := 48) (pc' := 242) kX12 (by decide) mw795 dX12_question_239 rfl (fun x8 => ?_)
    refine sm_iconst (v := (1 : Int32)) (pc' := 243) dX12_question_242 rfl (by decide) ?_
    refine sm_icmp_ne (tgt := 250) (pc' := 246) dX12_question_243 (by decide) rfl ?_ ?_
    · refine sm_aload_n (i := 0) (j := 1) (pc' := 251) dX12_question_250 rfl rfl rfl ?_
      refine sm_getI (k := 46) (pc' := 254) kX12 (by decide) mw778 dX12_question_251 rfl (fun x9 => ?_)
      refine sm_putI (k := 47) (pc' := 257) kX12 (by decide) mw860 rfl rfl dX12_question_254 rfl (fun h10 => ?_)
      refine sm_lo (lv' := [(0, vR (some a0)), (2, vI (0 : Int32))]) [1, 0] rfl ?_
      exact sX12_question_257 l D aC B  a0 (0 : Int32) h10
    refine sm_iconst (v := (0 : Int32)) (pc' := 247) dX12_question_246 rfl (by decide) ?_
    refine sm_goto (pc' := 254) dX12_question_247 (by decide) ?_
    refine sm_putI (k := 47) (pc' := 257) kX12 (by decide) mw860 rfl rfl dX12_question_254 rfl (fun h11 => ?_)
    refine sm_lo (lv' := [(0, vR (some a0)), (2, vI (0 : Int32))]) [1, 0] rfl ?_
    exact sX12_question_257 l D aC B  a0 (0 : Int32) h11
  refine sm_iconst (v := (0 : Int32)) (pc' := 197) dX12_question_196 rfl (by decide) ?_
  refine sm_istore_n (i := 2) (lv' := [(2, vI (0 : Int32)), (0, vR (some a0))]) (pc' := 198) dX12_question_197 rfl rfl (by decide) rfl ?_
  refine sm_aload_n (i := 0) (j := 1) (pc' := 199) dX12_question_198 rfl rfl rfl ?_
  refine sm_aload_n (i := 0) (j := 1) (pc' := 200) dX12_question_199 rfl rfl rfl ?_
  refine sm_getI (k := 46) (pc' := 203) kX12 (by decide) mw778 dX12_question_200 rfl (fun x13 => ?_)
  refine sm_putI (k := 47) (pc' := 206) kX12 (by decide) mw860 rfl rfl dX12_question_203 rfl (fun h14 => ?_)
  refine sm_goto (pc' := 257) dX12_question_206 (by decide) ?_
  refine sm_lo (lv' := [(0, vR (some a0)), (2, vI (0 : Int32))]) [1, 0] rfl ?_
  exact sX12_question_257 l D aC B  a0 (0 : Int32) h14
noncomputable def fX12_question_156  : Nat → Nat → Int32 → Int32 → sm_H → Option (Int32 × sm_H)
  | 0 => fun _ _ _ _ => none
  | n + 1 => fun a0 a2 a3 h =>
    (sm_I (sm_get h (some a0) 12 46)).bind fun x1 =>
    if x1 ≤ a3 then (
      fX12_question_189 a0 a2 h
    ) else
    (sm_I (sm_get h (some a0) 12 56)).bind fun x2 =>
    if x2 = 0 then (
      (sm_obj h (some a0) 12).bind fun b5 =>
      sm_cb (fX12_check b5 a3 h) fun _ h3 =>
      sm_let (a3 + (1 : Int32)) fun x4 =>
      (fX12_question_156 n) a0 a2 x4 h3
    ) else
    fX12_question_189 a0 a2 h
set_option maxRecDepth 100000 in
set_option maxHeartbeats 4000000 in
theorem sX12_question_156 (l : Launch) (D : va_G) (aC : Nat → ClassId) (B : Nat)   (n : Nat) : ∀ (a0 : Nat) (a2 : Int32) (a3 : Int32) (h : sm_H), zS l D aC B cX12_question 4 RX12 9 206 (some .int) "question" vlI (fX12_question_156 n a0 a2 a3 h) 156 [(0, vR (some a0)), (2, vI a2), (3, vI a3)] [] h := by
  induction n with
  | zero => intro a0 a2 a3 h; exact sm_none
  | succ n ih =>
    intro a0 a2 a3 h
    show zS l D aC B cX12_question 4 RX12 9 206 (some .int) "question" vlI (fX12_question_156 (n + 1) a0 a2 a3 h) 156 [(0, vR (some a0)), (2, vI a2), (3, vI a3)] [] h
    unfold fX12_question_156
    refine sm_iload_n (i := 3) (j := 2) (pc' := 157) dX12_question_156 rfl rfl rfl ?_
    refine sm_aload_n (i := 0) (j := 0) (pc' := 158) dX12_question_157 rfl rfl rfl ?_
    refine sm_getI (k := 46) (pc' := 161) kX12 (by decide) mw778 dX12_question_158 rfl (fun x1 => ?_)
    refine sm_icmp_ge (tgt := 182) (pc' := 164) dX12_question_161 (by decide) rfl ?_ ?_
    · refine sm_goto (pc' := 189) dX12_question_182 (by decide) ?_
      refine sm_lo (lv' := [(0, vR (some a0)), (2, vI a2)]) [0, 1] rfl ?_
      exact sX12_question_189 l D aC B  a0 a2 h
    refine sm_aload_n (i := 0) (j := 0) (pc' := 165) dX12_question_164 rfl rfl rfl ?_
    refine sm_getI (k := 56) (pc' := 168) kX12 (by decide) mw835 dX12_question_165 rfl (fun x2 => ?_)
    refine sm_if_ne (tgt := 182) (pc' := 171) dX12_question_168 (by decide) rfl ?_ ?_
    · refine sm_goto (pc' := 189) dX12_question_182 (by decide) ?_
      refine sm_lo (lv' := [(0, vR (some a0)), (2, vI a2)]) [0, 1] rfl ?_
      exact sX12_question_189 l D aC B  a0 a2 h
    refine sm_aload_n (i := 0) (j := 0) (pc' := 172) dX12_question_171 rfl rfl rfl ?_
    refine sm_iload_n (i := 3) (j := 2) (pc' := 173) dX12_question_172 rfl rfl rfl ?_
    refine sm_cVU (pc' := 176) (ci := 12) (st := []) (F := fun b => fX12_check b a3 h) [vI a3] yY_yX12_check rfl mw890 mw891 mw892 (fun b => mX12_check l D aC B b a3 h) rfl (by decide) (by decide) (by exact Nat.le_of_ble_eq_true rfl) rfl dX12_question_173 rfl (fun _ h3 => ?_)
    refine sm_iincL (i := 3) (j := 2) (x := a3) (d := (1 : Int32)) (fun x4 => [(3, vI x4), (0, vR (some a0)), (2, vI a2)]) (pc' := 179) dX12_question_176 rfl rfl (by decide) (by decide) (fun _ => rfl) (fun x4 => ?_)
    refine sm_goto (pc' := 156) dX12_question_179 (by decide) ?_
    refine sm_lo (lv' := [(0, vR (some a0)), (2, vI a2), (3, vI x4)]) [1, 2, 0] rfl ?_
    exact ih a0 a2 x4 h3
noncomputable def fX12_question_136  (a0 : Nat) (a2 : Int32) (s0 : Int32) (s1 : Option Nat) (h : sm_H) : Option (Int32 × sm_H) :=
  (sm_put h s1 12 56 (sm_v (vI s0))).bind fun h1 =>
  (sm_put h1 (some a0) 12 57 (sm_v (vI (1 : Int32)))).bind fun h2 =>
  (sm_R (sm_get h2 (some a0) 12 7)).bind fun x3 =>
  (sm_aI h2 x3 0 (4 : Int32)).bind fun x4 =>
  (sm_sI h2 x3 0 (4 : Int32) (x4 + (1 : Int32))).bind fun h5 =>
  fX12_question_156 sm_fuel a0 a2 (0 : Int32) h5
set_option maxRecDepth 100000 in
set_option maxHeartbeats 4000000 in
theorem sX12_question_136 (l : Launch) (D : va_G) (aC : Nat → ClassId) (B : Nat)   (a0 : Nat) (a2 : Int32) (s0 : Int32) (s1 : Option Nat) (h : sm_H) : zS l D aC B cX12_question 4 RX12 9 206 (some .int) "question" vlI (fX12_question_136 a0 a2 s0 s1 h) 136 [(0, vR (some a0)), (2, vI a2)] [vI s0, vR s1] h := by
  unfold fX12_question_136
  refine sm_putI (k := 56) (pc' := 139) kX12 (by decide) mw835 rfl rfl dX12_question_136 rfl (fun h1 => ?_)
  refine sm_aload_n (i := 0) (j := 0) (pc' := 140) dX12_question_139 rfl rfl rfl ?_
  refine sm_iconst (v := (1 : Int32)) (pc' := 141) dX12_question_140 rfl (by decide) ?_
  refine sm_putI (k := 57) (pc' := 144) kX12 (by decide) mw836 rfl rfl dX12_question_141 rfl (fun h2 => ?_)
  refine sm_aload_n (i := 0) (j := 0) (pc' := 145) dX12_question_144 rfl rfl rfl ?_
  refine sm_getR (k := 7) (pc' := 148) kX12 (by decide) mw660 dX12_question_145 rfl (fun x3 => ?_)
  refine sm_iconst (v := (4 : Int32)) (pc' := 149) dX12_question_148 rfl (by decide) ?_
  refine sm_dup2 (pc' := 150) rfl rfl dX12_question_149 rfl ?_
  refine sm_iald (t := 0) (pc' := 151) rfl dX12_question_150 rfl (fun x4 => ?_)
  refine sm_iconst (v := (1 : Int32)) (pc' := 152) dX12_question_151 rfl (by decide) ?_
  refine sm_iadd (pc' := 153) dX12_question_152 rfl ?_
  refine sm_iast (t := 0) (pc' := 154) rfl dX12_question_153 rfl (fun h5 => ?_)
  refine sm_iconst (v := (0 : Int32)) (pc' := 155) dX12_question_154 rfl (by decide) ?_
  refine sm_istore_n (i := 3) (lv' := [(3, vI (0 : Int32)), (0, vR (some a0)), (2, vI a2)]) (pc' := 156) dX12_question_155 rfl rfl (by decide) rfl ?_
  refine sm_lo (lv' := [(0, vR (some a0)), (2, vI a2), (3, vI (0 : Int32))]) [1, 2, 0] rfl ?_
  exact sX12_question_156 l D aC B   sm_fuel a0 a2 (0 : Int32) h5
noncomputable def fX12_question  (a0 : Nat) (h : sm_H) : Option (Int32 × sm_H) :=
  (sm_put h (some a0) 12 0 (sm_v (vI (0 : Int32)))).bind fun h1 =>
  (sm_I (sm_get h1 (some a0) 12 2)).bind fun x2 =>
  (sm_put h1 (some a0) 12 2 (sm_v (vI (0 : Int32)))).bind fun h3 =>
  (sm_put h3 (some a0) 12 65 (sm_v (vI (0 : Int32)))).bind fun h4 =>
  (sm_obj h4 (some a0) 12).bind fun b27 =>
  sm_cb (fX12_readAll b27 x2 h4) fun _ h5 =>
  (sm_I (sm_get h5 (some a0) 12 45)).bind fun x6 =>
  if x6 = 0 then (
    (sm_put h5 (some a0) 12 56 (sm_v (vI (0 : Int32)))).bind fun h7 =>
    (sm_put h7 (some a0) 12 57 (sm_v (vI (0 : Int32)))).bind fun h8 =>
    (sm_put h8 (some a0) 12 47 (sm_v (vI (0 : Int32)))).bind fun h9 =>
    (sm_I (sm_get h9 (some a0) 12 52)).bind fun x10 =>
    if x10 = (165 : Int32) then (
      (sm_obj h9 (some a0) 12).bind fun b22 =>
      sm_cb (fX12_many b22 h9) fun _ h21 =>
      fX12_question_189 a0 (20 : Int32) h21
    ) else
    (sm_I (sm_get h9 (some a0) 12 52)).bind fun x11 =>
    if x11 = (163 : Int32) then (
      (sm_I (sm_get h9 (some a0) 12 46)).bind fun x14 =>
      (sm_put h9 (some a0) 12 47 (sm_v (vI x14))).bind fun h15 =>
      (sm_R (sm_get h15 (some a0) 12 31)).bind fun x16 =>
      (sm_I (sm_get h15 (some a0) 12 49)).bind fun x17 =>
      (sm_aI h15 x16 2 x17).bind fun x18 =>
      if x18 = 0 then (
        (sm_I (sm_get h15 (some a0) 12 46)).bind fun x19 =>
        if x19 ≤ 0 then (
          fX12_question_156 sm_fuel a0 (0 : Int32) (0 : Int32) h15
        ) else
        (sm_I (sm_get h15 (some a0) 12 48)).bind fun x20 =>
        if x20 = (1 : Int32) then (
          fX12_question_136 a0 (0 : Int32) (6 : Int32) (some a0) h15
        ) else
        fX12_question_136 a0 (0 : Int32) (2 : Int32) (some a0) h15
      ) else
      fX12_question_156 sm_fuel a0 (0 : Int32) (0 : Int32) h15
    ) else
    (sm_obj h9 (some a0) 12).bind fun b13 =>
    sm_cb (fX12_find b13 h9) fun _ h12 =>
    fX12_question_189 a0 (20 : Int32) h12
  ) else
  (sm_R (sm_get h5 (some a0) 12 7)).bind fun x23 =>
  (sm_I (sm_get h5 (some a0) 12 45)).bind fun x24 =>
  (sm_aI h5 x23 0 x24).bind fun x25 =>
  (sm_sI h5 x23 0 x24 (x25 + (1 : Int32))).bind fun h26 =>
  some ((0 : Int32), h26)
set_option maxRecDepth 100000 in
set_option maxHeartbeats 4000000 in
theorem sX12_question_0 (l : Launch) (D : va_G) (aC : Nat → ClassId) (B : Nat)   (a0 : Nat) (h : sm_H) : zS l D aC B cX12_question 4 RX12 9 206 (some .int) "question" vlI (fX12_question a0 h) 0 [(0, vR (some a0))] [] h := by
  unfold fX12_question
  refine sm_aload_n (i := 0) (j := 0) (pc' := 1) dX12_question_0 rfl rfl rfl ?_
  refine sm_iconst (v := (0 : Int32)) (pc' := 2) dX12_question_1 rfl (by decide) ?_
  refine sm_putI (k := 0) (pc' := 5) kX12 (by decide) mw699 rfl rfl dX12_question_2 rfl (fun h1 => ?_)
  refine sm_aload_n (i := 0) (j := 0) (pc' := 6) dX12_question_5 rfl rfl rfl ?_
  refine sm_getI (k := 2) (pc' := 9) kX12 (by decide) mw698 dX12_question_6 rfl (fun x2 => ?_)
  refine sm_istore_n (i := 1) (lv' := [(1, vI x2), (0, vR (some a0))]) (pc' := 10) dX12_question_9 rfl rfl (by decide) rfl ?_
  refine sm_aload_n (i := 0) (j := 1) (pc' := 11) dX12_question_10 rfl rfl rfl ?_
  refine sm_iconst (v := (0 : Int32)) (pc' := 12) dX12_question_11 rfl (by decide) ?_
  refine sm_putI (k := 2) (pc' := 15) kX12 (by decide) mw698 rfl rfl dX12_question_12 rfl (fun h3 => ?_)
  refine sm_aload_n (i := 0) (j := 1) (pc' := 16) dX12_question_15 rfl rfl rfl ?_
  refine sm_iconst (v := (0 : Int32)) (pc' := 17) dX12_question_16 rfl (by decide) ?_
  refine sm_putI (k := 65) (pc' := 20) kX12 (by decide) mw856 rfl rfl dX12_question_17 rfl (fun h4 => ?_)
  refine sm_aload_n (i := 0) (j := 1) (pc' := 21) dX12_question_20 rfl rfl rfl ?_
  refine sm_iload_n (i := 1) (j := 0) (pc' := 22) dX12_question_21 rfl rfl rfl ?_
  refine sm_cVU (pc' := 25) (ci := 12) (st := []) (F := fun b => fX12_readAll b x2 h4) [vI x2] yY_yX12_readAll rfl mw893 mw900 mw901 (fun b => mX12_readAll l D aC B b x2 h4) rfl (by decide) (by decide) (by exact Nat.le_of_ble_eq_true rfl) rfl dX12_question_22 rfl (fun _ h5 => ?_)
  refine sm_aload_n (i := 0) (j := 1) (pc' := 26) dX12_question_25 rfl rfl rfl ?_
  refine sm_getI (k := 45) (pc' := 29) kX12 (by decide) mw756 dX12_question_26 rfl (fun x6 => ?_)
  refine sm_if_eq (tgt := 47) (pc' := 32) dX12_question_29 (by decide) rfl ?_ ?_
  · refine sm_aload_n (i := 0) (j := 1) (pc' := 48) dX12_question_47 rfl rfl rfl ?_
    refine sm_iconst (v := (0 : Int32)) (pc' := 49) dX12_question_48 rfl (by decide) ?_
    refine sm_putI (k := 56) (pc' := 52) kX12 (by decide) mw835 rfl rfl dX12_question_49 rfl (fun h7 => ?_)
    refine sm_aload_n (i := 0) (j := 1) (pc' := 53) dX12_question_52 rfl rfl rfl ?_
    refine sm_iconst (v := (0 : Int32)) (pc' := 54) dX12_question_53 rfl (by decide) ?_
    refine sm_putI (k := 57) (pc' := 57) kX12 (by decide) mw836 rfl rfl dX12_question_54 rfl (fun h8 => ?_)
    refine sm_aload_n (i := 0) (j := 1) (pc' := 58) dX12_question_57 rfl rfl rfl ?_
    refine sm_iconst (v := (0 : Int32)) (pc' := 59) dX12_question_58 rfl (by decide) ?_
    refine sm_putI (k := 47) (pc' := 62) kX12 (by decide) mw860 rfl rfl dX12_question_59 rfl (fun h9 => ?_)
    refine sm_bipush (v := (20 : Int32)) (pc' := 64) dX12_question_62 rfl (by decide) ?_
    refine sm_istore_n (i := 2) (lv' := [(2, vI (20 : Int32)), (1, vI x2), (0, vR (some a0))]) (pc' := 65) dX12_question_64 rfl rfl (by decide) rfl ?_
    refine sm_aload_n (i := 0) (j := 2) (pc' := 66) dX12_question_65 rfl rfl rfl ?_
    refine sm_getI (k := 52) (pc' := 69) kX12 (by decide) mw794 dX12_question_66 rfl (fun x10 => ?_)
    refine sm_sipush (v := (165 : Int32)) (pc' := 72) dX12_question_69 rfl (by decide) ?_
    refine sm_icmp_ne (tgt := 82) (pc' := 75) dX12_question_72 (by decide) rfl ?_ ?_
    · refine sm_aload_n (i := 0) (j := 2) (pc' := 83) dX12_question_82 rfl rfl rfl ?_
      refine sm_getI (k := 52) (pc' := 86) kX12 (by decide) mw794 dX12_question_83 rfl (fun x11 => ?_)
      refine sm_sipush (v := (163 : Int32)) (pc' := 89) dX12_question_86 rfl (by decide) ?_
      refine sm_icmp_ne (tgt := 185) (pc' := 92) dX12_question_89 (by decide) rfl ?_ ?_
      · refine sm_aload_n (i := 0) (j := 2) (pc' := 186) dX12_question_185 rfl rfl rfl ?_
        refine sm_cVU (pc' := 189) (ci := 12) (st := []) (F := fun b => fX12_find b h9) [] yY_yX12_find rfl mw894 mw895 mw896 (fun b => mX12_find l D aC B b h9) rfl (by decide) (by decide) (by exact Nat.le_of_ble_eq_true rfl) rfl dX12_question_186 rfl (fun _ h12 => ?_)
        refine sm_lo (lv' := [(0, vR (some a0)), (2, vI (20 : Int32))]) [2, 0] rfl ?_
        exact sX12_question_189 l D aC B  a0 (20 : Int32) h12
      refine sm_iconst (v := (0 : Int32)) (pc' := 93) dX12_question_92 rfl (by decide) ?_
      refine sm_istore_n (i := 2) (lv' := [(2, vI (0 : Int32)), (1, vI x2), (0, vR (some a0))]) (pc' := 94) dX12_question_93 rfl rfl (by decide) rfl ?_
      refine sm_aload_n (i := 0) (j := 2) (pc' := 95) dX12_question_94 rfl rfl rfl ?_
      refine sm_aload_n (i := 0) (j := 2) (pc' := 96) dX12_question_95 rfl rfl rfl ?_
      refine sm_getI (k := 46) (pc' := 99) kX12 (by decide) mw778 dX12_question_96 rfl (fun x14 => ?_)
      refine sm_putI (k := 47) (pc' := 102) kX12 (by decide) mw860 rfl rfl dX12_question_99 rfl (fun h15 => ?_)
      refine sm_aload_n (i := 0) (j := 2) (pc' := 103) dX12_question_102 rfl rfl rfl ?_
      refine sm_getR (k := 31) (pc' := 106) kX12 (by decide) mw681 dX12_question_103 rfl (fun x16 => ?_)
      refine sm_aload_n (i := 0) (j := 2) (pc' := 107) dX12_question_106 rfl rfl rfl ?_
      refine sm_getI (k := 49) (pc' := 110) kX12 (by decide) mw793 dX12_question_107 rfl (fun x17 => ?_)
      refine sm_zald (t := 2) (pc' := 111) rfl dX12_question_110 rfl (fun x18 => ?_)
      refine sm_if_ne (tgt := 154) (pc' := 114) dX12_question_111 (by decide) rfl ?_ ?_
      · refine sm_iconst (v := (0 : Int32)) (pc' := 155) dX12_question_154 rfl (by decide) ?_
        refine sm_istore_n (i := 3) (lv' := [(3, vI (0 : Int32)), (2, vI (0 : Int32)), (1, vI x2), (0, vR (some a0))]) (pc' := 156) dX12_question_155 rfl rfl (by decide) rfl ?_
        refine sm_lo (lv' := [(0, vR (some a0)), (2, vI (0 : Int32)), (3, vI (0 : Int32))]) [3, 1, 0] rfl ?_
        exact sX12_question_156 l D aC B   sm_fuel a0 (0 : Int32) (0 : Int32) h15
      refine sm_aload_n (i := 0) (j := 2) (pc' := 115) dX12_question_114 rfl rfl rfl ?_
      refine sm_getI (k := 46) (pc' := 118) kX12 (by decide) mw778 dX12_question_115 rfl (fun x19 => ?_)
      refine sm_if_le (tgt := 154) (pc' := 121) dX12_question_118 (by decide) rfl ?_ ?_
      · refine sm_iconst (v := (0 : Int32)) (pc' := 155) dX12_question_154 rfl (by decide) ?_
        refine sm_istore_n (i := 3) (lv' := [(3, vI (0 : Int32)), (2, vI (0 : Int32)), (1, vI x2), (0, vR (some a0))]) (pc' := 156) dX12_question_155 rfl rfl (by decide) rfl ?_
        refine sm_lo (lv' := [(0, vR (some a0)), (2, vI (0 : Int32)), (3, vI (0 : Int32))]) [3, 1, 0] rfl ?_
        exact sX12_question_156 l D aC B   sm_fuel a0 (0 : Int32) (0 : Int32) h15
      refine sm_aload_n (i := 0) (j := 2) (pc' := 122) dX12_question_121 rfl rfl rfl ?_
      refine sm_aload_n (i := 0) (j := 2) (pc' := 123) dX12_question_122 rfl rfl rfl ?_
      refine sm_getI (k := 48) (pc' := 126) kX12 (by decide) mw795 dX12_question_123 rfl (fun x20 => ?_)
      refine sm_iconst (v := (1 : Int32)) (pc' := 127) dX12_question_126 rfl (by decide) ?_
      refine sm_icmp_ne (tgt := 135) (pc' := 130) dX12_question_127 (by decide) rfl ?_ ?_
      · refine sm_iconst (v := (2 : Int32)) (pc' := 136) dX12_question_135 rfl (by decide) ?_
        refine sm_lo (lv' := [(0, vR (some a0)), (2, vI (0 : Int32))]) [2, 0] rfl ?_
        exact sX12_question_136 l D aC B  a0 (0 : Int32) (2 : Int32) (some a0) h15
      refine sm_bipush (v := (6 : Int32)) (pc' := 132) dX12_question_130 rfl (by decide) ?_
      refine sm_goto (pc' := 136) dX12_question_132 (by decide) ?_
      refine sm_lo (lv' := [(0, vR (some a0)), (2, vI (0 : Int32))]) [2, 0] rfl ?_
      exact sX12_question_136 l D aC B  a0 (0 : Int32) (6 : Int32) (some a0) h15
    refine sm_aload_n (i := 0) (j := 2) (pc' := 76) dX12_question_75 rfl rfl rfl ?_
    refine sm_cVU (pc' := 79) (ci := 12) (st := []) (F := fun b => fX12_many b h9) [] yY_yX12_many rfl mw897 mw898 mw899 (fun b => mX12_many l D aC B b h9) rfl (by decide) (by decide) (by exact Nat.le_of_ble_eq_true rfl) rfl dX12_question_76 rfl (fun _ h21 => ?_)
    refine sm_goto (pc' := 189) dX12_question_79 (by decide) ?_
    refine sm_lo (lv' := [(0, vR (some a0)), (2, vI (20 : Int32))]) [2, 0] rfl ?_
    exact sX12_question_189 l D aC B  a0 (20 : Int32) h21
  refine sm_aload_n (i := 0) (j := 1) (pc' := 33) dX12_question_32 rfl rfl rfl ?_
  refine sm_getR (k := 7) (pc' := 36) kX12 (by decide) mw660 dX12_question_33 rfl (fun x23 => ?_)
  refine sm_aload_n (i := 0) (j := 1) (pc' := 37) dX12_question_36 rfl rfl rfl ?_
  refine sm_getI (k := 45) (pc' := 40) kX12 (by decide) mw756 dX12_question_37 rfl (fun x24 => ?_)
  refine sm_dup2 (pc' := 41) rfl rfl dX12_question_40 rfl ?_
  refine sm_iald (t := 0) (pc' := 42) rfl dX12_question_41 rfl (fun x25 => ?_)
  refine sm_iconst (v := (1 : Int32)) (pc' := 43) dX12_question_42 rfl (by decide) ?_
  refine sm_iadd (pc' := 44) dX12_question_43 rfl ?_
  refine sm_iast (t := 0) (pc' := 45) rfl dX12_question_44 rfl (fun h26 => ?_)
  refine sm_iconst (v := (0 : Int32)) (pc' := 46) dX12_question_45 rfl (by decide) ?_
  exact sm_iret rfl dX12_question_46
set_option maxRecDepth 100000 in
theorem mX12_question (l : Launch) (D : va_G) (aC : Nat → ClassId) (B : Nat) (a0 : Nat) (h : sm_H) : sm_M l D vwCl gAts aC B gTs gNs gOs yX12_question cX12_question 4 (some .int) 9 206 vlI [vR (some a0)] h (fX12_question a0 h) := sm_meth [vR (some a0)] yY_yX12_question gG gN (Nat.le_of_ble_eq_true rfl) rfl (sX12_question_0 l D aC B a0 h)
-- M:TreeAgentModel.answer(I)I
noncomputable def fX12_answer  (a0 : Nat) (a1 : Int32) (h : sm_H) : Option (Int32 × sm_H) :=
  (sm_put h (some a0) 12 0 (sm_v (vI (0 : Int32)))).bind fun h1 =>
  (sm_I (sm_get h1 (some a0) 12 65)).bind fun x2 =>
  sm_cb (fX12_in (a1.toInt64) (0 : Int64) ((x2 - (1 : Int32)).toInt64) h1) fun x3 h4 =>
  if x3 = 0 then (
    some ((-1 : Int32), h4)
  ) else
  (sm_R (sm_get h4 (some a0) 12 63)).bind fun x5 =>
  (sm_aI h4 x5 3 a1).bind fun x6 =>
  some (x6 &&& (255 : Int32), h4)
set_option maxRecDepth 100000 in
set_option maxHeartbeats 4000000 in
theorem sX12_answer_0 (l : Launch) (D : va_G) (aC : Nat → ClassId) (B : Nat)   (a0 : Nat) (a1 : Int32) (h : sm_H) : zS l D aC B cX12_answer 2 RX12 1 25 (some .int) "answer" vlI (fX12_answer a0 a1 h) 0 [(0, vR (some a0)), (1, vI a1)] [] h := by
  unfold fX12_answer
  refine sm_aload_n (i := 0) (j := 0) (pc' := 1) dX12_answer_0 rfl rfl rfl ?_
  refine sm_iconst (v := (0 : Int32)) (pc' := 2) dX12_answer_1 rfl (by decide) ?_
  refine sm_putI (k := 0) (pc' := 5) kX12 (by decide) mw699 rfl rfl dX12_answer_2 rfl (fun h1 => ?_)
  refine sm_iload_n (i := 1) (j := 1) (pc' := 6) dX12_answer_5 rfl rfl rfl ?_
  refine sm_i2l (pc' := 7) dX12_answer_6 rfl ?_
  refine sm_lconst (v := (0 : Int64)) (pc' := 8) dX12_answer_7 rfl (by decide) ?_
  refine sm_aload_n (i := 0) (j := 0) (pc' := 9) dX12_answer_8 rfl rfl rfl ?_
  refine sm_getI (k := 65) (pc' := 12) kX12 (by decide) mw856 dX12_answer_9 rfl (fun x2 => ?_)
  refine sm_iconst (v := (1 : Int32)) (pc' := 13) dX12_answer_12 rfl (by decide) ?_
  refine sm_isub (pc' := 14) dX12_answer_13 rfl ?_
  refine sm_i2l (pc' := 15) dX12_answer_14 rfl ?_
  refine sm_cSI (pc' := 18) (st := []) [vJ (a1.toInt64), vJ (0 : Int64), vJ ((x2 - (1 : Int32)).toInt64)] yY_yX12_in mw701 mw702 (mX12_in l D aC B (a1.toInt64) (0 : Int64) ((x2 - (1 : Int32)).toInt64) h1) rfl (by decide) (by decide) (by exact Nat.le_of_ble_eq_true rfl) rfl dX12_answer_15 rfl (fun x3 h4 => ?_)
  refine sm_if_eq (tgt := 34) (pc' := 21) dX12_answer_18 (by decide) rfl ?_ ?_
  · refine sm_iconst (v := (-1 : Int32)) (pc' := 35) dX12_answer_34 rfl (by decide) ?_
    exact sm_iret rfl dX12_answer_35
  refine sm_aload_n (i := 0) (j := 0) (pc' := 22) dX12_answer_21 rfl rfl rfl ?_
  refine sm_getR (k := 63) (pc' := 25) kX12 (by decide) mw696 dX12_answer_22 rfl (fun x5 => ?_)
  refine sm_iload_n (i := 1) (j := 1) (pc' := 26) dX12_answer_25 rfl rfl rfl ?_
  refine sm_bald (t := 3) (pc' := 27) rfl dX12_answer_26 rfl (fun x6 => ?_)
  refine sm_sipush (v := (255 : Int32)) (pc' := 30) dX12_answer_27 rfl (by decide) ?_
  refine sm_iand (pc' := 31) dX12_answer_30 rfl ?_
  refine sm_goto (pc' := 35) dX12_answer_31 (by decide) ?_
  exact sm_iret rfl dX12_answer_35
set_option maxRecDepth 100000 in
theorem mX12_answer (l : Launch) (D : va_G) (aC : Nat → ClassId) (B : Nat) (a0 : Nat) (a1 : Int32) (h : sm_H) : sm_M l D vwCl gAts aC B gTs gNs gOs yX12_answer cX12_answer 2 (some .int) 1 25 vlI [vR (some a0), vI a1] h (fX12_answer a0 a1 h) := sm_meth [vR (some a0), vI a1] yY_yX12_answer gG gN (Nat.le_of_ble_eq_true rfl) rfl (sX12_answer_0 l D aC B a0 a1 h)
-- M:TreeAgentModel.count(I)I
noncomputable def fX12_count  (a0 : Nat) (a1 : Int32) (h : sm_H) : Option (Int32 × sm_H) :=
  (sm_put h (some a0) 12 0 (sm_v (vI (0 : Int32)))).bind fun h1 =>
  if a1 = 0 then (
    (sm_I (sm_get h1 (some a0) 12 8)).bind fun x8 =>
    some (x8, h1)
  ) else
  sm_cb (fX12_in (a1.toInt64) (1 : Int64) (7 : Int64) h1) fun x2 h3 =>
  if x2 = 0 then (
    if a1 = (8 : Int32) then (
      (sm_I (sm_get h3 (some a0) 12 28)).bind fun x5 =>
      some (x5, h3)
    ) else
    if a1 = (9 : Int32) then (
      (sm_I (sm_get h3 (some a0) 12 22)).bind fun x4 =>
      some (x4, h3)
    ) else
    some ((-2 : Int32), h3)
  ) else
  (sm_R (sm_get h3 (some a0) 12 7)).bind fun x6 =>
  (sm_aI h3 x6 0 a1).bind fun x7 =>
  some (x7, h3)
set_option maxRecDepth 100000 in
set_option maxHeartbeats 4000000 in
theorem sX12_count_0 (l : Launch) (D : va_G) (aC : Nat → ClassId) (B : Nat)   (a0 : Nat) (a1 : Int32) (h : sm_H) : zS l D aC B cX12_count 2 RX12 1 25 (some .int) "count" vlI (fX12_count a0 a1 h) 0 [(0, vR (some a0)), (1, vI a1)] [] h := by
  unfold fX12_count
  refine sm_aload_n (i := 0) (j := 0) (pc' := 1) dX12_count_0 rfl rfl rfl ?_
  refine sm_iconst (v := (0 : Int32)) (pc' := 2) dX12_count_1 rfl (by decide) ?_
  refine sm_putI (k := 0) (pc' := 5) kX12 (by decide) mw699 rfl rfl dX12_count_2 rfl (fun h1 => ?_)
  refine sm_iload_n (i := 1) (j := 1) (pc' := 6) dX12_count_5 rfl rfl rfl ?_
  refine sm_if_ne (tgt := 16) (pc' := 9) dX12_count_6 (by decide) rfl ?_ ?_
  · refine sm_iload_n (i := 1) (j := 1) (pc' := 17) dX12_count_16 rfl rfl rfl ?_
    refine sm_i2l (pc' := 18) dX12_count_17 rfl ?_
    refine sm_lconst (v := (1 : Int64)) (pc' := 19) dX12_count_18 rfl (by decide) ?_
    refine sm_ldc2 (v := (7 : Int64)) (pc' := 22) dX12_count_19 rfl mw902 ?_
    refine sm_cSI (pc' := 25) (st := []) [vJ (a1.toInt64), vJ (1 : Int64), vJ (7 : Int64)] yY_yX12_in mw701 mw702 (mX12_in l D aC B (a1.toInt64) (1 : Int64) (7 : Int64) h1) rfl (by decide) (by decide) (by exact Nat.le_of_ble_eq_true rfl) rfl dX12_count_22 rfl (fun x2 h3 => ?_)
    refine sm_if_eq (tgt := 37) (pc' := 28) dX12_count_25 (by decide) rfl ?_ ?_
    · refine sm_iload_n (i := 1) (j := 1) (pc' := 38) dX12_count_37 rfl rfl rfl ?_
      refine sm_bipush (v := (8 : Int32)) (pc' := 40) dX12_count_38 rfl (by decide) ?_
      refine sm_icmp_ne (tgt := 50) (pc' := 43) dX12_count_40 (by decide) rfl ?_ ?_
      · refine sm_iload_n (i := 1) (j := 1) (pc' := 51) dX12_count_50 rfl rfl rfl ?_
        refine sm_bipush (v := (9 : Int32)) (pc' := 53) dX12_count_51 rfl (by decide) ?_
        refine sm_icmp_ne (tgt := 63) (pc' := 56) dX12_count_53 (by decide) rfl ?_ ?_
        · refine sm_bipush (v := (-2 : Int32)) (pc' := 65) dX12_count_63 rfl (by decide) ?_
          exact sm_iret rfl dX12_count_65
        refine sm_aload_n (i := 0) (j := 0) (pc' := 57) dX12_count_56 rfl rfl rfl ?_
        refine sm_getI (k := 22) (pc' := 60) kX12 (by decide) mw697 dX12_count_57 rfl (fun x4 => ?_)
        refine sm_goto (pc' := 65) dX12_count_60 (by decide) ?_
        exact sm_iret rfl dX12_count_65
      refine sm_aload_n (i := 0) (j := 0) (pc' := 44) dX12_count_43 rfl rfl rfl ?_
      refine sm_getI (k := 28) (pc' := 47) kX12 (by decide) mw746 dX12_count_44 rfl (fun x5 => ?_)
      refine sm_goto (pc' := 65) dX12_count_47 (by decide) ?_
      exact sm_iret rfl dX12_count_65
    refine sm_aload_n (i := 0) (j := 0) (pc' := 29) dX12_count_28 rfl rfl rfl ?_
    refine sm_getR (k := 7) (pc' := 32) kX12 (by decide) mw660 dX12_count_29 rfl (fun x6 => ?_)
    refine sm_iload_n (i := 1) (j := 1) (pc' := 33) dX12_count_32 rfl rfl rfl ?_
    refine sm_iald (t := 0) (pc' := 34) rfl dX12_count_33 rfl (fun x7 => ?_)
    refine sm_goto (pc' := 65) dX12_count_34 (by decide) ?_
    exact sm_iret rfl dX12_count_65
  refine sm_aload_n (i := 0) (j := 0) (pc' := 10) dX12_count_9 rfl rfl rfl ?_
  refine sm_getI (k := 8) (pc' := 13) kX12 (by decide) mw710 dX12_count_10 rfl (fun x8 => ?_)
  refine sm_goto (pc' := 65) dX12_count_13 (by decide) ?_
  exact sm_iret rfl dX12_count_65
set_option maxRecDepth 100000 in
theorem mX12_count (l : Launch) (D : va_G) (aC : Nat → ClassId) (B : Nat) (a0 : Nat) (a1 : Int32) (h : sm_H) : sm_M l D vwCl gAts aC B gTs gNs gOs yX12_count cX12_count 2 (some .int) 1 25 vlI [vR (some a0), vI a1] h (fX12_count a0 a1 h) := sm_meth [vR (some a0), vI a1] yY_yX12_count gG gN (Nat.le_of_ble_eq_true rfl) rfl (sX12_count_0 l D aC B a0 a1 h)
-- M:TreeAgentModel.rows(I)I
noncomputable def fX12_rows  (a0 : Nat) (a1 : Int32) (h : sm_H) : Option (Int32 × sm_H) :=
  (sm_put h (some a0) 12 0 (sm_v (vI (0 : Int32)))).bind fun h1 =>
  (sm_I (sm_get h1 (some a0) 12 22)).bind fun x2 =>
  sm_cb (fX12_in (a1.toInt64) (0 : Int64) ((x2 - (1 : Int32)).toInt64) h1) fun x3 h4 =>
  if x3 = 0 then (
    some ((-1 : Int32), h4)
  ) else
  (sm_R (sm_get h4 (some a0) 12 26)).bind fun x5 =>
  (sm_aI h4 x5 0 a1).bind fun x6 =>
  some (x6, h4)
set_option maxRecDepth 100000 in
set_option maxHeartbeats 4000000 in
theorem sX12_rows_0 (l : Launch) (D : va_G) (aC : Nat → ClassId) (B : Nat)   (a0 : Nat) (a1 : Int32) (h : sm_H) : zS l D aC B cX12_rows 2 RX12 1 25 (some .int) "rows" vlI (fX12_rows a0 a1 h) 0 [(0, vR (some a0)), (1, vI a1)] [] h := by
  unfold fX12_rows
  refine sm_aload_n (i := 0) (j := 0) (pc' := 1) dX12_rows_0 rfl rfl rfl ?_
  refine sm_iconst (v := (0 : Int32)) (pc' := 2) dX12_rows_1 rfl (by decide) ?_
  refine sm_putI (k := 0) (pc' := 5) kX12 (by decide) mw699 rfl rfl dX12_rows_2 rfl (fun h1 => ?_)
  refine sm_iload_n (i := 1) (j := 1) (pc' := 6) dX12_rows_5 rfl rfl rfl ?_
  refine sm_i2l (pc' := 7) dX12_rows_6 rfl ?_
  refine sm_lconst (v := (0 : Int64)) (pc' := 8) dX12_rows_7 rfl (by decide) ?_
  refine sm_aload_n (i := 0) (j := 0) (pc' := 9) dX12_rows_8 rfl rfl rfl ?_
  refine sm_getI (k := 22) (pc' := 12) kX12 (by decide) mw697 dX12_rows_9 rfl (fun x2 => ?_)
  refine sm_iconst (v := (1 : Int32)) (pc' := 13) dX12_rows_12 rfl (by decide) ?_
  refine sm_isub (pc' := 14) dX12_rows_13 rfl ?_
  refine sm_i2l (pc' := 15) dX12_rows_14 rfl ?_
  refine sm_cSI (pc' := 18) (st := []) [vJ (a1.toInt64), vJ (0 : Int64), vJ ((x2 - (1 : Int32)).toInt64)] yY_yX12_in mw701 mw702 (mX12_in l D aC B (a1.toInt64) (0 : Int64) ((x2 - (1 : Int32)).toInt64) h1) rfl (by decide) (by decide) (by exact Nat.le_of_ble_eq_true rfl) rfl dX12_rows_15 rfl (fun x3 h4 => ?_)
  refine sm_if_eq (tgt := 30) (pc' := 21) dX12_rows_18 (by decide) rfl ?_ ?_
  · refine sm_iconst (v := (-1 : Int32)) (pc' := 31) dX12_rows_30 rfl (by decide) ?_
    exact sm_iret rfl dX12_rows_31
  refine sm_aload_n (i := 0) (j := 0) (pc' := 22) dX12_rows_21 rfl rfl rfl ?_
  refine sm_getR (k := 26) (pc' := 25) kX12 (by decide) mw677 dX12_rows_22 rfl (fun x5 => ?_)
  refine sm_iload_n (i := 1) (j := 1) (pc' := 26) dX12_rows_25 rfl rfl rfl ?_
  refine sm_iald (t := 0) (pc' := 27) rfl dX12_rows_26 rfl (fun x6 => ?_)
  refine sm_goto (pc' := 31) dX12_rows_27 (by decide) ?_
  exact sm_iret rfl dX12_rows_31
set_option maxRecDepth 100000 in
theorem mX12_rows (l : Launch) (D : va_G) (aC : Nat → ClassId) (B : Nat) (a0 : Nat) (a1 : Int32) (h : sm_H) : sm_M l D vwCl gAts aC B gTs gNs gOs yX12_rows cX12_rows 2 (some .int) 1 25 vlI [vR (some a0), vI a1] h (fX12_rows a0 a1 h) := sm_meth [vR (some a0), vI a1] yY_yX12_rows gG gN (Nat.le_of_ble_eq_true rfl) rfl (sX12_rows_0 l D aC B a0 a1 h)
-- M:TreeAgentModel.told(II)J
noncomputable def fX12_told  (a0 : Nat) (a1 : Int32) (a2 : Int32) (h : sm_H) : Option (Int64 × sm_H) :=
  (sm_put h (some a0) 12 0 (sm_v (vI (0 : Int32)))).bind fun h1 =>
  (sm_obj h1 (some a0) 12).bind fun b15 =>
  sm_cb (fX12_instance b15 a1 a2 h1) fun x2 h3 =>
  if 0 ≤ x2 then (
    (sm_R (sm_get h3 (some a0) 12 11)).bind fun x4 =>
    (sm_aI h3 x4 0 a1).bind fun x5 =>
    if x5 = (4 : Int32) then (
      (sm_R (sm_get h3 (some a0) 12 19)).bind fun x13 =>
      (sm_aI h3 x13 0 x2).bind fun x14 =>
      some (x14.toInt64, h3)
    ) else
    (sm_R (sm_get h3 (some a0) 12 11)).bind fun x6 =>
    (sm_aI h3 x6 0 a1).bind fun x7 =>
    if x7 = (6 : Int32) then (
      (sm_R (sm_get h3 (some a0) 12 21)).bind fun x11 =>
      (sm_aI h3 x11 0 x2).bind fun x12 =>
      some (x12.toInt64, h3)
    ) else
    (sm_obj h3 (some a0) 12).bind fun b10 =>
    sm_cb (fX12_numberOf b10 a1 x2 h3) fun x8 h9 =>
    some (x8, h9)
  ) else
  some ((-1 : Int64), h3)
set_option maxRecDepth 100000 in
set_option maxHeartbeats 4000000 in
theorem sX12_told_0 (l : Launch) (D : va_G) (aC : Nat → ClassId) (B : Nat)   (a0 : Nat) (a1 : Int32) (a2 : Int32) (h : sm_H) : zS l D aC B cX12_told 4 RX12 2 48 (some .long) "told" vlJ (fX12_told a0 a1 a2 h) 0 [(0, vR (some a0)), (1, vI a1), (2, vI a2)] [] h := by
  unfold fX12_told
  refine sm_aload_n (i := 0) (j := 0) (pc' := 1) dX12_told_0 rfl rfl rfl ?_
  refine sm_iconst (v := (0 : Int32)) (pc' := 2) dX12_told_1 rfl (by decide) ?_
  refine sm_putI (k := 0) (pc' := 5) kX12 (by decide) mw699 rfl rfl dX12_told_2 rfl (fun h1 => ?_)
  refine sm_aload_n (i := 0) (j := 0) (pc' := 6) dX12_told_5 rfl rfl rfl ?_
  refine sm_iload_n (i := 1) (j := 1) (pc' := 7) dX12_told_6 rfl rfl rfl ?_
  refine sm_iload_n (i := 2) (j := 2) (pc' := 8) dX12_told_7 rfl rfl rfl ?_
  refine sm_cVI (pc' := 11) (ci := 12) (st := []) (F := fun b => fX12_instance b a1 a2 h1) [vI a1, vI a2] yY_yX12_instance rfl mw740 mw743 mw744 (fun b => mX12_instance l D aC B b a1 a2 h1) rfl (by decide) (by decide) (by exact Nat.le_of_ble_eq_true rfl) rfl dX12_told_8 rfl (fun x2 h3 => ?_)
  refine sm_istore_n (i := 3) (lv' := [(3, vI x2), (0, vR (some a0)), (1, vI a1), (2, vI a2)]) (pc' := 12) dX12_told_11 rfl rfl (by decide) rfl ?_
  refine sm_iload_n (i := 3) (j := 0) (pc' := 13) dX12_told_12 rfl rfl rfl ?_
  refine sm_if_ge (tgt := 20) (pc' := 16) dX12_told_13 (by decide) rfl ?_ ?_
  · refine sm_aload_n (i := 0) (j := 1) (pc' := 21) dX12_told_20 rfl rfl rfl ?_
    refine sm_getR (k := 11) (pc' := 24) kX12 (by decide) mw663 dX12_told_21 rfl (fun x4 => ?_)
    refine sm_iload_n (i := 1) (j := 2) (pc' := 25) dX12_told_24 rfl rfl rfl ?_
    refine sm_iald (t := 0) (pc' := 26) rfl dX12_told_25 rfl (fun x5 => ?_)
    refine sm_iconst (v := (4 : Int32)) (pc' := 27) dX12_told_26 rfl (by decide) ?_
    refine sm_icmp_ne (tgt := 40) (pc' := 30) dX12_told_27 (by decide) rfl ?_ ?_
    · refine sm_aload_n (i := 0) (j := 1) (pc' := 41) dX12_told_40 rfl rfl rfl ?_
      refine sm_getR (k := 11) (pc' := 44) kX12 (by decide) mw663 dX12_told_41 rfl (fun x6 => ?_)
      refine sm_iload_n (i := 1) (j := 2) (pc' := 45) dX12_told_44 rfl rfl rfl ?_
      refine sm_iald (t := 0) (pc' := 46) rfl dX12_told_45 rfl (fun x7 => ?_)
      refine sm_bipush (v := (6 : Int32)) (pc' := 48) dX12_told_46 rfl (by decide) ?_
      refine sm_icmp_ne (tgt := 61) (pc' := 51) dX12_told_48 (by decide) rfl ?_ ?_
      · refine sm_aload_n (i := 0) (j := 1) (pc' := 62) dX12_told_61 rfl rfl rfl ?_
        refine sm_iload_n (i := 1) (j := 2) (pc' := 63) dX12_told_62 rfl rfl rfl ?_
        refine sm_iload_n (i := 3) (j := 0) (pc' := 64) dX12_told_63 rfl rfl rfl ?_
        refine sm_cVJ (pc' := 67) (ci := 12) (st := []) (F := fun b => fX12_numberOf b a1 x2 h3) [vI a1, vI x2] yY_yX12_numberOf rfl mw797 mw798 mw799 (fun b => mX12_numberOf l D aC B b a1 x2 h3) rfl (by decide) (by decide) (by exact Nat.le_of_ble_eq_true rfl) rfl dX12_told_64 rfl (fun x8 h9 => ?_)
        exact sm_lret rfl dX12_told_67
      refine sm_aload_n (i := 0) (j := 1) (pc' := 52) dX12_told_51 rfl rfl rfl ?_
      refine sm_getR (k := 21) (pc' := 55) kX12 (by decide) mw673 dX12_told_52 rfl (fun x11 => ?_)
      refine sm_iload_n (i := 3) (j := 0) (pc' := 56) dX12_told_55 rfl rfl rfl ?_
      refine sm_iald (t := 0) (pc' := 57) rfl dX12_told_56 rfl (fun x12 => ?_)
      refine sm_i2l (pc' := 58) dX12_told_57 rfl ?_
      refine sm_goto (pc' := 67) dX12_told_58 (by decide) ?_
      exact sm_lret rfl dX12_told_67
    refine sm_aload_n (i := 0) (j := 1) (pc' := 31) dX12_told_30 rfl rfl rfl ?_
    refine sm_getR (k := 19) (pc' := 34) kX12 (by decide) mw671 dX12_told_31 rfl (fun x13 => ?_)
    refine sm_iload_n (i := 3) (j := 0) (pc' := 35) dX12_told_34 rfl rfl rfl ?_
    refine sm_iald (t := 0) (pc' := 36) rfl dX12_told_35 rfl (fun x14 => ?_)
    refine sm_i2l (pc' := 37) dX12_told_36 rfl ?_
    refine sm_goto (pc' := 67) dX12_told_37 (by decide) ?_
    exact sm_lret rfl dX12_told_67
  refine sm_ldc2 (v := (-1 : Int64)) (pc' := 19) dX12_told_16 rfl mw704 ?_
  exact sm_lret rfl dX12_told_19
set_option maxRecDepth 100000 in
theorem mX12_told (l : Launch) (D : va_G) (aC : Nat → ClassId) (B : Nat) (a0 : Nat) (a1 : Int32) (a2 : Int32) (h : sm_H) : sm_M l D vwCl gAts aC B gTs gNs gOs yX12_told cX12_told 4 (some .long) 2 48 vlJ [vR (some a0), vI a1, vI a2] h (fX12_told a0 a1 a2 h) := sm_meth [vR (some a0), vI a1, vI a2] yY_yX12_told gG gN (Nat.le_of_ble_eq_true rfl) rfl (sX12_told_0 l D aC B a0 a1 a2 h)
-- M:TreeAgentModel.part(III)J
noncomputable def fX12_part_43  (a0 : Nat) (a1 : Int32) (a3 : Int32) (a4 : Int32) (h : sm_H) : Option (Int64 × sm_H) :=
  (sm_R (sm_get h (some a0) 12 11)).bind fun x1 =>
  (sm_aI h x1 0 a1).bind fun x2 =>
  if x2 = (4 : Int32) then (
    (sm_R (sm_get h (some a0) 12 19)).bind fun x9 =>
    (sm_aI h x9 0 a4).bind fun x10 =>
    sm_cb (fX12_in (a3.toInt64) (0 : Int64) ((x10 - (1 : Int32)).toInt64) h) fun x11 h12 =>
    if x11 = 0 then (
      some ((-1 : Int64), h12)
    ) else
    (sm_R (sm_get h12 (some a0) 12 18)).bind fun x13 =>
    (sm_aI h12 x13 3 (((40 : Int32) * a4) + a3)).bind fun x14 =>
    some ((x14 &&& (255 : Int32)).toInt64, h12)
  ) else
  (sm_R (sm_get h (some a0) 12 21)).bind fun x3 =>
  (sm_aI h x3 0 a4).bind fun x4 =>
  sm_cb (fX12_in (a3.toInt64) (0 : Int64) ((x4 - (1 : Int32)).toInt64) h) fun x5 h6 =>
  if x5 = 0 then (
    some ((-1 : Int64), h6)
  ) else
  (sm_R (sm_get h6 (some a0) 12 20)).bind fun x7 =>
  (sm_aJ h6 x7 1 (((16 : Int32) * a4) + a3)).bind fun x8 =>
  some (x8, h6)
set_option maxRecDepth 100000 in
set_option maxHeartbeats 4000000 in
theorem sX12_part_43 (l : Launch) (D : va_G) (aC : Nat → ClassId) (B : Nat)   (a0 : Nat) (a1 : Int32) (a3 : Int32) (a4 : Int32) (h : sm_H) : zS l D aC B cX12_part 5 RX12 2 48 (some .long) "part" vlJ (fX12_part_43 a0 a1 a3 a4 h) 43 [(0, vR (some a0)), (1, vI a1), (3, vI a3), (4, vI a4)] [] h := by
  unfold fX12_part_43
  refine sm_aload_n (i := 0) (j := 0) (pc' := 44) dX12_part_43 rfl rfl rfl ?_
  refine sm_getR (k := 11) (pc' := 47) kX12 (by decide) mw663 dX12_part_44 rfl (fun x1 => ?_)
  refine sm_iload_n (i := 1) (j := 1) (pc' := 48) dX12_part_47 rfl rfl rfl ?_
  refine sm_iald (t := 0) (pc' := 49) rfl dX12_part_48 rfl (fun x2 => ?_)
  refine sm_iconst (v := (4 : Int32)) (pc' := 50) dX12_part_49 rfl (by decide) ?_
  refine sm_icmp_ne (tgt := 96) (pc' := 53) dX12_part_50 (by decide) rfl ?_ ?_
  · refine sm_iload_n (i := 3) (j := 2) (pc' := 97) dX12_part_96 rfl rfl rfl ?_
    refine sm_i2l (pc' := 98) dX12_part_97 rfl ?_
    refine sm_lconst (v := (0 : Int64)) (pc' := 99) dX12_part_98 rfl (by decide) ?_
    refine sm_aload_n (i := 0) (j := 0) (pc' := 100) dX12_part_99 rfl rfl rfl ?_
    refine sm_getR (k := 21) (pc' := 103) kX12 (by decide) mw673 dX12_part_100 rfl (fun x3 => ?_)
    refine sm_iload (i := 4) (j := 3) (pc' := 105) dX12_part_103 rfl rfl ?_
    refine sm_iald (t := 0) (pc' := 106) rfl dX12_part_105 rfl (fun x4 => ?_)
    refine sm_iconst (v := (1 : Int32)) (pc' := 107) dX12_part_106 rfl (by decide) ?_
    refine sm_isub (pc' := 108) dX12_part_107 rfl ?_
    refine sm_i2l (pc' := 109) dX12_part_108 rfl ?_
    refine sm_cSI (pc' := 112) (st := []) [vJ (a3.toInt64), vJ (0 : Int64), vJ ((x4 - (1 : Int32)).toInt64)] yY_yX12_in mw701 mw702 (mX12_in l D aC B (a3.toInt64) (0 : Int64) ((x4 - (1 : Int32)).toInt64) h) rfl (by decide) (by decide) (by exact Nat.le_of_ble_eq_true rfl) rfl dX12_part_109 rfl (fun x5 h6 => ?_)
    refine sm_if_eq (tgt := 130) (pc' := 115) dX12_part_112 (by decide) rfl ?_ ?_
    · refine sm_ldc2 (v := (-1 : Int64)) (pc' := 133) dX12_part_130 rfl mw704 ?_
      exact sm_lret rfl dX12_part_133
    refine sm_aload_n (i := 0) (j := 0) (pc' := 116) dX12_part_115 rfl rfl rfl ?_
    refine sm_getR (k := 20) (pc' := 119) kX12 (by decide) mw672 dX12_part_116 rfl (fun x7 => ?_)
    refine sm_bipush (v := (16 : Int32)) (pc' := 121) dX12_part_119 rfl (by decide) ?_
    refine sm_iload (i := 4) (j := 3) (pc' := 123) dX12_part_121 rfl rfl ?_
    refine sm_imul (pc' := 124) dX12_part_123 rfl ?_
    refine sm_iload_n (i := 3) (j := 2) (pc' := 125) dX12_part_124 rfl rfl rfl ?_
    refine sm_iadd (pc' := 126) dX12_part_125 rfl ?_
    refine sm_lald (t := 1) (pc' := 127) rfl dX12_part_126 rfl (fun x8 => ?_)
    refine sm_goto (pc' := 133) dX12_part_127 (by decide) ?_
    exact sm_lret rfl dX12_part_133
  refine sm_iload_n (i := 3) (j := 2) (pc' := 54) dX12_part_53 rfl rfl rfl ?_
  refine sm_i2l (pc' := 55) dX12_part_54 rfl ?_
  refine sm_lconst (v := (0 : Int64)) (pc' := 56) dX12_part_55 rfl (by decide) ?_
  refine sm_aload_n (i := 0) (j := 0) (pc' := 57) dX12_part_56 rfl rfl rfl ?_
  refine sm_getR (k := 19) (pc' := 60) kX12 (by decide) mw671 dX12_part_57 rfl (fun x9 => ?_)
  refine sm_iload (i := 4) (j := 3) (pc' := 62) dX12_part_60 rfl rfl ?_
  refine sm_iald (t := 0) (pc' := 63) rfl dX12_part_62 rfl (fun x10 => ?_)
  refine sm_iconst (v := (1 : Int32)) (pc' := 64) dX12_part_63 rfl (by decide) ?_
  refine sm_isub (pc' := 65) dX12_part_64 rfl ?_
  refine sm_i2l (pc' := 66) dX12_part_65 rfl ?_
  refine sm_cSI (pc' := 69) (st := []) [vJ (a3.toInt64), vJ (0 : Int64), vJ ((x10 - (1 : Int32)).toInt64)] yY_yX12_in mw701 mw702 (mX12_in l D aC B (a3.toInt64) (0 : Int64) ((x10 - (1 : Int32)).toInt64) h) rfl (by decide) (by decide) (by exact Nat.le_of_ble_eq_true rfl) rfl dX12_part_66 rfl (fun x11 h12 => ?_)
  refine sm_if_eq (tgt := 92) (pc' := 72) dX12_part_69 (by decide) rfl ?_ ?_
  · refine sm_ldc2 (v := (-1 : Int64)) (pc' := 95) dX12_part_92 rfl mw704 ?_
    exact sm_lret rfl dX12_part_95
  refine sm_aload_n (i := 0) (j := 0) (pc' := 73) dX12_part_72 rfl rfl rfl ?_
  refine sm_getR (k := 18) (pc' := 76) kX12 (by decide) mw670 dX12_part_73 rfl (fun x13 => ?_)
  refine sm_bipush (v := (40 : Int32)) (pc' := 78) dX12_part_76 rfl (by decide) ?_
  refine sm_iload (i := 4) (j := 3) (pc' := 80) dX12_part_78 rfl rfl ?_
  refine sm_imul (pc' := 81) dX12_part_80 rfl ?_
  refine sm_iload_n (i := 3) (j := 2) (pc' := 82) dX12_part_81 rfl rfl rfl ?_
  refine sm_iadd (pc' := 83) dX12_part_82 rfl ?_
  refine sm_bald (t := 3) (pc' := 84) rfl dX12_part_83 rfl (fun x14 => ?_)
  refine sm_sipush (v := (255 : Int32)) (pc' := 87) dX12_part_84 rfl (by decide) ?_
  refine sm_iand (pc' := 88) dX12_part_87 rfl ?_
  refine sm_i2l (pc' := 89) dX12_part_88 rfl ?_
  refine sm_goto (pc' := 95) dX12_part_89 (by decide) ?_
  exact sm_lret rfl dX12_part_95
noncomputable def fX12_part  (a0 : Nat) (a1 : Int32) (a2 : Int32) (a3 : Int32) (h : sm_H) : Option (Int64 × sm_H) :=
  (sm_put h (some a0) 12 0 (sm_v (vI (0 : Int32)))).bind fun h1 =>
  (sm_obj h1 (some a0) 12).bind fun b8 =>
  sm_cb (fX12_instance b8 a1 a2 h1) fun x2 h3 =>
  if x2 < 0 then (
    some ((-1 : Int64), h3)
  ) else
  (sm_R (sm_get h3 (some a0) 12 11)).bind fun x4 =>
  (sm_aI h3 x4 0 a1).bind fun x5 =>
  if x5 = (4 : Int32) then (
    fX12_part_43 a0 a1 a3 x2 h3
  ) else
  (sm_R (sm_get h3 (some a0) 12 11)).bind fun x6 =>
  (sm_aI h3 x6 0 a1).bind fun x7 =>
  if x7 = (6 : Int32) then (
    fX12_part_43 a0 a1 a3 x2 h3
  ) else
  some ((-1 : Int64), h3)
set_option maxRecDepth 100000 in
set_option maxHeartbeats 4000000 in
theorem sX12_part_0 (l : Launch) (D : va_G) (aC : Nat → ClassId) (B : Nat)   (a0 : Nat) (a1 : Int32) (a2 : Int32) (a3 : Int32) (h : sm_H) : zS l D aC B cX12_part 5 RX12 2 48 (some .long) "part" vlJ (fX12_part a0 a1 a2 a3 h) 0 [(0, vR (some a0)), (1, vI a1), (2, vI a2), (3, vI a3)] [] h := by
  unfold fX12_part
  refine sm_aload_n (i := 0) (j := 0) (pc' := 1) dX12_part_0 rfl rfl rfl ?_
  refine sm_iconst (v := (0 : Int32)) (pc' := 2) dX12_part_1 rfl (by decide) ?_
  refine sm_putI (k := 0) (pc' := 5) kX12 (by decide) mw699 rfl rfl dX12_part_2 rfl (fun h1 => ?_)
  refine sm_aload_n (i := 0) (j := 0) (pc' := 6) dX12_part_5 rfl rfl rfl ?_
  refine sm_iload_n (i := 1) (j := 1) (pc' := 7) dX12_part_6 rfl rfl rfl ?_
  refine sm_iload_n (i := 2) (j := 2) (pc' := 8) dX12_part_7 rfl rfl rfl ?_
  refine sm_cVI (pc' := 11) (ci := 12) (st := []) (F := fun b => fX12_instance b a1 a2 h1) [vI a1, vI a2] yY_yX12_instance rfl mw740 mw743 mw744 (fun b => mX12_instance l D aC B b a1 a2 h1) rfl (by decide) (by decide) (by exact Nat.le_of_ble_eq_true rfl) rfl dX12_part_8 rfl (fun x2 h3 => ?_)
  refine sm_istore (i := 4) (lv' := [(4, vI x2), (0, vR (some a0)), (1, vI a1), (2, vI a2), (3, vI a3)]) (pc' := 13) dX12_part_11 rfl (by decide) rfl ?_
  refine sm_iload (i := 4) (j := 0) (pc' := 15) dX12_part_13 rfl rfl ?_
  refine sm_if_lt (tgt := 39) (pc' := 18) dX12_part_15 (by decide) rfl ?_ ?_
  · refine sm_ldc2 (v := (-1 : Int64)) (pc' := 42) dX12_part_39 rfl mw704 ?_
    exact sm_lret rfl dX12_part_42
  refine sm_aload_n (i := 0) (j := 1) (pc' := 19) dX12_part_18 rfl rfl rfl ?_
  refine sm_getR (k := 11) (pc' := 22) kX12 (by decide) mw663 dX12_part_19 rfl (fun x4 => ?_)
  refine sm_iload_n (i := 1) (j := 2) (pc' := 23) dX12_part_22 rfl rfl rfl ?_
  refine sm_iald (t := 0) (pc' := 24) rfl dX12_part_23 rfl (fun x5 => ?_)
  refine sm_iconst (v := (4 : Int32)) (pc' := 25) dX12_part_24 rfl (by decide) ?_
  refine sm_icmp_eq (tgt := 43) (pc' := 28) dX12_part_25 (by decide) rfl ?_ ?_
  · refine sm_lo (lv' := [(0, vR (some a0)), (1, vI a1), (3, vI a3), (4, vI x2)]) [1, 2, 4, 0] rfl ?_
    exact sX12_part_43 l D aC B  a0 a1 a3 x2 h3
  refine sm_aload_n (i := 0) (j := 1) (pc' := 29) dX12_part_28 rfl rfl rfl ?_
  refine sm_getR (k := 11) (pc' := 32) kX12 (by decide) mw663 dX12_part_29 rfl (fun x6 => ?_)
  refine sm_iload_n (i := 1) (j := 2) (pc' := 33) dX12_part_32 rfl rfl rfl ?_
  refine sm_iald (t := 0) (pc' := 34) rfl dX12_part_33 rfl (fun x7 => ?_)
  refine sm_bipush (v := (6 : Int32)) (pc' := 36) dX12_part_34 rfl (by decide) ?_
  refine sm_icmp_eq (tgt := 43) (pc' := 39) dX12_part_36 (by decide) rfl ?_ ?_
  · refine sm_lo (lv' := [(0, vR (some a0)), (1, vI a1), (3, vI a3), (4, vI x2)]) [1, 2, 4, 0] rfl ?_
    exact sX12_part_43 l D aC B  a0 a1 a3 x2 h3
  refine sm_ldc2 (v := (-1 : Int64)) (pc' := 42) dX12_part_39 rfl mw704 ?_
  exact sm_lret rfl dX12_part_42
set_option maxRecDepth 100000 in
theorem mX12_part (l : Launch) (D : va_G) (aC : Nat → ClassId) (B : Nat) (a0 : Nat) (a1 : Int32) (a2 : Int32) (a3 : Int32) (h : sm_H) : sm_M l D vwCl gAts aC B gTs gNs gOs yX12_part cX12_part 5 (some .long) 2 48 vlJ [vR (some a0), vI a1, vI a2, vI a3] h (fX12_part a0 a1 a2 a3 h) := sm_meth [vR (some a0), vI a1, vI a2, vI a3] yY_yX12_part gG gN (Nat.le_of_ble_eq_true rfl) rfl (sX12_part_0 l D aC B a0 a1 a2 a3 h)
