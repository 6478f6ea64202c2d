-- M:TreeAgentModel.table()I
noncomputable def fX12_table_56  : Nat → Nat → Int32 → Int32 → sm_H → Option (Int32 × sm_H)
  | 0 => fun _ _ _ _ => none
  | n + 1 => fun a0 a1 a2 h =>
    if a1 ≤ a2 then (
      (sm_R (sm_get h (some a0) 12 24)).bind fun x1 =>
      (sm_I (sm_get h (some a0) 12 22)).bind fun x2 =>
      (sm_sI h x1 0 x2 a1).bind fun h3 =>
      (sm_I (sm_get h3 (some a0) 12 22)).bind fun x4 =>
      (sm_put h3 (some a0) 12 22 (sm_v (vI (x4 + (1 : Int32))))).bind fun h5 =>
      (sm_I (sm_get h5 (some a0) 12 22)).bind fun x6 =>
      some (x6 - (1 : Int32), h5)
    ) else
    (sm_R (sm_get h (some a0) 12 23)).bind fun x7 =>
    (sm_I (sm_get h (some a0) 12 22)).bind fun x8 =>
    (sm_R (sm_get h (some a0) 12 3)).bind fun x9 =>
    (sm_aJ h x9 1 a2).bind fun x10 =>
    (sm_sJ h x7 1 (((16 : Int32) * x8) + a2) x10).bind fun h11 =>
    sm_let (a2 + (1 : Int32)) fun x12 =>
    (fX12_table_56 n) a0 a1 x12 h11
set_option maxRecDepth 100000 in
set_option maxHeartbeats 4000000 in
theorem sX12_table_56 (l : Launch) (D : va_G) (aC : Nat → ClassId) (B : Nat)   (n : Nat) : ∀ (a0 : Nat) (a1 : Int32) (a2 : Int32) (h : sm_H), zS l D aC B cX12_table 3 RX12 2 50 (some .int) "table" vlI (fX12_table_56 n a0 a1 a2 h) 56 [(0, vR (some a0)), (1, vI a1), (2, vI a2)] [] h := by
  induction n with
  | zero => intro a0 a1 a2 h; exact sm_none
  | succ n ih =>
    intro a0 a1 a2 h
    show zS l D aC B cX12_table 3 RX12 2 50 (some .int) "table" vlI (fX12_table_56 (n + 1) a0 a1 a2 h) 56 [(0, vR (some a0)), (1, vI a1), (2, vI a2)] [] h
    unfold fX12_table_56
    refine sm_iload_n (i := 2) (j := 2) (pc' := 57) dX12_table_56 rfl rfl rfl ?_
    refine sm_iload_n (i := 1) (j := 1) (pc' := 58) dX12_table_57 rfl rfl rfl ?_
    refine sm_icmp_ge (tgt := 87) (pc' := 61) dX12_table_58 (by decide) rfl ?_ ?_
    · refine sm_aload_n (i := 0) (j := 0) (pc' := 88) dX12_table_87 rfl rfl rfl ?_
      refine sm_getR (k := 24) (pc' := 91) kX12 (by decide) mw675 dX12_table_88 rfl (fun x1 => ?_)
      refine sm_aload_n (i := 0) (j := 0) (pc' := 92) dX12_table_91 rfl rfl rfl ?_
      refine sm_getI (k := 22) (pc' := 95) kX12 (by decide) mw697 dX12_table_92 rfl (fun x2 => ?_)
      refine sm_iload_n (i := 1) (j := 1) (pc' := 96) dX12_table_95 rfl rfl rfl ?_
      refine sm_iast (t := 0) (pc' := 97) rfl dX12_table_96 rfl (fun h3 => ?_)
      refine sm_aload_n (i := 0) (j := 0) (pc' := 98) dX12_table_97 rfl rfl rfl ?_
      refine sm_dup (pc' := 99) rfl dX12_table_98 rfl ?_
      refine sm_getI (k := 22) (pc' := 102) kX12 (by decide) mw697 dX12_table_99 rfl (fun x4 => ?_)
      refine sm_iconst (v := (1 : Int32)) (pc' := 103) dX12_table_102 rfl (by decide) ?_
      refine sm_iadd (pc' := 104) dX12_table_103 rfl ?_
      refine sm_putI (k := 22) (pc' := 107) kX12 (by decide) mw697 rfl rfl dX12_table_104 rfl (fun h5 => ?_)
      refine sm_aload_n (i := 0) (j := 0) (pc' := 108) dX12_table_107 rfl rfl rfl ?_
      refine sm_getI (k := 22) (pc' := 111) kX12 (by decide) mw697 dX12_table_108 rfl (fun x6 => ?_)
      refine sm_iconst (v := (1 : Int32)) (pc' := 112) dX12_table_111 rfl (by decide) ?_
      refine sm_isub (pc' := 113) dX12_table_112 rfl ?_
      exact sm_iret rfl dX12_table_113
    refine sm_aload_n (i := 0) (j := 0) (pc' := 62) dX12_table_61 rfl rfl rfl ?_
    refine sm_getR (k := 23) (pc' := 65) kX12 (by decide) mw674 dX12_table_62 rfl (fun x7 => ?_)
    refine sm_bipush (v := (16 : Int32)) (pc' := 67) dX12_table_65 rfl (by decide) ?_
    refine sm_aload_n (i := 0) (j := 0) (pc' := 68) dX12_table_67 rfl rfl rfl ?_
    refine sm_getI (k := 22) (pc' := 71) kX12 (by decide) mw697 dX12_table_68 rfl (fun x8 => ?_)
    refine sm_imul (pc' := 72) dX12_table_71 rfl ?_
    refine sm_iload_n (i := 2) (j := 2) (pc' := 73) dX12_table_72 rfl rfl rfl ?_
    refine sm_iadd (pc' := 74) dX12_table_73 rfl ?_
    refine sm_aload_n (i := 0) (j := 0) (pc' := 75) dX12_table_74 rfl rfl rfl ?_
    refine sm_getR (k := 3) (pc' := 78) kX12 (by decide) mw658 dX12_table_75 rfl (fun x9 => ?_)
    refine sm_iload_n (i := 2) (j := 2) (pc' := 79) dX12_table_78 rfl rfl rfl ?_
    refine sm_lald (t := 1) (pc' := 80) rfl dX12_table_79 rfl (fun x10 => ?_)
    refine sm_last (t := 1) (pc' := 81) rfl dX12_table_80 rfl (fun h11 => ?_)
    refine sm_iincL (i := 2) (j := 2) (x := a2) (d := (1 : Int32)) (fun x12 => [(2, vI x12), (0, vR (some a0)), (1, vI a1)]) (pc' := 84) dX12_table_81 rfl rfl (by decide) (by decide) (fun _ => rfl) (fun x12 => ?_)
    refine sm_goto (pc' := 56) dX12_table_84 (by decide) ?_
    refine sm_lo (lv' := [(0, vR (some a0)), (1, vI a1), (2, vI x12)]) [1, 2, 0] rfl ?_
    exact ih a0 a1 x12 h11
noncomputable def fX12_table  (a0 : Nat) (h : sm_H) : Option (Int32 × sm_H) :=
  (sm_put h (some a0) 12 0 (sm_v (vI (0 : Int32)))).bind fun h1 =>
  (sm_I (sm_get h1 (some a0) 12 4)).bind fun x2 =>
  (sm_put h1 (some a0) 12 4 (sm_v (vI (0 : Int32)))).bind fun h3 =>
  sm_cb (fX12_in (x2.toInt64) (2 : Int64) (14 : Int64) h3) fun x4 h5 =>
  if x4 = 0 then (
    some ((-2 : Int32), h5)
  ) else
  (sm_obj h5 (some a0) 12).bind fun b9 =>
  sm_cb (fX12_clashes b9 x2 h5) fun x6 h7 =>
  if x6 = 0 then (
    (sm_I (sm_get h7 (some a0) 12 22)).bind fun x8 =>
    if x8 = (4 : Int32) then (
      some ((-4 : Int32), h7)
    ) else
    fX12_table_56 sm_fuel a0 x2 (0 : Int32) h7
  ) else
  some ((-3 : Int32), h7)
set_option maxRecDepth 100000 in
set_option maxHeartbeats 4000000 in
theorem sX12_table_0 (l : Launch) (D : va_G) (aC : Nat → ClassId) (B : Nat)   (a0 : Nat) (h : sm_H) : zS l D aC B cX12_table 3 RX12 2 50 (some .int) "table" vlI (fX12_table a0 h) 0 [(0, vR (some a0))] [] h := by
  unfold fX12_table
  refine sm_aload_n (i := 0) (j := 0) (pc' := 1) dX12_table_0 rfl rfl rfl ?_
  refine sm_iconst (v := (0 : Int32)) (pc' := 2) dX12_table_1 rfl (by decide) ?_
  refine sm_putI (k := 0) (pc' := 5) kX12 (by decide) mw699 rfl rfl dX12_table_2 rfl (fun h1 => ?_)
  refine sm_aload_n (i := 0) (j := 0) (pc' := 6) dX12_table_5 rfl rfl rfl ?_
  refine sm_getI (k := 4) (pc' := 9) kX12 (by decide) mw703 dX12_table_6 rfl (fun x2 => ?_)
  refine sm_istore_n (i := 1) (lv' := [(1, vI x2), (0, vR (some a0))]) (pc' := 10) dX12_table_9 rfl rfl (by decide) rfl ?_
  refine sm_aload_n (i := 0) (j := 1) (pc' := 11) dX12_table_10 rfl rfl rfl ?_
  refine sm_iconst (v := (0 : Int32)) (pc' := 12) dX12_table_11 rfl (by decide) ?_
  refine sm_putI (k := 4) (pc' := 15) kX12 (by decide) mw703 rfl rfl dX12_table_12 rfl (fun h3 => ?_)
  refine sm_iload_n (i := 1) (j := 0) (pc' := 16) dX12_table_15 rfl rfl rfl ?_
  refine sm_i2l (pc' := 17) dX12_table_16 rfl ?_
  refine sm_ldc2 (v := (2 : Int64)) (pc' := 20) dX12_table_17 rfl mw707 ?_
  refine sm_ldc2 (v := (14 : Int64)) (pc' := 23) dX12_table_20 rfl mw725 ?_
  refine sm_cSI (pc' := 26) (st := []) [vJ (x2.toInt64), vJ (2 : Int64), vJ (14 : Int64)] yY_yX12_in mw701 mw702 (mX12_in l D aC B (x2.toInt64) (2 : Int64) (14 : Int64) h3) rfl (by decide) (by decide) (by exact Nat.le_of_ble_eq_true rfl) rfl dX12_table_23 rfl (fun x4 h5 => ?_)
  refine sm_if_ne (tgt := 32) (pc' := 29) dX12_table_26 (by decide) rfl ?_ ?_
  · refine sm_aload_n (i := 0) (j := 1) (pc' := 33) dX12_table_32 rfl rfl rfl ?_
    refine sm_iload_n (i := 1) (j := 0) (pc' := 34) dX12_table_33 rfl rfl rfl ?_
    refine sm_cVI (pc' := 37) (ci := 12) (st := []) (F := fun b => fX12_clashes b x2 h5) [vI x2] yY_yX12_clashes rfl mw721 mw722 mw723 (fun b => mX12_clashes l D aC B b x2 h5) rfl (by decide) (by decide) (by exact Nat.le_of_ble_eq_true rfl) rfl dX12_table_34 rfl (fun x6 h7 => ?_)
    refine sm_if_eq (tgt := 43) (pc' := 40) dX12_table_37 (by decide) rfl ?_ ?_
    · refine sm_aload_n (i := 0) (j := 1) (pc' := 44) dX12_table_43 rfl rfl rfl ?_
      refine sm_getI (k := 22) (pc' := 47) kX12 (by decide) mw697 dX12_table_44 rfl (fun x8 => ?_)
      refine sm_iconst (v := (4 : Int32)) (pc' := 48) dX12_table_47 rfl (by decide) ?_
      refine sm_icmp_ne (tgt := 54) (pc' := 51) dX12_table_48 (by decide) rfl ?_ ?_
      · refine sm_iconst (v := (0 : Int32)) (pc' := 55) dX12_table_54 rfl (by decide) ?_
        refine sm_istore_n (i := 2) (lv' := [(2, vI (0 : Int32)), (1, vI x2), (0, vR (some a0))]) (pc' := 56) dX12_table_55 rfl rfl (by decide) rfl ?_
        refine sm_lo (lv' := [(0, vR (some a0)), (1, vI x2), (2, vI (0 : Int32))]) [2, 1, 0] rfl ?_
        exact sX12_table_56 l D aC B   sm_fuel a0 x2 (0 : Int32) h7
      refine sm_bipush (v := (-4 : Int32)) (pc' := 53) dX12_table_51 rfl (by decide) ?_
      exact sm_iret rfl dX12_table_53
    refine sm_bipush (v := (-3 : Int32)) (pc' := 42) dX12_table_40 rfl (by decide) ?_
    exact sm_iret rfl dX12_table_42
  refine sm_bipush (v := (-2 : Int32)) (pc' := 31) dX12_table_29 rfl (by decide) ?_
  exact sm_iret rfl dX12_table_31
set_option maxRecDepth 100000 in
theorem mX12_table (l : Launch) (D : va_G) (aC : Nat → ClassId) (B : Nat) (a0 : Nat) (h : sm_H) : sm_M l D vwCl gAts aC B gTs gNs gOs yX12_table cX12_table 3 (some .int) 2 50 vlI [vR (some a0)] h (fX12_table a0 h) := sm_meth [vR (some a0)] yY_yX12_table gG gN (Nat.le_of_ble_eq_true rfl) rfl (sX12_table_0 l D aC B a0 h)
-- M:TreeAgentModel.columnOf(IIIIJJZ)I
noncomputable def fX12_columnOf_192  : Nat → Nat → Int32 → Int32 → Int32 → Int32 → Int64 → Int64 → Int32 → Int32 → Int32 → sm_H → Option (Int32 × sm_H)
  | 0 => fun _ _ _ _ _ _ _ _ _ _ _ => none
  | n + 1 => fun a0 a1 a2 a3 a4 a5 a7 a9 a11 a12 h =>
    if a11 ≤ a12 then (
      (sm_R (sm_get h (some a0) 12 9)).bind fun x1 =>
      (sm_I (sm_get h (some a0) 12 8)).bind fun x2 =>
      (sm_sJ h x1 1 (((16 : Int32) * x2) + a11) (a2.toInt64)).bind fun h3 =>
      (sm_R (sm_get h3 (some a0) 12 10)).bind fun x4 =>
      (sm_I (sm_get h3 (some a0) 12 8)).bind fun x5 =>
      (sm_sI h3 x4 0 x5 (a11 + (1 : Int32))).bind fun h6 =>
      (sm_R (sm_get h6 (some a0) 12 25)).bind fun x7 =>
      (sm_aI h6 x7 0 a1).bind fun x8 =>
      (sm_sI h6 x7 0 a1 (x8 + (1 : Int32))).bind fun h9 =>
      (sm_obj h9 (some a0) 12).bind fun b12 =>
      sm_cb (fX12_newObject b12 a3 a4 a5 a7 a1 a9 h9) fun x10 h11 =>
      some (x10, h11)
    ) else
    (sm_R (sm_get h (some a0) 12 9)).bind fun x13 =>
    (sm_I (sm_get h (some a0) 12 8)).bind fun x14 =>
    (sm_R (sm_get h (some a0) 12 23)).bind fun x15 =>
    (sm_aJ h x15 1 (((16 : Int32) * a1) + a12)).bind fun x16 =>
    (sm_sJ h x13 1 (((16 : Int32) * x14) + a12) x16).bind fun h17 =>
    sm_let (a12 + (1 : Int32)) fun x18 =>
    (fX12_columnOf_192 n) a0 a1 a2 a3 a4 a5 a7 a9 a11 x18 h17
set_option maxRecDepth 100000 in
set_option maxHeartbeats 4000000 in
theorem sX12_columnOf_192 (l : Launch) (D : va_G) (aC : Nat → ClassId) (B : Nat)   (n : Nat) : ∀ (a0 : Nat) (a1 : Int32) (a2 : Int32) (a3 : Int32) (a4 : Int32) (a5 : Int64) (a7 : Int64) (a9 : Int32) (a11 : Int32) (a12 : Int32) (h : sm_H), zS l D aC B cX12_columnOf 13 RX12 2 52 (some .int) "columnOf" vlI (fX12_columnOf_192 n a0 a1 a2 a3 a4 a5 a7 a9 a11 a12 h) 192 [(0, vR (some a0)), (1, vI a1), (2, vI a2), (3, vI a3), (4, vI a4), (5, vJ a5), (7, vJ a7), (9, vI a9), (11, vI a11), (12, vI a12)] [] h := by
  induction n with
  | zero => intro a0 a1 a2 a3 a4 a5 a7 a9 a11 a12 h; exact sm_none
  | succ n ih =>
    intro a0 a1 a2 a3 a4 a5 a7 a9 a11 a12 h
    show zS l D aC B cX12_columnOf 13 RX12 2 52 (some .int) "columnOf" vlI (fX12_columnOf_192 (n + 1) a0 a1 a2 a3 a4 a5 a7 a9 a11 a12 h) 192 [(0, vR (some a0)), (1, vI a1), (2, vI a2), (3, vI a3), (4, vI a4), (5, vJ a5), (7, vJ a7), (9, vI a9), (11, vI a11), (12, vI a12)] [] h
    unfold fX12_columnOf_192
    refine sm_iload (i := 12) (j := 9) (pc' := 194) dX12_columnOf_192 rfl rfl ?_
    refine sm_iload (i := 11) (j := 8) (pc' := 196) dX12_columnOf_194 rfl rfl ?_
    refine sm_icmp_ge (tgt := 232) (pc' := 199) dX12_columnOf_196 (by decide) rfl ?_ ?_
    · refine sm_aload_n (i := 0) (j := 0) (pc' := 233) dX12_columnOf_232 rfl rfl rfl ?_
      refine sm_getR (k := 9) (pc' := 236) kX12 (by decide) mw661 dX12_columnOf_233 rfl (fun x1 => ?_)
      refine sm_bipush (v := (16 : Int32)) (pc' := 238) dX12_columnOf_236 rfl (by decide) ?_
      refine sm_aload_n (i := 0) (j := 0) (pc' := 239) dX12_columnOf_238 rfl rfl rfl ?_
      refine sm_getI (k := 8) (pc' := 242) kX12 (by decide) mw710 dX12_columnOf_239 rfl (fun x2 => ?_)
      refine sm_imul (pc' := 243) dX12_columnOf_242 rfl ?_
      refine sm_iload (i := 11) (j := 8) (pc' := 245) dX12_columnOf_243 rfl rfl ?_
      refine sm_iadd (pc' := 246) dX12_columnOf_245 rfl ?_
      refine sm_iload_n (i := 2) (j := 2) (pc' := 247) dX12_columnOf_246 rfl rfl rfl ?_
      refine sm_i2l (pc' := 248) dX12_columnOf_247 rfl ?_
      refine sm_last (t := 1) (pc' := 249) rfl dX12_columnOf_248 rfl (fun h3 => ?_)
      refine sm_aload_n (i := 0) (j := 0) (pc' := 250) dX12_columnOf_249 rfl rfl rfl ?_
      refine sm_getR (k := 10) (pc' := 253) kX12 (by decide) mw662 dX12_columnOf_250 rfl (fun x4 => ?_)
      refine sm_aload_n (i := 0) (j := 0) (pc' := 254) dX12_columnOf_253 rfl rfl rfl ?_
      refine sm_getI (k := 8) (pc' := 257) kX12 (by decide) mw710 dX12_columnOf_254 rfl (fun x5 => ?_)
      refine sm_iload (i := 11) (j := 8) (pc' := 259) dX12_columnOf_257 rfl rfl ?_
      refine sm_iconst (v := (1 : Int32)) (pc' := 260) dX12_columnOf_259 rfl (by decide) ?_
      refine sm_iadd (pc' := 261) dX12_columnOf_260 rfl ?_
      refine sm_iast (t := 0) (pc' := 262) rfl dX12_columnOf_261 rfl (fun h6 => ?_)
      refine sm_aload_n (i := 0) (j := 0) (pc' := 263) dX12_columnOf_262 rfl rfl rfl ?_
      refine sm_getR (k := 25) (pc' := 266) kX12 (by decide) mw676 dX12_columnOf_263 rfl (fun x7 => ?_)
      refine sm_iload_n (i := 1) (j := 1) (pc' := 267) dX12_columnOf_266 rfl rfl rfl ?_
      refine sm_dup2 (pc' := 268) rfl rfl dX12_columnOf_267 rfl ?_
      refine sm_iald (t := 0) (pc' := 269) rfl dX12_columnOf_268 rfl (fun x8 => ?_)
      refine sm_iconst (v := (1 : Int32)) (pc' := 270) dX12_columnOf_269 rfl (by decide) ?_
      refine sm_iadd (pc' := 271) dX12_columnOf_270 rfl ?_
      refine sm_iast (t := 0) (pc' := 272) rfl dX12_columnOf_271 rfl (fun h9 => ?_)
      refine sm_aload_n (i := 0) (j := 0) (pc' := 273) dX12_columnOf_272 rfl rfl rfl ?_
      refine sm_iload_n (i := 3) (j := 3) (pc' := 274) dX12_columnOf_273 rfl rfl rfl ?_
      refine sm_iload (i := 4) (j := 4) (pc' := 276) dX12_columnOf_274 rfl rfl ?_
      refine sm_lload (i := 5) (j := 5) (pc' := 278) dX12_columnOf_276 rfl rfl ?_
      refine sm_lload (i := 7) (j := 6) (pc' := 280) dX12_columnOf_278 rfl rfl ?_
      refine sm_iload_n (i := 1) (j := 1) (pc' := 281) dX12_columnOf_280 rfl rfl rfl ?_
      refine sm_iload (i := 9) (j := 7) (pc' := 283) dX12_columnOf_281 rfl rfl ?_
      refine sm_cVI (pc' := 286) (ci := 12) (st := []) (F := fun b => fX12_newObject b a3 a4 a5 a7 a1 a9 h9) [vI a3, vI a4, vJ a5, vJ a7, vI a1, vI a9] yY_yX12_newObject rfl mw716 mw717 mw718 (fun b => mX12_newObject l D aC B b a3 a4 a5 a7 a1 a9 h9) rfl (by decide) (by decide) (by exact Nat.le_of_ble_eq_true rfl) rfl dX12_columnOf_283 rfl (fun x10 h11 => ?_)
      exact sm_iret rfl dX12_columnOf_286
    refine sm_aload_n (i := 0) (j := 0) (pc' := 200) dX12_columnOf_199 rfl rfl rfl ?_
    refine sm_getR (k := 9) (pc' := 203) kX12 (by decide) mw661 dX12_columnOf_200 rfl (fun x13 => ?_)
    refine sm_bipush (v := (16 : Int32)) (pc' := 205) dX12_columnOf_203 rfl (by decide) ?_
    refine sm_aload_n (i := 0) (j := 0) (pc' := 206) dX12_columnOf_205 rfl rfl rfl ?_
    refine sm_getI (k := 8) (pc' := 209) kX12 (by decide) mw710 dX12_columnOf_206 rfl (fun x14 => ?_)
    refine sm_imul (pc' := 210) dX12_columnOf_209 rfl ?_
    refine sm_iload (i := 12) (j := 9) (pc' := 212) dX12_columnOf_210 rfl rfl ?_
    refine sm_iadd (pc' := 213) dX12_columnOf_212 rfl ?_
    refine sm_aload_n (i := 0) (j := 0) (pc' := 214) dX12_columnOf_213 rfl rfl rfl ?_
    refine sm_getR (k := 23) (pc' := 217) kX12 (by decide) mw674 dX12_columnOf_214 rfl (fun x15 => ?_)
    refine sm_bipush (v := (16 : Int32)) (pc' := 219) dX12_columnOf_217 rfl (by decide) ?_
    refine sm_iload_n (i := 1) (j := 1) (pc' := 220) dX12_columnOf_219 rfl rfl rfl ?_
    refine sm_imul (pc' := 221) dX12_columnOf_220 rfl ?_
    refine sm_iload (i := 12) (j := 9) (pc' := 223) dX12_columnOf_221 rfl rfl ?_
    refine sm_iadd (pc' := 224) dX12_columnOf_223 rfl ?_
    refine sm_lald (t := 1) (pc' := 225) rfl dX12_columnOf_224 rfl (fun x16 => ?_)
    refine sm_last (t := 1) (pc' := 226) rfl dX12_columnOf_225 rfl (fun h17 => ?_)
    refine sm_iincL (i := 12) (j := 9) (x := a12) (d := (1 : Int32)) (fun x18 => [(12, vI x18), (0, vR (some a0)), (1, vI a1), (2, vI a2), (3, vI a3), (4, vI a4), (5, vJ a5), (7, vJ a7), (9, vI a9), (11, vI a11)]) (pc' := 229) dX12_columnOf_226 rfl rfl (by decide) (by decide) (fun _ => rfl) (fun x18 => ?_)
    refine sm_goto (pc' := 192) dX12_columnOf_229 (by decide) ?_
    refine sm_lo (lv' := [(0, vR (some a0)), (1, vI a1), (2, vI a2), (3, vI a3), (4, vI a4), (5, vJ a5), (7, vJ a7), (9, vI a9), (11, vI a11), (12, vI x18)]) [1, 2, 3, 4, 5, 6, 7, 8, 9, 0] rfl ?_
    exact ih a0 a1 a2 a3 a4 a5 a7 a9 a11 x18 h17
noncomputable def fX12_columnOf_86  : Nat → Nat → Int32 → Int32 → Int32 → Int32 → Int64 → Int64 → Int32 → Int32 → Int32 → Int32 → sm_H → Option (Int32 × sm_H)
  | 0 => fun _ _ _ _ _ _ _ _ _ _ _ _ => none
  | n + 1 => fun a0 a1 a2 a3 a4 a5 a7 a9 a10 a11 a12 h =>
    (sm_I (sm_get h (some a0) 12 8)).bind fun x1 =>
    if x1 ≤ a12 then (
      if a10 = 0 then (
        (sm_R (sm_get h (some a0) 12 25)).bind fun x2 =>
        (sm_aI h x2 0 a1).bind fun x3 =>
        if x3 = (6 : Int32) then (
          some ((-4 : Int32), h)
        ) else
        (sm_I (sm_get h (some a0) 12 8)).bind fun x4 =>
        if x4 = (40 : Int32) then (
          some ((-4 : Int32), h)
        ) else
        fX12_columnOf_192 sm_fuel a0 a1 a2 a3 a4 a5 a7 a9 a11 (0 : Int32) h
      ) else
      some ((-3 : Int32), h)
    ) else
    if a10 = 0 then (
      (sm_R (sm_get h (some a0) 12 15)).bind fun x6 =>
      (sm_aI h x6 0 a12).bind fun x7 =>
      if x7 = a1 then (
        (sm_R (sm_get h (some a0) 12 9)).bind fun x9 =>
        (sm_aJ h x9 1 (((16 : Int32) * a12) + a11)).bind fun x10 =>
        if (lg_cmp x10 (a2.toInt64)) = 0 then (
          sm_let (a12 + (1 : Int32)) fun x11 =>
          (fX12_columnOf_86 n) a0 a1 a2 a3 a4 a5 a7 a9 (1 : Int32) a11 x11 h
        ) else
        if a9 = 0 then (
          sm_let (a12 + (1 : Int32)) fun x12 =>
          (fX12_columnOf_86 n) a0 a1 a2 a3 a4 a5 a7 a9 (0 : Int32) a11 x12 h
        ) else
        (sm_R (sm_get h (some a0) 12 16)).bind fun x13 =>
        (sm_aI h x13 2 a12).bind fun x14 =>
        if x14 = 0 then (
          sm_let (a12 + (1 : Int32)) fun x15 =>
          (fX12_columnOf_86 n) a0 a1 a2 a3 a4 a5 a7 a9 (0 : Int32) a11 x15 h
        ) else
        sm_let (a12 + (1 : Int32)) fun x16 =>
        (fX12_columnOf_86 n) a0 a1 a2 a3 a4 a5 a7 a9 (1 : Int32) a11 x16 h
      ) else
      sm_let (a12 + (1 : Int32)) fun x8 =>
      (fX12_columnOf_86 n) a0 a1 a2 a3 a4 a5 a7 a9 (0 : Int32) a11 x8 h
    ) else
    sm_let (a12 + (1 : Int32)) fun x5 =>
    (fX12_columnOf_86 n) a0 a1 a2 a3 a4 a5 a7 a9 (1 : Int32) a11 x5 h
set_option maxRecDepth 100000 in
set_option maxHeartbeats 4000000 in
theorem sX12_columnOf_86 (l : Launch) (D : va_G) (aC : Nat → ClassId) (B : Nat)   (n : Nat) : ∀ (a0 : Nat) (a1 : Int32) (a2 : Int32) (a3 : Int32) (a4 : Int32) (a5 : Int64) (a7 : Int64) (a9 : Int32) (a10 : Int32) (a11 : Int32) (a12 : Int32) (h : sm_H), zS l D aC B cX12_columnOf 13 RX12 2 52 (some .int) "columnOf" vlI (fX12_columnOf_86 n a0 a1 a2 a3 a4 a5 a7 a9 a10 a11 a12 h) 86 [(0, vR (some a0)), (1, vI a1), (2, vI a2), (3, vI a3), (4, vI a4), (5, vJ a5), (7, vJ a7), (9, vI a9), (10, vI a10), (11, vI a11), (12, vI a12)] [] h := by
  induction n with
  | zero => intro a0 a1 a2 a3 a4 a5 a7 a9 a10 a11 a12 h; exact sm_none
  | succ n ih =>
    intro a0 a1 a2 a3 a4 a5 a7 a9 a10 a11 a12 h
    show zS l D aC B cX12_columnOf 13 RX12 2 52 (some .int) "columnOf" vlI (fX12_columnOf_86 (n + 1) a0 a1 a2 a3 a4 a5 a7 a9 a10 a11 a12 h) 86 [(0, vR (some a0)), (1, vI a1), (2, vI a2), (3, vI a3), (4, vI a4), (5, vJ a5), (7, vJ a7), (9, vI a9), (10, vI a10), (11, vI a11), (12, vI a12)] [] h
    unfold fX12_columnOf_86
    refine sm_iload (i := 12) (j := 10) (pc' := 88) dX12_columnOf_86 rfl rfl ?_
    refine sm_aload_n (i := 0) (j := 0) (pc' := 89) dX12_columnOf_88 rfl rfl rfl ?_
    refine sm_getI (k := 8) (pc' := 92) kX12 (by decide) mw710 dX12_columnOf_89 rfl (fun x1 => ?_)
    refine sm_icmp_ge (tgt := 158) (pc' := 95) dX12_columnOf_92 (by decide) rfl ?_ ?_
    · refine sm_iload (i := 10) (j := 8) (pc' := 160) dX12_columnOf_158 rfl rfl ?_
      refine sm_if_eq (tgt := 166) (pc' := 163) dX12_columnOf_160 (by decide) rfl ?_ ?_
      · refine sm_aload_n (i := 0) (j := 0) (pc' := 167) dX12_columnOf_166 rfl rfl rfl ?_
        refine sm_getR (k := 25) (pc' := 170) kX12 (by decide) mw676 dX12_columnOf_167 rfl (fun x2 => ?_)
        refine sm_iload_n (i := 1) (j := 1) (pc' := 171) dX12_columnOf_170 rfl rfl rfl ?_
        refine sm_iald (t := 0) (pc' := 172) rfl dX12_columnOf_171 rfl (fun x3 => ?_)
        refine sm_bipush (v := (6 : Int32)) (pc' := 174) dX12_columnOf_172 rfl (by decide) ?_
        refine sm_icmp_eq (tgt := 186) (pc' := 177) dX12_columnOf_174 (by decide) rfl ?_ ?_
        · refine sm_bipush (v := (-4 : Int32)) (pc' := 188) dX12_columnOf_186 rfl (by decide) ?_
          exact sm_iret rfl dX12_columnOf_188
        refine sm_aload_n (i := 0) (j := 0) (pc' := 178) dX12_columnOf_177 rfl rfl rfl ?_
        refine sm_getI (k := 8) (pc' := 181) kX12 (by decide) mw710 dX12_columnOf_178 rfl (fun x4 => ?_)
        refine sm_bipush (v := (40 : Int32)) (pc' := 183) dX12_columnOf_181 rfl (by decide) ?_
        refine sm_icmp_ne (tgt := 189) (pc' := 186) dX12_columnOf_183 (by decide) rfl ?_ ?_
        · refine sm_iconst (v := (0 : Int32)) (pc' := 190) dX12_columnOf_189 rfl (by decide) ?_
          refine sm_istore (i := 12) (lv' := [(12, vI (0 : Int32)), (0, vR (some a0)), (1, vI a1), (2, vI a2), (3, vI a3), (4, vI a4), (5, vJ a5), (7, vJ a7), (9, vI a9), (10, vI a10), (11, vI a11)]) (pc' := 192) dX12_columnOf_190 rfl (by decide) rfl ?_
          refine sm_lo (lv' := [(0, vR (some a0)), (1, vI a1), (2, vI a2), (3, vI a3), (4, vI a4), (5, vJ a5), (7, vJ a7), (9, vI a9), (11, vI a11), (12, vI (0 : Int32))]) [1, 2, 3, 4, 5, 6, 7, 8, 10, 0] rfl ?_
          exact sX12_columnOf_192 l D aC B   sm_fuel a0 a1 a2 a3 a4 a5 a7 a9 a11 (0 : Int32) h
        refine sm_bipush (v := (-4 : Int32)) (pc' := 188) dX12_columnOf_186 rfl (by decide) ?_
        exact sm_iret rfl dX12_columnOf_188
      refine sm_bipush (v := (-3 : Int32)) (pc' := 165) dX12_columnOf_163 rfl (by decide) ?_
      exact sm_iret rfl dX12_columnOf_165
    refine sm_iload (i := 10) (j := 8) (pc' := 97) dX12_columnOf_95 rfl rfl ?_
    refine sm_if_ne (tgt := 145) (pc' := 100) dX12_columnOf_97 (by decide) rfl ?_ ?_
    · refine sm_iconst (v := (1 : Int32)) (pc' := 146) dX12_columnOf_145 rfl (by decide) ?_
      refine sm_goto (pc' := 150) dX12_columnOf_146 (by decide) ?_
      refine sm_istore (i := 10) (lv' := [(10, vI (1 : Int32)), (0, vR (some a0)), (1, vI a1), (2, vI a2), (3, vI a3), (4, vI a4), (5, vJ a5), (7, vJ a7), (9, vI a9), (11, vI a11), (12, vI a12)]) (pc' := 152) dX12_columnOf_150 rfl (by decide) rfl ?_
      refine sm_iincL (i := 12) (j := 10) (x := a12) (d := (1 : Int32)) (fun x5 => [(12, vI x5), (10, vI (1 : Int32)), (0, vR (some a0)), (1, vI a1), (2, vI a2), (3, vI a3), (4, vI a4), (5, vJ a5), (7, vJ a7), (9, vI a9), (11, vI a11)]) (pc' := 155) dX12_columnOf_152 rfl rfl (by decide) (by decide) (fun _ => rfl) (fun x5 => ?_)
      refine sm_goto (pc' := 86) dX12_columnOf_155 (by decide) ?_
      refine sm_lo (lv' := [(0, vR (some a0)), (1, vI a1), (2, vI a2), (3, vI a3), (4, vI a4), (5, vJ a5), (7, vJ a7), (9, vI a9), (10, vI (1 : Int32)), (11, vI a11), (12, vI x5)]) [2, 3, 4, 5, 6, 7, 8, 9, 1, 10, 0] rfl ?_
      exact ih a0 a1 a2 a3 a4 a5 a7 a9 (1 : Int32) a11 x5 h
    refine sm_aload_n (i := 0) (j := 0) (pc' := 101) dX12_columnOf_100 rfl rfl rfl ?_
    refine sm_getR (k := 15) (pc' := 104) kX12 (by decide) mw667 dX12_columnOf_101 rfl (fun x6 => ?_)
    refine sm_iload (i := 12) (j := 10) (pc' := 106) dX12_columnOf_104 rfl rfl ?_
    refine sm_iald (t := 0) (pc' := 107) rfl dX12_columnOf_106 rfl (fun x7 => ?_)
    refine sm_iload_n (i := 1) (j := 1) (pc' := 108) dX12_columnOf_107 rfl rfl rfl ?_
    refine sm_icmp_ne (tgt := 149) (pc' := 111) dX12_columnOf_108 (by decide) rfl ?_ ?_
    · refine sm_iconst (v := (0 : Int32)) (pc' := 150) dX12_columnOf_149 rfl (by decide) ?_
      refine sm_istore (i := 10) (lv' := [(10, vI (0 : Int32)), (0, vR (some a0)), (1, vI a1), (2, vI a2), (3, vI a3), (4, vI a4), (5, vJ a5), (7, vJ a7), (9, vI a9), (11, vI a11), (12, vI a12)]) (pc' := 152) dX12_columnOf_150 rfl (by decide) rfl ?_
      refine sm_iincL (i := 12) (j := 10) (x := a12) (d := (1 : Int32)) (fun x8 => [(12, vI x8), (10, vI (0 : Int32)), (0, vR (some a0)), (1, vI a1), (2, vI a2), (3, vI a3), (4, vI a4), (5, vJ a5), (7, vJ a7), (9, vI a9), (11, vI a11)]) (pc' := 155) dX12_columnOf_152 rfl rfl (by decide) (by decide) (fun _ => rfl) (fun x8 => ?_)
      refine sm_goto (pc' := 86) dX12_columnOf_155 (by decide) ?_
      refine sm_lo (lv' := [(0, vR (some a0)), (1, vI a1), (2, vI a2), (3, vI a3), (4, vI a4), (5, vJ a5), (7, vJ a7), (9, vI a9), (10, vI (0 : Int32)), (11, vI a11), (12, vI x8)]) [2, 3, 4, 5, 6, 7, 8, 9, 1, 10, 0] rfl ?_
      exact ih a0 a1 a2 a3 a4 a5 a7 a9 (0 : Int32) a11 x8 h
    refine sm_aload_n (i := 0) (j := 0) (pc' := 112) dX12_columnOf_111 rfl rfl rfl ?_
    refine sm_getR (k := 9) (pc' := 115) kX12 (by decide) mw661 dX12_columnOf_112 rfl (fun x9 => ?_)
    refine sm_bipush (v := (16 : Int32)) (pc' := 117) dX12_columnOf_115 rfl (by decide) ?_
    refine sm_iload (i := 12) (j := 10) (pc' := 119) dX12_columnOf_117 rfl rfl ?_
    refine sm_imul (pc' := 120) dX12_columnOf_119 rfl ?_
    refine sm_iload (i := 11) (j := 9) (pc' := 122) dX12_columnOf_120 rfl rfl ?_
    refine sm_iadd (pc' := 123) dX12_columnOf_122 rfl ?_
    refine sm_lald (t := 1) (pc' := 124) rfl dX12_columnOf_123 rfl (fun x10 => ?_)
    refine sm_iload_n (i := 2) (j := 2) (pc' := 125) dX12_columnOf_124 rfl rfl rfl ?_
    refine sm_i2l (pc' := 126) dX12_columnOf_125 rfl ?_
    refine sm_lcmp (pc' := 127) dX12_columnOf_126 rfl ?_
    refine sm_if_eq (tgt := 145) (pc' := 130) dX12_columnOf_127 (by decide) rfl ?_ ?_
    · refine sm_iconst (v := (1 : Int32)) (pc' := 146) dX12_columnOf_145 rfl (by decide) ?_
      refine sm_goto (pc' := 150) dX12_columnOf_146 (by decide) ?_
      refine sm_istore (i := 10) (lv' := [(10, vI (1 : Int32)), (0, vR (some a0)), (1, vI a1), (2, vI a2), (3, vI a3), (4, vI a4), (5, vJ a5), (7, vJ a7), (9, vI a9), (11, vI a11), (12, vI a12)]) (pc' := 152) dX12_columnOf_150 rfl (by decide) rfl ?_
      refine sm_iincL (i := 12) (j := 10) (x := a12) (d := (1 : Int32)) (fun x11 => [(12, vI x11), (10, vI (1 : Int32)), (0, vR (some a0)), (1, vI a1), (2, vI a2), (3, vI a3), (4, vI a4), (5, vJ a5), (7, vJ a7), (9, vI a9), (11, vI a11)]) (pc' := 155) dX12_columnOf_152 rfl rfl (by decide) (by decide) (fun _ => rfl) (fun x11 => ?_)
      refine sm_goto (pc' := 86) dX12_columnOf_155 (by decide) ?_
      refine sm_lo (lv' := [(0, vR (some a0)), (1, vI a1), (2, vI a2), (3, vI a3), (4, vI a4), (5, vJ a5), (7, vJ a7), (9, vI a9), (10, vI (1 : Int32)), (11, vI a11), (12, vI x11)]) [2, 3, 4, 5, 6, 7, 8, 9, 1, 10, 0] rfl ?_
      exact ih a0 a1 a2 a3 a4 a5 a7 a9 (1 : Int32) a11 x11 h
    refine sm_iload (i := 9) (j := 7) (pc' := 132) dX12_columnOf_130 rfl rfl ?_
    refine sm_if_eq (tgt := 149) (pc' := 135) dX12_columnOf_132 (by decide) rfl ?_ ?_
    · refine sm_iconst (v := (0 : Int32)) (pc' := 150) dX12_columnOf_149 rfl (by decide) ?_
      refine sm_istore (i := 10) (lv' := [(10, vI (0 : Int32)), (0, vR (some a0)), (1, vI a1), (2, vI a2), (3, vI a3), (4, vI a4), (5, vJ a5), (7, vJ a7), (9, vI a9), (11, vI a11), (12, vI a12)]) (pc' := 152) dX12_columnOf_150 rfl (by decide) rfl ?_
      refine sm_iincL (i := 12) (j := 10) (x := a12) (d := (1 : Int32)) (fun x12 => [(12, vI x12), (10, vI (0 : Int32)), (0, vR (some a0)), (1, vI a1), (2, vI a2), (3, vI a3), (4, vI a4), (5, vJ a5), (7, vJ a7), (9, vI a9), (11, vI a11)]) (pc' := 155) dX12_columnOf_152 rfl rfl (by decide) (by decide) (fun _ => rfl) (fun x12 => ?_)
      refine sm_goto (pc' := 86) dX12_columnOf_155 (by decide) ?_
      refine sm_lo (lv' := [(0, vR (some a0)), (1, vI a1), (2, vI a2), (3, vI a3), (4, vI a4), (5, vJ a5), (7, vJ a7), (9, vI a9), (10, vI (0 : Int32)), (11, vI a11), (12, vI x12)]) [2, 3, 4, 5, 6, 7, 8, 9, 1, 10, 0] rfl ?_
      exact ih a0 a1 a2 a3 a4 a5 a7 a9 (0 : Int32) a11 x12 h
    refine sm_aload_n (i := 0) (j := 0) (pc' := 136) dX12_columnOf_135 rfl rfl rfl ?_
    refine sm_getR (k := 16) (pc' := 139) kX12 (by decide) mw668 dX12_columnOf_136 rfl (fun x13 => ?_)
    refine sm_iload (i := 12) (j := 10) (pc' := 141) dX12_columnOf_139 rfl rfl ?_
    refine sm_zald (t := 2) (pc' := 142) rfl dX12_columnOf_141 rfl (fun x14 => ?_)
    refine sm_if_eq (tgt := 149) (pc' := 145) dX12_columnOf_142 (by decide) rfl ?_ ?_
    · refine sm_iconst (v := (0 : Int32)) (pc' := 150) dX12_columnOf_149 rfl (by decide) ?_
      refine sm_istore (i := 10) (lv' := [(10, vI (0 : Int32)), (0, vR (some a0)), (1, vI a1), (2, vI a2), (3, vI a3), (4, vI a4), (5, vJ a5), (7, vJ a7), (9, vI a9), (11, vI a11), (12, vI a12)]) (pc' := 152) dX12_columnOf_150 rfl (by decide) rfl ?_
      refine sm_iincL (i := 12) (j := 10) (x := a12) (d := (1 : Int32)) (fun x15 => [(12, vI x15), (10, vI (0 : Int32)), (0, vR (some a0)), (1, vI a1), (2, vI a2), (3, vI a3), (4, vI a4), (5, vJ a5), (7, vJ a7), (9, vI a9), (11, vI a11)]) (pc' := 155) dX12_columnOf_152 rfl rfl (by decide) (by decide) (fun _ => rfl) (fun x15 => ?_)
      refine sm_goto (pc' := 86) dX12_columnOf_155 (by decide) ?_
      refine sm_lo (lv' := [(0, vR (some a0)), (1, vI a1), (2, vI a2), (3, vI a3), (4, vI a4), (5, vJ a5), (7, vJ a7), (9, vI a9), (10, vI (0 : Int32)), (11, vI a11), (12, vI x15)]) [2, 3, 4, 5, 6, 7, 8, 9, 1, 10, 0] rfl ?_
      exact ih a0 a1 a2 a3 a4 a5 a7 a9 (0 : Int32) a11 x15 h
    refine sm_iconst (v := (1 : Int32)) (pc' := 146) dX12_columnOf_145 rfl (by decide) ?_
    refine sm_goto (pc' := 150) dX12_columnOf_146 (by decide) ?_
    refine sm_istore (i := 10) (lv' := [(10, vI (1 : Int32)), (0, vR (some a0)), (1, vI a1), (2, vI a2), (3, vI a3), (4, vI a4), (5, vJ a5), (7, vJ a7), (9, vI a9), (11, vI a11), (12, vI a12)]) (pc' := 152) dX12_columnOf_150 rfl (by decide) rfl ?_
    refine sm_iincL (i := 12) (j := 10) (x := a12) (d := (1 : Int32)) (fun x16 => [(12, vI x16), (10, vI (1 : Int32)), (0, vR (some a0)), (1, vI a1), (2, vI a2), (3, vI a3), (4, vI a4), (5, vJ a5), (7, vJ a7), (9, vI a9), (11, vI a11)]) (pc' := 155) dX12_columnOf_152 rfl rfl (by decide) (by decide) (fun _ => rfl) (fun x16 => ?_)
    refine sm_goto (pc' := 86) dX12_columnOf_155 (by decide) ?_
    refine sm_lo (lv' := [(0, vR (some a0)), (1, vI a1), (2, vI a2), (3, vI a3), (4, vI a4), (5, vJ a5), (7, vJ a7), (9, vI a9), (10, vI (1 : Int32)), (11, vI a11), (12, vI x16)]) [2, 3, 4, 5, 6, 7, 8, 9, 1, 10, 0] rfl ?_
    exact ih a0 a1 a2 a3 a4 a5 a7 a9 (1 : Int32) a11 x16 h
noncomputable def fX12_columnOf_73  (a0 : Nat) (a1 : Int32) (a2 : Int32) (a3 : Int32) (a4 : Int32) (a5 : Int64) (a7 : Int64) (a9 : Int32) (s0 : Int32) (h : sm_H) : Option (Int32 × sm_H) :=
  (sm_R (sm_get h (some a0) 12 24)).bind fun x1 =>
  (sm_aI h x1 0 a1).bind fun x2 =>
  fX12_columnOf_86 sm_fuel a0 a1 a2 a3 a4 a5 a7 a9 s0 x2 (0 : Int32) h
set_option maxRecDepth 100000 in
set_option maxHeartbeats 4000000 in
theorem sX12_columnOf_73 (l : Launch) (D : va_G) (aC : Nat → ClassId) (B : Nat)   (a0 : Nat) (a1 : Int32) (a2 : Int32) (a3 : Int32) (a4 : Int32) (a5 : Int64) (a7 : Int64) (a9 : Int32) (s0 : Int32) (h : sm_H) : zS l D aC B cX12_columnOf 13 RX12 2 52 (some .int) "columnOf" vlI (fX12_columnOf_73 a0 a1 a2 a3 a4 a5 a7 a9 s0 h) 73 [(0, vR (some a0)), (1, vI a1), (2, vI a2), (3, vI a3), (4, vI a4), (5, vJ a5), (7, vJ a7), (9, vI a9)] [vI s0] h := by
  unfold fX12_columnOf_73
  refine sm_istore (i := 10) (lv' := [(10, vI s0), (0, vR (some a0)), (1, vI a1), (2, vI a2), (3, vI a3), (4, vI a4), (5, vJ a5), (7, vJ a7), (9, vI a9)]) (pc' := 75) dX12_columnOf_73 rfl (by decide) rfl ?_
  refine sm_aload_n (i := 0) (j := 1) (pc' := 76) dX12_columnOf_75 rfl rfl rfl ?_
  refine sm_getR (k := 24) (pc' := 79) kX12 (by decide) mw675 dX12_columnOf_76 rfl (fun x1 => ?_)
  refine sm_iload_n (i := 1) (j := 2) (pc' := 80) dX12_columnOf_79 rfl rfl rfl ?_
  refine sm_iald (t := 0) (pc' := 81) rfl dX12_columnOf_80 rfl (fun x2 => ?_)
  refine sm_istore (i := 11) (lv' := [(11, vI x2), (10, vI s0), (0, vR (some a0)), (1, vI a1), (2, vI a2), (3, vI a3), (4, vI a4), (5, vJ a5), (7, vJ a7), (9, vI a9)]) (pc' := 83) dX12_columnOf_81 rfl (by decide) rfl ?_
  refine sm_iconst (v := (0 : Int32)) (pc' := 84) dX12_columnOf_83 rfl (by decide) ?_
  refine sm_istore (i := 12) (lv' := [(12, vI (0 : Int32)), (11, vI x2), (10, vI s0), (0, vR (some a0)), (1, vI a1), (2, vI a2), (3, vI a3), (4, vI a4), (5, vJ a5), (7, vJ a7), (9, vI a9)]) (pc' := 86) dX12_columnOf_84 rfl (by decide) rfl ?_
  refine sm_lo (lv' := [(0, vR (some a0)), (1, vI a1), (2, vI a2), (3, vI a3), (4, vI a4), (5, vJ a5), (7, vJ a7), (9, vI a9), (10, vI s0), (11, vI x2), (12, vI (0 : Int32))]) [3, 4, 5, 6, 7, 8, 9, 10, 2, 1, 0] rfl ?_
  exact sX12_columnOf_86 l D aC B   sm_fuel a0 a1 a2 a3 a4 a5 a7 a9 s0 x2 (0 : Int32) h
noncomputable def fX12_columnOf  (a0 : Nat) (a1 : Int32) (a2 : Int32) (a3 : Int32) (a4 : Int32) (a5 : Int64) (a7 : Int64) (a9 : Int32) (h : sm_H) : Option (Int32 × sm_H) :=
  (sm_put h (some a0) 12 0 (sm_v (vI (0 : Int32)))).bind fun h1 =>
  (sm_I (sm_get h1 (some a0) 12 22)).bind fun x2 =>
  sm_cb (fX12_in (a1.toInt64) (0 : Int64) ((x2 - (1 : Int32)).toInt64) h1) fun x3 h4 =>
  if x3 = 0 then (
    some ((-1 : Int32), h4)
  ) else
  if a2 < (1 : Int32) then (
    some ((-2 : Int32), h4)
  ) else
  sm_cb (fX12_isTag a3 h4) fun x5 h6 =>
  if x5 = 0 then (
    some ((-2 : Int32), h6)
  ) else
  sm_cb (fX12_in (a4.toInt64) (0 : Int64) (2 : Int64) h6) fun x7 h8 =>
  if x7 = 0 then (
    some ((-2 : Int32), h8)
  ) else
  if (lg_cmp a5 a7) ≤ 0 then (
    (sm_R (sm_get h8 (some a0) 12 26)).bind fun x9 =>
    (sm_aI h8 x9 0 a1).bind fun x10 =>
    if x10 ≤ 0 then (
      fX12_columnOf_73 a0 a1 a2 a3 a4 a5 a7 a9 (0 : Int32) h8
    ) else
    fX12_columnOf_73 a0 a1 a2 a3 a4 a5 a7 a9 (1 : Int32) h8
  ) else
  some ((-2 : Int32), h8)
set_option maxRecDepth 100000 in
set_option maxHeartbeats 4000000 in
theorem sX12_columnOf_0 (l : Launch) (D : va_G) (aC : Nat → ClassId) (B : Nat)   (a0 : Nat) (a1 : Int32) (a2 : Int32) (a3 : Int32) (a4 : Int32) (a5 : Int64) (a7 : Int64) (a9 : Int32) (h : sm_H) : zS l D aC B cX12_columnOf 13 RX12 2 52 (some .int) "columnOf" vlI (fX12_columnOf a0 a1 a2 a3 a4 a5 a7 a9 h) 0 [(0, vR (some a0)), (1, vI a1), (2, vI a2), (3, vI a3), (4, vI a4), (5, vJ a5), (7, vJ a7), (9, vI a9)] [] h := by
  unfold fX12_columnOf
  refine sm_aload_n (i := 0) (j := 0) (pc' := 1) dX12_columnOf_0 rfl rfl rfl ?_
  refine sm_iconst (v := (0 : Int32)) (pc' := 2) dX12_columnOf_1 rfl (by decide) ?_
  refine sm_putI (k := 0) (pc' := 5) kX12 (by decide) mw699 rfl rfl dX12_columnOf_2 rfl (fun h1 => ?_)
  refine sm_iload_n (i := 1) (j := 1) (pc' := 6) dX12_columnOf_5 rfl rfl rfl ?_
  refine sm_i2l (pc' := 7) dX12_columnOf_6 rfl ?_
  refine sm_lconst (v := (0 : Int64)) (pc' := 8) dX12_columnOf_7 rfl (by decide) ?_
  refine sm_aload_n (i := 0) (j := 0) (pc' := 9) dX12_columnOf_8 rfl rfl rfl ?_
  refine sm_getI (k := 22) (pc' := 12) kX12 (by decide) mw697 dX12_columnOf_9 rfl (fun x2 => ?_)
  refine sm_iconst (v := (1 : Int32)) (pc' := 13) dX12_columnOf_12 rfl (by decide) ?_
  refine sm_isub (pc' := 14) dX12_columnOf_13 rfl ?_
  refine sm_i2l (pc' := 15) dX12_columnOf_14 rfl ?_
  refine sm_cSI (pc' := 18) (st := []) [vJ (a1.toInt64), vJ (0 : Int64), vJ ((x2 - (1 : Int32)).toInt64)] yY_yX12_in mw701 mw702 (mX12_in l D aC B (a1.toInt64) (0 : Int64) ((x2 - (1 : Int32)).toInt64) h1) rfl (by decide) (by decide) (by exact Nat.le_of_ble_eq_true rfl) rfl dX12_columnOf_15 rfl (fun x3 h4 => ?_)
  refine sm_if_ne (tgt := 23) (pc' := 21) dX12_columnOf_18 (by decide) rfl ?_ ?_
  · refine sm_iload_n (i := 2) (j := 2) (pc' := 24) dX12_columnOf_23 rfl rfl rfl ?_
    refine sm_iconst (v := (1 : Int32)) (pc' := 25) dX12_columnOf_24 rfl (by decide) ?_
    refine sm_icmp_lt (tgt := 56) (pc' := 28) dX12_columnOf_25 (by decide) rfl ?_ ?_
    · refine sm_bipush (v := (-2 : Int32)) (pc' := 58) dX12_columnOf_56 rfl (by decide) ?_
      exact sm_iret rfl dX12_columnOf_58
    refine sm_iload_n (i := 3) (j := 3) (pc' := 29) dX12_columnOf_28 rfl rfl rfl ?_
    refine sm_cSI (pc' := 32) (st := []) [vI a3] yY_yX12_isTag mw719 mw724 (mX12_isTag l D aC B a3 h4) rfl (by decide) (by decide) (by exact Nat.le_of_ble_eq_true rfl) rfl dX12_columnOf_29 rfl (fun x5 h6 => ?_)
    refine sm_if_eq (tgt := 56) (pc' := 35) dX12_columnOf_32 (by decide) rfl ?_ ?_
    · refine sm_bipush (v := (-2 : Int32)) (pc' := 58) dX12_columnOf_56 rfl (by decide) ?_
      exact sm_iret rfl dX12_columnOf_58
    refine sm_iload (i := 4) (j := 4) (pc' := 37) dX12_columnOf_35 rfl rfl ?_
    refine sm_i2l (pc' := 38) dX12_columnOf_37 rfl ?_
    refine sm_lconst (v := (0 : Int64)) (pc' := 39) dX12_columnOf_38 rfl (by decide) ?_
    refine sm_ldc2 (v := (2 : Int64)) (pc' := 42) dX12_columnOf_39 rfl mw707 ?_
    refine sm_cSI (pc' := 45) (st := []) [vJ (a4.toInt64), vJ (0 : Int64), vJ (2 : Int64)] yY_yX12_in mw701 mw702 (mX12_in l D aC B (a4.toInt64) (0 : Int64) (2 : Int64) h6) rfl (by decide) (by decide) (by exact Nat.le_of_ble_eq_true rfl) rfl dX12_columnOf_42 rfl (fun x7 h8 => ?_)
    refine sm_if_eq (tgt := 56) (pc' := 48) dX12_columnOf_45 (by decide) rfl ?_ ?_
    · refine sm_bipush (v := (-2 : Int32)) (pc' := 58) dX12_columnOf_56 rfl (by decide) ?_
      exact sm_iret rfl dX12_columnOf_58
    refine sm_lload (i := 5) (j := 5) (pc' := 50) dX12_columnOf_48 rfl rfl ?_
    refine sm_lload (i := 7) (j := 6) (pc' := 52) dX12_columnOf_50 rfl rfl ?_
    refine sm_lcmp (pc' := 53) dX12_columnOf_52 rfl ?_
    refine sm_if_le (tgt := 59) (pc' := 56) dX12_columnOf_53 (by decide) rfl ?_ ?_
    · refine sm_aload_n (i := 0) (j := 0) (pc' := 60) dX12_columnOf_59 rfl rfl rfl ?_
      refine sm_getR (k := 26) (pc' := 63) kX12 (by decide) mw677 dX12_columnOf_60 rfl (fun x9 => ?_)
      refine sm_iload_n (i := 1) (j := 1) (pc' := 64) dX12_columnOf_63 rfl rfl rfl ?_
      refine sm_iald (t := 0) (pc' := 65) rfl dX12_columnOf_64 rfl (fun x10 => ?_)
      refine sm_if_le (tgt := 72) (pc' := 68) dX12_columnOf_65 (by decide) rfl ?_ ?_
      · refine sm_iconst (v := (0 : Int32)) (pc' := 73) dX12_columnOf_72 rfl (by decide) ?_
        exact sX12_columnOf_73 l D aC B  a0 a1 a2 a3 a4 a5 a7 a9 (0 : Int32) h8
      refine sm_iconst (v := (1 : Int32)) (pc' := 69) dX12_columnOf_68 rfl (by decide) ?_
      refine sm_goto (pc' := 73) dX12_columnOf_69 (by decide) ?_
      exact sX12_columnOf_73 l D aC B  a0 a1 a2 a3 a4 a5 a7 a9 (1 : Int32) h8
    refine sm_bipush (v := (-2 : Int32)) (pc' := 58) dX12_columnOf_56 rfl (by decide) ?_
    exact sm_iret rfl dX12_columnOf_58
  refine sm_iconst (v := (-1 : Int32)) (pc' := 22) dX12_columnOf_21 rfl (by decide) ?_
  exact sm_iret rfl dX12_columnOf_22
set_option maxRecDepth 100000 in
theorem mX12_columnOf (l : Launch) (D : va_G) (aC : Nat → ClassId) (B : Nat) (a0 : Nat) (a1 : Int32) (a2 : Int32) (a3 : Int32) (a4 : Int32) (a5 : Int64) (a7 : Int64) (a9 : Int32) (h : sm_H) : sm_M l D vwCl gAts aC B gTs gNs gOs yX12_columnOf cX12_columnOf 13 (some .int) 2 52 vlI [vR (some a0), vI a1, vI a2, vI a3, vI a4, vJ a5, vJ a7, vI a9] h (fX12_columnOf a0 a1 a2 a3 a4 a5 a7 a9 h) := sm_meth [vR (some a0), vI a1, vI a2, vI a3, vI a4, vJ a5, vJ a7, vI a9] yY_yX12_columnOf gG gN (Nat.le_of_ble_eq_true rfl) rfl (sX12_columnOf_0 l D aC B a0 a1 a2 a3 a4 a5 a7 a9 h)
-- M:TreeAgentModel.column(IIIIJJ)I
noncomputable def fX12_column  (a0 : Nat) (a1 : Int32) (a2 : Int32) (a3 : Int32) (a4 : Int32) (a5 : Int64) (a7 : Int64) (h : sm_H) : Option (Int32 × sm_H) :=
  (sm_obj h (some a0) 12).bind fun b3 =>
  sm_cb (fX12_columnOf b3 a1 a2 a3 a4 a5 a7 (0 : Int32) h) fun x1 h2 =>
  some (x1, h2)
set_option maxRecDepth 100000 in
set_option maxHeartbeats 4000000 in
theorem sX12_column_0 (l : Launch) (D : va_G) (aC : Nat → ClassId) (B : Nat)   (a0 : Nat) (a1 : Int32) (a2 : Int32) (a3 : Int32) (a4 : Int32) (a5 : Int64) (a7 : Int64) (h : sm_H) : zS l D aC B cX12_column 9 RX12 3 84 (some .int) "column" vlI (fX12_column a0 a1 a2 a3 a4 a5 a7 h) 0 [(0, vR (some a0)), (1, vI a1), (2, vI a2), (3, vI a3), (4, vI a4), (5, vJ a5), (7, vJ a7)] [] h := by
  unfold fX12_column
  refine sm_aload_n (i := 0) (j := 0) (pc' := 1) dX12_column_0 rfl rfl rfl ?_
  refine sm_iload_n (i := 1) (j := 1) (pc' := 2) dX12_column_1 rfl rfl rfl ?_
  refine sm_iload_n (i := 2) (j := 2) (pc' := 3) dX12_column_2 rfl rfl rfl ?_
  refine sm_iload_n (i := 3) (j := 3) (pc' := 4) dX12_column_3 rfl rfl rfl ?_
  refine sm_iload (i := 4) (j := 4) (pc' := 6) dX12_column_4 rfl rfl ?_
  refine sm_lload (i := 5) (j := 5) (pc' := 8) dX12_column_6 rfl rfl ?_
  refine sm_lload (i := 7) (j := 6) (pc' := 10) dX12_column_8 rfl rfl ?_
  refine sm_iconst (v := (0 : Int32)) (pc' := 11) dX12_column_10 rfl (by decide) ?_
  refine sm_cVI (pc' := 14) (ci := 12) (st := []) (F := fun b => fX12_columnOf b a1 a2 a3 a4 a5 a7 (0 : Int32) h) [vI a1, vI a2, vI a3, vI a4, vJ a5, vJ a7, vI (0 : Int32)] yY_yX12_columnOf rfl mw726 mw727 mw728 (fun b => mX12_columnOf l D aC B b a1 a2 a3 a4 a5 a7 (0 : Int32) h) rfl (by decide) (by decide) (by exact Nat.le_of_ble_eq_true rfl) rfl dX12_column_11 rfl (fun x1 h2 => ?_)
  exact sm_iret rfl dX12_column_14
set_option maxRecDepth 100000 in
theorem mX12_column (l : Launch) (D : va_G) (aC : Nat → ClassId) (B : Nat) (a0 : Nat) (a1 : Int32) (a2 : Int32) (a3 : Int32) (a4 : Int32) (a5 : Int64) (a7 : Int64) (h : sm_H) : sm_M l D vwCl gAts aC B gTs gNs gOs yX12_column cX12_column 9 (some .int) 3 84 vlI [vR (some a0), vI a1, vI a2, vI a3, vI a4, vJ a5, vJ a7] h (fX12_column a0 a1 a2 a3 a4 a5 a7 h) := sm_meth [vR (some a0), vI a1, vI a2, vI a3, vI a4, vJ a5, vJ a7] yY_yX12_column gG gN (Nat.le_of_ble_eq_true rfl) rfl (sX12_column_0 l D aC B a0 a1 a2 a3 a4 a5 a7 h)
-- M:TreeAgentModel.status(II)I
noncomputable def fX12_status  (a0 : Nat) (a1 : Int32) (a2 : Int32) (h : sm_H) : Option (Int32 × sm_H) :=
  (sm_obj h (some a0) 12).bind fun b3 =>
  sm_cb (fX12_columnOf b3 a1 a2 (2 : Int32) (2 : Int32) (1 : Int64) (6 : Int64) (1 : Int32) h) fun x1 h2 =>
  some (x1, h2)
set_option maxRecDepth 100000 in
set_option maxHeartbeats 4000000 in
theorem sX12_status_0 (l : Launch) (D : va_G) (aC : Nat → ClassId) (B : Nat)   (a0 : Nat) (a1 : Int32) (a2 : Int32) (h : sm_H) : zS l D aC B cX12_status 3 RX12 3 84 (some .int) "status" vlI (fX12_status a0 a1 a2 h) 0 [(0, vR (some a0)), (1, vI a1), (2, vI a2)] [] h := by
  unfold fX12_status
  refine sm_aload_n (i := 0) (j := 0) (pc' := 1) dX12_status_0 rfl rfl rfl ?_
  refine sm_iload_n (i := 1) (j := 1) (pc' := 2) dX12_status_1 rfl rfl rfl ?_
  refine sm_iload_n (i := 2) (j := 2) (pc' := 3) dX12_status_2 rfl rfl rfl ?_
  refine sm_iconst (v := (2 : Int32)) (pc' := 4) dX12_status_3 rfl (by decide) ?_
  refine sm_iconst (v := (2 : Int32)) (pc' := 5) dX12_status_4 rfl (by decide) ?_
  refine sm_lconst (v := (1 : Int64)) (pc' := 6) dX12_status_5 rfl (by decide) ?_
  refine sm_ldc2 (v := (6 : Int64)) (pc' := 9) dX12_status_6 rfl mw729 ?_
  refine sm_iconst (v := (1 : Int32)) (pc' := 10) dX12_status_9 rfl (by decide) ?_
  refine sm_cVI (pc' := 13) (ci := 12) (st := []) (F := fun b => fX12_columnOf b a1 a2 (2 : Int32) (2 : Int32) (1 : Int64) (6 : Int64) (1 : Int32) h) [vI a1, vI a2, vI (2 : Int32), vI (2 : Int32), vJ (1 : Int64), vJ (6 : Int64), vI (1 : Int32)] yY_yX12_columnOf rfl mw726 mw727 mw728 (fun b => mX12_columnOf l D aC B b a1 a2 (2 : Int32) (2 : Int32) (1 : Int64) (6 : Int64) (1 : Int32) h) rfl (by decide) (by decide) (by exact Nat.le_of_ble_eq_true rfl) rfl dX12_status_10 rfl (fun x1 h2 => ?_)
  exact sm_iret rfl dX12_status_13
set_option maxRecDepth 100000 in
theorem mX12_status (l : Launch) (D : va_G) (aC : Nat → ClassId) (B : Nat) (a0 : Nat) (a1 : Int32) (a2 : Int32) (h : sm_H) : sm_M l D vwCl gAts aC B gTs gNs gOs yX12_status cX12_status 3 (some .int) 3 84 vlI [vR (some a0), vI a1, vI a2] h (fX12_status a0 a1 a2 h) := sm_meth [vR (some a0), vI a1, vI a2] yY_yX12_status gG gN (Nat.le_of_ble_eq_true rfl) rfl (sX12_status_0 l D aC B a0 a1 a2 h)
-- M:TreeAgentModel.placeOf(IJ)I
noncomputable def fX12_placeOf_3  : Nat → Nat → Int32 → Int64 → Int32 → sm_H → Option (Int32 × sm_H)
  | 0 => fun _ _ _ _ _ => none
  | n + 1 => fun a0 a1 a2 a4 h =>
    if (16 : Int32) ≤ a4 then (
      some ((-1 : Int32), h)
    ) else
    (sm_R (sm_get h (some a0) 12 27)).bind fun x1 =>
    (sm_aI h x1 0 (((16 : Int32) * a1) + a4)).bind fun x2 =>
    if (lg_cmp (x2.toInt64) a2) = 0 then (
      if (lg_cmp a2 (0 : Int64)) ≤ 0 then (
        sm_let (a4 + (1 : Int32)) fun x4 =>
        (fX12_placeOf_3 n) a0 a1 a2 x4 h
      ) else
      some (a4, h)
    ) else
    sm_let (a4 + (1 : Int32)) fun x3 =>
    (fX12_placeOf_3 n) a0 a1 a2 x3 h
set_option maxRecDepth 100000 in
set_option maxHeartbeats 4000000 in
theorem sX12_placeOf_3 (l : Launch) (D : va_G) (aC : Nat → ClassId) (B : Nat)   (n : Nat) : ∀ (a0 : Nat) (a1 : Int32) (a2 : Int64) (a4 : Int32) (h : sm_H), zS l D aC B cX12_placeOf 5 RX12 0 0 (some .int) "placeOf" vlI (fX12_placeOf_3 n a0 a1 a2 a4 h) 3 [(0, vR (some a0)), (1, vI a1), (2, vJ a2), (4, vI a4)] [] h := by
  induction n with
  | zero => intro a0 a1 a2 a4 h; exact sm_none
  | succ n ih =>
    intro a0 a1 a2 a4 h
    show zS l D aC B cX12_placeOf 5 RX12 0 0 (some .int) "placeOf" vlI (fX12_placeOf_3 (n + 1) a0 a1 a2 a4 h) 3 [(0, vR (some a0)), (1, vI a1), (2, vJ a2), (4, vI a4)] [] h
    unfold fX12_placeOf_3
    refine sm_iload (i := 4) (j := 3) (pc' := 5) dX12_placeOf_3 rfl rfl ?_
    refine sm_bipush (v := (16 : Int32)) (pc' := 7) dX12_placeOf_5 rfl (by decide) ?_
    refine sm_icmp_ge (tgt := 43) (pc' := 10) dX12_placeOf_7 (by decide) rfl ?_ ?_
    · refine sm_iconst (v := (-1 : Int32)) (pc' := 44) dX12_placeOf_43 rfl (by decide) ?_
      exact sm_iret rfl dX12_placeOf_44
    refine sm_aload_n (i := 0) (j := 0) (pc' := 11) dX12_placeOf_10 rfl rfl rfl ?_
    refine sm_getR (k := 27) (pc' := 14) kX12 (by decide) mw678 dX12_placeOf_11 rfl (fun x1 => ?_)
    refine sm_bipush (v := (16 : Int32)) (pc' := 16) dX12_placeOf_14 rfl (by decide) ?_
    refine sm_iload_n (i := 1) (j := 1) (pc' := 17) dX12_placeOf_16 rfl rfl rfl ?_
    refine sm_imul (pc' := 18) dX12_placeOf_17 rfl ?_
    refine sm_iload (i := 4) (j := 3) (pc' := 20) dX12_placeOf_18 rfl rfl ?_
    refine sm_iadd (pc' := 21) dX12_placeOf_20 rfl ?_
    refine sm_iald (t := 0) (pc' := 22) rfl dX12_placeOf_21 rfl (fun x2 => ?_)
    refine sm_i2l (pc' := 23) dX12_placeOf_22 rfl ?_
    refine sm_lload_n (i := 2) (j := 2) (pc' := 24) dX12_placeOf_23 rfl rfl rfl ?_
    refine sm_lcmp (pc' := 25) dX12_placeOf_24 rfl ?_
    refine sm_if_ne (tgt := 37) (pc' := 28) dX12_placeOf_25 (by decide) rfl ?_ ?_
    · refine sm_iincL (i := 4) (j := 3) (x := a4) (d := (1 : Int32)) (fun x3 => [(4, vI x3), (0, vR (some a0)), (1, vI a1), (2, vJ a2)]) (pc' := 40) dX12_placeOf_37 rfl rfl (by decide) (by decide) (fun _ => rfl) (fun x3 => ?_)
      refine sm_goto (pc' := 3) dX12_placeOf_40 (by decide) ?_
      refine sm_lo (lv' := [(0, vR (some a0)), (1, vI a1), (2, vJ a2), (4, vI x3)]) [1, 2, 3, 0] rfl ?_
      exact ih a0 a1 a2 x3 h
    refine sm_lload_n (i := 2) (j := 2) (pc' := 29) dX12_placeOf_28 rfl rfl rfl ?_
    refine sm_lconst (v := (0 : Int64)) (pc' := 30) dX12_placeOf_29 rfl (by decide) ?_
    refine sm_lcmp (pc' := 31) dX12_placeOf_30 rfl ?_
    refine sm_if_le (tgt := 37) (pc' := 34) dX12_placeOf_31 (by decide) rfl ?_ ?_
    · refine sm_iincL (i := 4) (j := 3) (x := a4) (d := (1 : Int32)) (fun x4 => [(4, vI x4), (0, vR (some a0)), (1, vI a1), (2, vJ a2)]) (pc' := 40) dX12_placeOf_37 rfl rfl (by decide) (by decide) (fun _ => rfl) (fun x4 => ?_)
      refine sm_goto (pc' := 3) dX12_placeOf_40 (by decide) ?_
      refine sm_lo (lv' := [(0, vR (some a0)), (1, vI a1), (2, vJ a2), (4, vI x4)]) [1, 2, 3, 0] rfl ?_
      exact ih a0 a1 a2 x4 h
    refine sm_iload (i := 4) (j := 3) (pc' := 36) dX12_placeOf_34 rfl rfl ?_
    exact sm_iret rfl dX12_placeOf_36
noncomputable def fX12_placeOf  (a0 : Nat) (a1 : Int32) (a2 : Int64) (h : sm_H) : Option (Int32 × sm_H) :=
  fX12_placeOf_3 sm_fuel a0 a1 a2 (0 : Int32) h
set_option maxRecDepth 100000 in
set_option maxHeartbeats 4000000 in
theorem sX12_placeOf_0 (l : Launch) (D : va_G) (aC : Nat → ClassId) (B : Nat)   (a0 : Nat) (a1 : Int32) (a2 : Int64) (h : sm_H) : zS l D aC B cX12_placeOf 5 RX12 0 0 (some .int) "placeOf" vlI (fX12_placeOf a0 a1 a2 h) 0 [(0, vR (some a0)), (1, vI a1), (2, vJ a2)] [] h := by
  unfold fX12_placeOf
  refine sm_iconst (v := (0 : Int32)) (pc' := 1) dX12_placeOf_0 rfl (by decide) ?_
  refine sm_istore (i := 4) (lv' := [(4, vI (0 : Int32)), (0, vR (some a0)), (1, vI a1), (2, vJ a2)]) (pc' := 3) dX12_placeOf_1 rfl (by decide) rfl ?_
  refine sm_lo (lv' := [(0, vR (some a0)), (1, vI a1), (2, vJ a2), (4, vI (0 : Int32))]) [1, 2, 3, 0] rfl ?_
  exact sX12_placeOf_3 l D aC B   sm_fuel a0 a1 a2 (0 : Int32) h
set_option maxRecDepth 100000 in
theorem mX12_placeOf (l : Launch) (D : va_G) (aC : Nat → ClassId) (B : Nat) (a0 : Nat) (a1 : Int32) (a2 : Int64) (h : sm_H) : sm_M l D vwCl gAts aC B gTs gNs gOs yX12_placeOf cX12_placeOf 5 (some .int) 0 0 vlI [vR (some a0), vI a1, vJ a2] h (fX12_placeOf a0 a1 a2 h) := sm_meth [vR (some a0), vI a1, vJ a2] yY_yX12_placeOf gG gN (Nat.le_of_ble_eq_true rfl) rfl (sX12_placeOf_0 l D aC B a0 a1 a2 h)
-- M:TreeAgentModel.makeRow(IIJ)V
noncomputable def fX12_makeRow_50  : Nat → Nat → Int32 → Int64 → Int32 → Int32 → sm_H → Option (Unit × sm_H)
  | 0 => fun _ _ _ _ _ _ => none
  | n + 1 => fun a0 a1 a3 a5 a6 h =>
    (sm_I (sm_get h (some a0) 12 8)).bind fun x1 =>
    if x1 ≤ a6 then (
      some ((), h)
    ) else
    (sm_R (sm_get h (some a0) 12 15)).bind fun x2 =>
    (sm_aI h x2 0 a6).bind fun x3 =>
    if x3 = a1 then (
      (sm_obj h (some a0) 12).bind fun b13 =>
      sm_cb (fX12_first b13 a6 a5 h) fun _ h5 =>
      (sm_R (sm_get h5 (some a0) 12 17)).bind fun x6 =>
      (sm_R (sm_get h5 (some a0) 12 16)).bind fun x7 =>
      (sm_aI h5 x7 2 a6).bind fun x8 =>
      if x8 = 0 then (
        (sm_sJ h5 x6 1 (((16 : Int32) * a6) + a5) (0 : Int64)).bind fun h9 =>
        sm_let (a6 + (1 : Int32)) fun x10 =>
        (fX12_makeRow_50 n) a0 a1 a3 a5 x10 h9
      ) else
      (sm_sJ h5 x6 1 (((16 : Int32) * a6) + a5) a3).bind fun h11 =>
      sm_let (a6 + (1 : Int32)) fun x12 =>
      (fX12_makeRow_50 n) a0 a1 a3 a5 x12 h11
    ) else
    sm_let (a6 + (1 : Int32)) fun x4 =>
    (fX12_makeRow_50 n) a0 a1 a3 a5 x4 h
set_option maxRecDepth 100000 in
set_option maxHeartbeats 4000000 in
theorem sX12_makeRow_50 (l : Launch) (D : va_G) (aC : Nat → ClassId) (B : Nat)   (n : Nat) : ∀ (a0 : Nat) (a1 : Int32) (a3 : Int64) (a5 : Int32) (a6 : Int32) (h : sm_H), zS l D aC B cX12_makeRow 7 RX12 1 22 none "makeRow" vlU (fX12_makeRow_50 n a0 a1 a3 a5 a6 h) 50 [(0, vR (some a0)), (1, vI a1), (3, vJ a3), (5, vI a5), (6, vI a6)] [] h := by
  induction n with
  | zero => intro a0 a1 a3 a5 a6 h; exact sm_none
  | succ n ih =>
    intro a0 a1 a3 a5 a6 h
    show zS l D aC B cX12_makeRow 7 RX12 1 22 none "makeRow" vlU (fX12_makeRow_50 (n + 1) a0 a1 a3 a5 a6 h) 50 [(0, vR (some a0)), (1, vI a1), (3, vJ a3), (5, vI a5), (6, vI a6)] [] h
    unfold fX12_makeRow_50
    refine sm_iload (i := 6) (j := 4) (pc' := 52) dX12_makeRow_50 rfl rfl ?_
    refine sm_aload_n (i := 0) (j := 0) (pc' := 53) dX12_makeRow_52 rfl rfl rfl ?_
    refine sm_getI (k := 8) (pc' := 56) kX12 (by decide) mw710 dX12_makeRow_53 rfl (fun x1 => ?_)
    refine sm_icmp_ge (tgt := 112) (pc' := 59) dX12_makeRow_56 (by decide) rfl ?_ ?_
    · exact sm_vret rfl dX12_makeRow_112
    refine sm_aload_n (i := 0) (j := 0) (pc' := 60) dX12_makeRow_59 rfl rfl rfl ?_
    refine sm_getR (k := 15) (pc' := 63) kX12 (by decide) mw667 dX12_makeRow_60 rfl (fun x2 => ?_)
    refine sm_iload (i := 6) (j := 4) (pc' := 65) dX12_makeRow_63 rfl rfl ?_
    refine sm_iald (t := 0) (pc' := 66) rfl dX12_makeRow_65 rfl (fun x3 => ?_)
    refine sm_iload_n (i := 1) (j := 1) (pc' := 67) dX12_makeRow_66 rfl rfl rfl ?_
    refine sm_icmp_ne (tgt := 106) (pc' := 70) dX12_makeRow_67 (by decide) rfl ?_ ?_
    · refine sm_iincL (i := 6) (j := 4) (x := a6) (d := (1 : Int32)) (fun x4 => [(6, vI x4), (0, vR (some a0)), (1, vI a1), (3, vJ a3), (5, vI a5)]) (pc' := 109) dX12_makeRow_106 rfl rfl (by decide) (by decide) (fun _ => rfl) (fun x4 => ?_)
      refine sm_goto (pc' := 50) dX12_makeRow_109 (by decide) ?_
      refine sm_lo (lv' := [(0, vR (some a0)), (1, vI a1), (3, vJ a3), (5, vI a5), (6, vI x4)]) [1, 2, 3, 4, 0] rfl ?_
      exact ih a0 a1 a3 a5 x4 h
    refine sm_aload_n (i := 0) (j := 0) (pc' := 71) dX12_makeRow_70 rfl rfl rfl ?_
    refine sm_iload (i := 6) (j := 4) (pc' := 73) dX12_makeRow_71 rfl rfl ?_
    refine sm_iload (i := 5) (j := 3) (pc' := 75) dX12_makeRow_73 rfl rfl ?_
    refine sm_cVU (pc' := 78) (ci := 12) (st := []) (F := fun b => fX12_first b a6 a5 h) [vI a6, vI a5] yY_yX12_first rfl mw713 mw714 mw715 (fun b => mX12_first l D aC B b a6 a5 h) rfl (by decide) (by decide) (by exact Nat.le_of_ble_eq_true rfl) rfl dX12_makeRow_75 rfl (fun _ h5 => ?_)
    refine sm_aload_n (i := 0) (j := 0) (pc' := 79) dX12_makeRow_78 rfl rfl rfl ?_
    refine sm_getR (k := 17) (pc' := 82) kX12 (by decide) mw669 dX12_makeRow_79 rfl (fun x6 => ?_)
    refine sm_bipush (v := (16 : Int32)) (pc' := 84) dX12_makeRow_82 rfl (by decide) ?_
    refine sm_iload (i := 6) (j := 4) (pc' := 86) dX12_makeRow_84 rfl rfl ?_
    refine sm_imul (pc' := 87) dX12_makeRow_86 rfl ?_
    refine sm_iload (i := 5) (j := 3) (pc' := 89) dX12_makeRow_87 rfl rfl ?_
    refine sm_iadd (pc' := 90) dX12_makeRow_89 rfl ?_
    refine sm_aload_n (i := 0) (j := 0) (pc' := 91) dX12_makeRow_90 rfl rfl rfl ?_
    refine sm_getR (k := 16) (pc' := 94) kX12 (by decide) mw668 dX12_makeRow_91 rfl (fun x7 => ?_)
    refine sm_iload (i := 6) (j := 4) (pc' := 96) dX12_makeRow_94 rfl rfl ?_
    refine sm_zald (t := 2) (pc' := 97) rfl dX12_makeRow_96 rfl (fun x8 => ?_)
    refine sm_if_eq (tgt := 104) (pc' := 100) dX12_makeRow_97 (by decide) rfl ?_ ?_
    · refine sm_lconst (v := (0 : Int64)) (pc' := 105) dX12_makeRow_104 rfl (by decide) ?_
      refine sm_last (t := 1) (pc' := 106) rfl dX12_makeRow_105 rfl (fun h9 => ?_)
      refine sm_iincL (i := 6) (j := 4) (x := a6) (d := (1 : Int32)) (fun x10 => [(6, vI x10), (0, vR (some a0)), (1, vI a1), (3, vJ a3), (5, vI a5)]) (pc' := 109) dX12_makeRow_106 rfl rfl (by decide) (by decide) (fun _ => rfl) (fun x10 => ?_)
      refine sm_goto (pc' := 50) dX12_makeRow_109 (by decide) ?_
      refine sm_lo (lv' := [(0, vR (some a0)), (1, vI a1), (3, vJ a3), (5, vI a5), (6, vI x10)]) [1, 2, 3, 4, 0] rfl ?_
      exact ih a0 a1 a3 a5 x10 h9
    refine sm_lload_n (i := 3) (j := 2) (pc' := 101) dX12_makeRow_100 rfl rfl rfl ?_
    refine sm_goto (pc' := 105) dX12_makeRow_101 (by decide) ?_
    refine sm_last (t := 1) (pc' := 106) rfl dX12_makeRow_105 rfl (fun h11 => ?_)
    refine sm_iincL (i := 6) (j := 4) (x := a6) (d := (1 : Int32)) (fun x12 => [(6, vI x12), (0, vR (some a0)), (1, vI a1), (3, vJ a3), (5, vI a5)]) (pc' := 109) dX12_makeRow_106 rfl rfl (by decide) (by decide) (fun _ => rfl) (fun x12 => ?_)
    refine sm_goto (pc' := 50) dX12_makeRow_109 (by decide) ?_
    refine sm_lo (lv' := [(0, vR (some a0)), (1, vI a1), (3, vJ a3), (5, vI a5), (6, vI x12)]) [1, 2, 3, 4, 0] rfl ?_
    exact ih a0 a1 a3 a5 x12 h11
noncomputable def fX12_makeRow_3  : Nat → Nat → Int32 → Int32 → Int64 → Int32 → sm_H → Option (Unit × sm_H)
  | 0 => fun _ _ _ _ _ _ => none
  | n + 1 => fun a0 a1 a2 a3 a5 h =>
    (sm_R (sm_get h (some a0) 12 27)).bind fun x1 =>
    (sm_aI h x1 0 (((16 : Int32) * a1) + a5)).bind fun x2 =>
    if x2 ≤ 0 then (
      (sm_R (sm_get h (some a0) 12 27)).bind fun x3 =>
      (sm_sI h x3 0 (((16 : Int32) * a1) + a5) a2).bind fun h4 =>
      (sm_R (sm_get h4 (some a0) 12 26)).bind fun x5 =>
      (sm_aI h4 x5 0 a1).bind fun x6 =>
      (sm_sI h4 x5 0 a1 (x6 + (1 : Int32))).bind fun h7 =>
      fX12_makeRow_50 sm_fuel a0 a1 a3 a5 (0 : Int32) h7
    ) else
    sm_let (a5 + (1 : Int32)) fun x8 =>
    (fX12_makeRow_3 n) a0 a1 a2 a3 x8 h
set_option maxRecDepth 100000 in
set_option maxHeartbeats 4000000 in
theorem sX12_makeRow_3 (l : Launch) (D : va_G) (aC : Nat → ClassId) (B : Nat)   (n : Nat) : ∀ (a0 : Nat) (a1 : Int32) (a2 : Int32) (a3 : Int64) (a5 : Int32) (h : sm_H), zS l D aC B cX12_makeRow 7 RX12 1 22 none "makeRow" vlU (fX12_makeRow_3 n a0 a1 a2 a3 a5 h) 3 [(0, vR (some a0)), (1, vI a1), (2, vI a2), (3, vJ a3), (5, vI a5)] [] h := by
  induction n with
  | zero => intro a0 a1 a2 a3 a5 h; exact sm_none
  | succ n ih =>
    intro a0 a1 a2 a3 a5 h
    show zS l D aC B cX12_makeRow 7 RX12 1 22 none "makeRow" vlU (fX12_makeRow_3 (n + 1) a0 a1 a2 a3 a5 h) 3 [(0, vR (some a0)), (1, vI a1), (2, vI a2), (3, vJ a3), (5, vI a5)] [] h
    unfold fX12_makeRow_3
    refine sm_aload_n (i := 0) (j := 0) (pc' := 4) dX12_makeRow_3 rfl rfl rfl ?_
    refine sm_getR (k := 27) (pc' := 7) kX12 (by decide) mw678 dX12_makeRow_4 rfl (fun x1 => ?_)
    refine sm_bipush (v := (16 : Int32)) (pc' := 9) dX12_makeRow_7 rfl (by decide) ?_
    refine sm_iload_n (i := 1) (j := 1) (pc' := 10) dX12_makeRow_9 rfl rfl rfl ?_
    refine sm_imul (pc' := 11) dX12_makeRow_10 rfl ?_
    refine sm_iload (i := 5) (j := 4) (pc' := 13) dX12_makeRow_11 rfl rfl ?_
    refine sm_iadd (pc' := 14) dX12_makeRow_13 rfl ?_
    refine sm_iald (t := 0) (pc' := 15) rfl dX12_makeRow_14 rfl (fun x2 => ?_)
    refine sm_if_le (tgt := 24) (pc' := 18) dX12_makeRow_15 (by decide) rfl ?_ ?_
    · refine sm_aload_n (i := 0) (j := 0) (pc' := 25) dX12_makeRow_24 rfl rfl rfl ?_
      refine sm_getR (k := 27) (pc' := 28) kX12 (by decide) mw678 dX12_makeRow_25 rfl (fun x3 => ?_)
      refine sm_bipush (v := (16 : Int32)) (pc' := 30) dX12_makeRow_28 rfl (by decide) ?_
      refine sm_iload_n (i := 1) (j := 1) (pc' := 31) dX12_makeRow_30 rfl rfl rfl ?_
      refine sm_imul (pc' := 32) dX12_makeRow_31 rfl ?_
      refine sm_iload (i := 5) (j := 4) (pc' := 34) dX12_makeRow_32 rfl rfl ?_
      refine sm_iadd (pc' := 35) dX12_makeRow_34 rfl ?_
      refine sm_iload_n (i := 2) (j := 2) (pc' := 36) dX12_makeRow_35 rfl rfl rfl ?_
      refine sm_iast (t := 0) (pc' := 37) rfl dX12_makeRow_36 rfl (fun h4 => ?_)
      refine sm_aload_n (i := 0) (j := 0) (pc' := 38) dX12_makeRow_37 rfl rfl rfl ?_
      refine sm_getR (k := 26) (pc' := 41) kX12 (by decide) mw677 dX12_makeRow_38 rfl (fun x5 => ?_)
      refine sm_iload_n (i := 1) (j := 1) (pc' := 42) dX12_makeRow_41 rfl rfl rfl ?_
      refine sm_dup2 (pc' := 43) rfl rfl dX12_makeRow_42 rfl ?_
      refine sm_iald (t := 0) (pc' := 44) rfl dX12_makeRow_43 rfl (fun x6 => ?_)
      refine sm_iconst (v := (1 : Int32)) (pc' := 45) dX12_makeRow_44 rfl (by decide) ?_
      refine sm_iadd (pc' := 46) dX12_makeRow_45 rfl ?_
      refine sm_iast (t := 0) (pc' := 47) rfl dX12_makeRow_46 rfl (fun h7 => ?_)
      refine sm_iconst (v := (0 : Int32)) (pc' := 48) dX12_makeRow_47 rfl (by decide) ?_
      refine sm_istore (i := 6) (lv' := [(6, vI (0 : Int32)), (0, vR (some a0)), (1, vI a1), (2, vI a2), (3, vJ a3), (5, vI a5)]) (pc' := 50) dX12_makeRow_48 rfl (by decide) rfl ?_
      refine sm_lo (lv' := [(0, vR (some a0)), (1, vI a1), (3, vJ a3), (5, vI a5), (6, vI (0 : Int32))]) [1, 2, 4, 5, 0] rfl ?_
      exact sX12_makeRow_50 l D aC B   sm_fuel a0 a1 a3 a5 (0 : Int32) h7
    refine sm_iincL (i := 5) (j := 4) (x := a5) (d := (1 : Int32)) (fun x8 => [(5, vI x8), (0, vR (some a0)), (1, vI a1), (2, vI a2), (3, vJ a3)]) (pc' := 21) dX12_makeRow_18 rfl rfl (by decide) (by decide) (fun _ => rfl) (fun x8 => ?_)
    refine sm_goto (pc' := 3) dX12_makeRow_21 (by decide) ?_
    refine sm_lo (lv' := [(0, vR (some a0)), (1, vI a1), (2, vI a2), (3, vJ a3), (5, vI x8)]) [1, 2, 3, 4, 0] rfl ?_
    exact ih a0 a1 a2 a3 x8 h
noncomputable def fX12_makeRow  (a0 : Nat) (a1 : Int32) (a2 : Int32) (a3 : Int64) (h : sm_H) : Option (Unit × sm_H) :=
  fX12_makeRow_3 sm_fuel a0 a1 a2 a3 (0 : Int32) h
set_option maxRecDepth 100000 in
set_option maxHeartbeats 4000000 in
theorem sX12_makeRow_0 (l : Launch) (D : va_G) (aC : Nat → ClassId) (B : Nat)   (a0 : Nat) (a1 : Int32) (a2 : Int32) (a3 : Int64) (h : sm_H) : zS l D aC B cX12_makeRow 7 RX12 1 22 none "makeRow" vlU (fX12_makeRow a0 a1 a2 a3 h) 0 [(0, vR (some a0)), (1, vI a1), (2, vI a2), (3, vJ a3)] [] h := by
  unfold fX12_makeRow
  refine sm_iconst (v := (0 : Int32)) (pc' := 1) dX12_makeRow_0 rfl (by decide) ?_
  refine sm_istore (i := 5) (lv' := [(5, vI (0 : Int32)), (0, vR (some a0)), (1, vI a1), (2, vI a2), (3, vJ a3)]) (pc' := 3) dX12_makeRow_1 rfl (by decide) rfl ?_
  refine sm_lo (lv' := [(0, vR (some a0)), (1, vI a1), (2, vI a2), (3, vJ a3), (5, vI (0 : Int32))]) [1, 2, 3, 4, 0] rfl ?_
  exact sX12_makeRow_3 l D aC B   sm_fuel a0 a1 a2 a3 (0 : Int32) h
set_option maxRecDepth 100000 in
theorem mX12_makeRow (l : Launch) (D : va_G) (aC : Nat → ClassId) (B : Nat) (a0 : Nat) (a1 : Int32) (a2 : Int32) (a3 : Int64) (h : sm_H) : sm_M l D vwCl gAts aC B gTs gNs gOs yX12_makeRow cX12_makeRow 7 none 1 22 vlU [vR (some a0), vI a1, vI a2, vJ a3] h (fX12_makeRow a0 a1 a2 a3 h) := sm_meth [vR (some a0), vI a1, vI a2, vJ a3] yY_yX12_makeRow gG gN (Nat.le_of_ble_eq_true rfl) rfl (sX12_makeRow_0 l D aC B a0 a1 a2 a3 h)
-- M:TreeAgentModel.dropRow(II)V
noncomputable def fX12_dropRow  (a0 : Nat) (a1 : Int32) (a2 : Int32) (h : sm_H) : Option (Unit × sm_H) :=
  (sm_R (sm_get h (some a0) 12 27)).bind fun x1 =>
  (sm_sI h x1 0 (((16 : Int32) * a1) + a2) (0 : Int32)).bind fun h2 =>
  (sm_R (sm_get h2 (some a0) 12 26)).bind fun x3 =>
  (sm_aI h2 x3 0 a1).bind fun x4 =>
  (sm_sI h2 x3 0 a1 (x4 - (1 : Int32))).bind fun h5 =>
  some ((), h5)
set_option maxRecDepth 100000 in
set_option maxHeartbeats 4000000 in
theorem sX12_dropRow_0 (l : Launch) (D : va_G) (aC : Nat → ClassId) (B : Nat)   (a0 : Nat) (a1 : Int32) (a2 : Int32) (h : sm_H) : zS l D aC B cX12_dropRow 3 RX12 0 0 none "dropRow" vlU (fX12_dropRow a0 a1 a2 h) 0 [(0, vR (some a0)), (1, vI a1), (2, vI a2)] [] h := by
  unfold fX12_dropRow
  refine sm_aload_n (i := 0) (j := 0) (pc' := 1) dX12_dropRow_0 rfl rfl rfl ?_
  refine sm_getR (k := 27) (pc' := 4) kX12 (by decide) mw678 dX12_dropRow_1 rfl (fun x1 => ?_)
  refine sm_bipush (v := (16 : Int32)) (pc' := 6) dX12_dropRow_4 rfl (by decide) ?_
  refine sm_iload_n (i := 1) (j := 1) (pc' := 7) dX12_dropRow_6 rfl rfl rfl ?_
  refine sm_imul (pc' := 8) dX12_dropRow_7 rfl ?_
  refine sm_iload_n (i := 2) (j := 2) (pc' := 9) dX12_dropRow_8 rfl rfl rfl ?_
  refine sm_iadd (pc' := 10) dX12_dropRow_9 rfl ?_
  refine sm_iconst (v := (0 : Int32)) (pc' := 11) dX12_dropRow_10 rfl (by decide) ?_
  refine sm_iast (t := 0) (pc' := 12) rfl dX12_dropRow_11 rfl (fun h2 => ?_)
  refine sm_aload_n (i := 0) (j := 0) (pc' := 13) dX12_dropRow_12 rfl rfl rfl ?_
  refine sm_getR (k := 26) (pc' := 16) kX12 (by decide) mw677 dX12_dropRow_13 rfl (fun x3 => ?_)
  refine sm_iload_n (i := 1) (j := 1) (pc' := 17) dX12_dropRow_16 rfl rfl rfl ?_
  refine sm_dup2 (pc' := 18) rfl rfl dX12_dropRow_17 rfl ?_
  refine sm_iald (t := 0) (pc' := 19) rfl dX12_dropRow_18 rfl (fun x4 => ?_)
  refine sm_iconst (v := (1 : Int32)) (pc' := 20) dX12_dropRow_19 rfl (by decide) ?_
  refine sm_isub (pc' := 21) dX12_dropRow_20 rfl ?_
  refine sm_iast (t := 0) (pc' := 22) rfl dX12_dropRow_21 rfl (fun h5 => ?_)
  exact sm_vret rfl dX12_dropRow_22
set_option maxRecDepth 100000 in
theorem mX12_dropRow (l : Launch) (D : va_G) (aC : Nat → ClassId) (B : Nat) (a0 : Nat) (a1 : Int32) (a2 : Int32) (h : sm_H) : sm_M l D vwCl gAts aC B gTs gNs gOs yX12_dropRow cX12_dropRow 3 none 0 0 vlU [vR (some a0), vI a1, vI a2] h (fX12_dropRow a0 a1 a2 h) := sm_meth [vR (some a0), vI a1, vI a2] yY_yX12_dropRow gG gN (Nat.le_of_ble_eq_true rfl) rfl (sX12_dropRow_0 l D aC B a0 a1 a2 h)
-- M:TreeAgentModel.row(IIZ)I
noncomputable def fX12_row_50  (a0 : Nat) (a1 : Int32) (a2 : Int32) (a3 : Int32) (a4 : Int32) (s0 : Int32) (h : sm_H) : Option (Int32 × sm_H) :=
  if s0 = a3 then (
    some ((0 : Int32), h)
  ) else
  if a3 = 0 then (
    (sm_obj h (some a0) 12).bind fun b6 =>
    sm_cb (fX12_dropRow b6 a1 a4 h) fun _ h5 =>
    some ((1 : Int32), h5)
  ) else
  (sm_R (sm_get h (some a0) 12 26)).bind fun x1 =>
  (sm_aI h x1 0 a1).bind fun x2 =>
  if x2 = (16 : Int32) then (
    some ((-4 : Int32), h)
  ) else
  (sm_obj h (some a0) 12).bind fun b4 =>
  sm_cb (fX12_makeRow b4 a1 a2 (1 : Int64) h) fun _ h3 =>
  some ((1 : Int32), h3)
set_option maxRecDepth 100000 in
set_option maxHeartbeats 4000000 in
theorem sX12_row_50 (l : Launch) (D : va_G) (aC : Nat → ClassId) (B : Nat)   (a0 : Nat) (a1 : Int32) (a2 : Int32) (a3 : Int32) (a4 : Int32) (s0 : Int32) (h : sm_H) : zS l D aC B cX12_row 5 RX12 2 48 (some .int) "row" vlI (fX12_row_50 a0 a1 a2 a3 a4 s0 h) 50 [(0, vR (some a0)), (1, vI a1), (2, vI a2), (3, vI a3), (4, vI a4)] [vI s0] h := by
  unfold fX12_row_50
  refine sm_iload_n (i := 3) (j := 3) (pc' := 51) dX12_row_50 rfl rfl rfl ?_
  refine sm_icmp_ne (tgt := 56) (pc' := 54) dX12_row_51 (by decide) rfl ?_ ?_
  · refine sm_iload_n (i := 3) (j := 3) (pc' := 57) dX12_row_56 rfl rfl rfl ?_
    refine sm_if_ne (tgt := 69) (pc' := 60) dX12_row_57 (by decide) rfl ?_ ?_
    · refine sm_aload_n (i := 0) (j := 0) (pc' := 70) dX12_row_69 rfl rfl rfl ?_
      refine sm_getR (k := 26) (pc' := 73) kX12 (by decide) mw677 dX12_row_70 rfl (fun x1 => ?_)
      refine sm_iload_n (i := 1) (j := 1) (pc' := 74) dX12_row_73 rfl rfl rfl ?_
      refine sm_iald (t := 0) (pc' := 75) rfl dX12_row_74 rfl (fun x2 => ?_)
      refine sm_bipush (v := (16 : Int32)) (pc' := 77) dX12_row_75 rfl (by decide) ?_
      refine sm_icmp_ne (tgt := 83) (pc' := 80) dX12_row_77 (by decide) rfl ?_ ?_
      · refine sm_aload_n (i := 0) (j := 0) (pc' := 84) dX12_row_83 rfl rfl rfl ?_
        refine sm_iload_n (i := 1) (j := 1) (pc' := 85) dX12_row_84 rfl rfl rfl ?_
        refine sm_iload_n (i := 2) (j := 2) (pc' := 86) dX12_row_85 rfl rfl rfl ?_
        refine sm_lconst (v := (1 : Int64)) (pc' := 87) dX12_row_86 rfl (by decide) ?_
        refine sm_cVU (pc' := 90) (ci := 12) (st := []) (F := fun b => fX12_makeRow b a1 a2 (1 : Int64) h) [vI a1, vI a2, vJ (1 : Int64)] yY_yX12_makeRow rfl mw730 mw731 mw732 (fun b => mX12_makeRow l D aC B b a1 a2 (1 : Int64) h) rfl (by decide) (by decide) (by exact Nat.le_of_ble_eq_true rfl) rfl dX12_row_87 rfl (fun _ h3 => ?_)
        refine sm_iconst (v := (1 : Int32)) (pc' := 91) dX12_row_90 rfl (by decide) ?_
        exact sm_iret rfl dX12_row_91
      refine sm_bipush (v := (-4 : Int32)) (pc' := 82) dX12_row_80 rfl (by decide) ?_
      exact sm_iret rfl dX12_row_82
    refine sm_aload_n (i := 0) (j := 0) (pc' := 61) dX12_row_60 rfl rfl rfl ?_
    refine sm_iload_n (i := 1) (j := 1) (pc' := 62) dX12_row_61 rfl rfl rfl ?_
    refine sm_iload (i := 4) (j := 4) (pc' := 64) dX12_row_62 rfl rfl ?_
    refine sm_cVU (pc' := 67) (ci := 12) (st := []) (F := fun b => fX12_dropRow b a1 a4 h) [vI a1, vI a4] yY_yX12_dropRow rfl mw733 mw734 mw735 (fun b => mX12_dropRow l D aC B b a1 a4 h) rfl (by decide) (by decide) (by exact Nat.le_of_ble_eq_true rfl) rfl dX12_row_64 rfl (fun _ h5 => ?_)
    refine sm_iconst (v := (1 : Int32)) (pc' := 68) dX12_row_67 rfl (by decide) ?_
    exact sm_iret rfl dX12_row_68
  refine sm_iconst (v := (0 : Int32)) (pc' := 55) dX12_row_54 rfl (by decide) ?_
  exact sm_iret rfl dX12_row_55
noncomputable def fX12_row  (a0 : Nat) (a1 : Int32) (a2 : Int32) (a3 : Int32) (h : sm_H) : Option (Int32 × sm_H) :=
  (sm_put h (some a0) 12 0 (sm_v (vI (0 : Int32)))).bind fun h1 =>
  (sm_I (sm_get h1 (some a0) 12 22)).bind fun x2 =>
  sm_cb (fX12_in (a1.toInt64) (0 : Int64) ((x2 - (1 : Int32)).toInt64) h1) fun x3 h4 =>
  if x3 = 0 then (
    some ((-1 : Int32), h4)
  ) else
  if (1 : Int32) ≤ a2 then (
    (sm_obj h4 (some a0) 12).bind fun b7 =>
    sm_cb (fX12_placeOf b7 a1 (a2.toInt64) h4) fun x5 h6 =>
    if x5 < 0 then (
      fX12_row_50 a0 a1 a2 a3 x5 (0 : Int32) h6
    ) else
    fX12_row_50 a0 a1 a2 a3 x5 (1 : Int32) h6
  ) else
  some ((-2 : Int32), h4)
set_option maxRecDepth 100000 in
set_option maxHeartbeats 4000000 in
theorem sX12_row_0 (l : Launch) (D : va_G) (aC : Nat → ClassId) (B : Nat)   (a0 : Nat) (a1 : Int32) (a2 : Int32) (a3 : Int32) (h : sm_H) : zS l D aC B cX12_row 5 RX12 2 48 (some .int) "row" vlI (fX12_row a0 a1 a2 a3 h) 0 [(0, vR (some a0)), (1, vI a1), (2, vI a2), (3, vI a3)] [] h := by
  unfold fX12_row
  refine sm_aload_n (i := 0) (j := 0) (pc' := 1) dX12_row_0 rfl rfl rfl ?_
  refine sm_iconst (v := (0 : Int32)) (pc' := 2) dX12_row_1 rfl (by decide) ?_
  refine sm_putI (k := 0) (pc' := 5) kX12 (by decide) mw699 rfl rfl dX12_row_2 rfl (fun h1 => ?_)
  refine sm_iload_n (i := 1) (j := 1) (pc' := 6) dX12_row_5 rfl rfl rfl ?_
  refine sm_i2l (pc' := 7) dX12_row_6 rfl ?_
  refine sm_lconst (v := (0 : Int64)) (pc' := 8) dX12_row_7 rfl (by decide) ?_
  refine sm_aload_n (i := 0) (j := 0) (pc' := 9) dX12_row_8 rfl rfl rfl ?_
  refine sm_getI (k := 22) (pc' := 12) kX12 (by decide) mw697 dX12_row_9 rfl (fun x2 => ?_)
  refine sm_iconst (v := (1 : Int32)) (pc' := 13) dX12_row_12 rfl (by decide) ?_
  refine sm_isub (pc' := 14) dX12_row_13 rfl ?_
  refine sm_i2l (pc' := 15) dX12_row_14 rfl ?_
  refine sm_cSI (pc' := 18) (st := []) [vJ (a1.toInt64), vJ (0 : Int64), vJ ((x2 - (1 : Int32)).toInt64)] yY_yX12_in mw701 mw702 (mX12_in l D aC B (a1.toInt64) (0 : Int64) ((x2 - (1 : Int32)).toInt64) h1) rfl (by decide) (by decide) (by exact Nat.le_of_ble_eq_true rfl) rfl dX12_row_15 rfl (fun x3 h4 => ?_)
  refine sm_if_ne (tgt := 23) (pc' := 21) dX12_row_18 (by decide) rfl ?_ ?_
  · refine sm_iload_n (i := 2) (j := 2) (pc' := 24) dX12_row_23 rfl rfl rfl ?_
    refine sm_iconst (v := (1 : Int32)) (pc' := 25) dX12_row_24 rfl (by decide) ?_
    refine sm_icmp_ge (tgt := 31) (pc' := 28) dX12_row_25 (by decide) rfl ?_ ?_
    · refine sm_aload_n (i := 0) (j := 0) (pc' := 32) dX12_row_31 rfl rfl rfl ?_
      refine sm_iload_n (i := 1) (j := 1) (pc' := 33) dX12_row_32 rfl rfl rfl ?_
      refine sm_iload_n (i := 2) (j := 2) (pc' := 34) dX12_row_33 rfl rfl rfl ?_
      refine sm_i2l (pc' := 35) dX12_row_34 rfl ?_
      refine sm_cVI (pc' := 38) (ci := 12) (st := []) (F := fun b => fX12_placeOf b a1 (a2.toInt64) h4) [vI a1, vJ (a2.toInt64)] yY_yX12_placeOf rfl mw736 mw737 mw738 (fun b => mX12_placeOf l D aC B b a1 (a2.toInt64) h4) rfl (by decide) (by decide) (by exact Nat.le_of_ble_eq_true rfl) rfl dX12_row_35 rfl (fun x5 h6 => ?_)
      refine sm_istore (i := 4) (lv' := [(4, vI x5), (0, vR (some a0)), (1, vI a1), (2, vI a2), (3, vI a3)]) (pc' := 40) dX12_row_38 rfl (by decide) rfl ?_
      refine sm_iload (i := 4) (j := 0) (pc' := 42) dX12_row_40 rfl rfl ?_
      refine sm_if_lt (tgt := 49) (pc' := 45) dX12_row_42 (by decide) rfl ?_ ?_
      · refine sm_iconst (v := (0 : Int32)) (pc' := 50) dX12_row_49 rfl (by decide) ?_
        refine sm_lo (lv' := [(0, vR (some a0)), (1, vI a1), (2, vI a2), (3, vI a3), (4, vI x5)]) [1, 2, 3, 4, 0] rfl ?_
        exact sX12_row_50 l D aC B  a0 a1 a2 a3 x5 (0 : Int32) h6
      refine sm_iconst (v := (1 : Int32)) (pc' := 46) dX12_row_45 rfl (by decide) ?_
      refine sm_goto (pc' := 50) dX12_row_46 (by decide) ?_
      refine sm_lo (lv' := [(0, vR (some a0)), (1, vI a1), (2, vI a2), (3, vI a3), (4, vI x5)]) [1, 2, 3, 4, 0] rfl ?_
      exact sX12_row_50 l D aC B  a0 a1 a2 a3 x5 (1 : Int32) h6
    refine sm_bipush (v := (-2 : Int32)) (pc' := 30) dX12_row_28 rfl (by decide) ?_
    exact sm_iret rfl dX12_row_30
  refine sm_iconst (v := (-1 : Int32)) (pc' := 22) dX12_row_21 rfl (by decide) ?_
  exact sm_iret rfl dX12_row_22
set_option maxRecDepth 100000 in
theorem mX12_row (l : Launch) (D : va_G) (aC : Nat → ClassId) (B : Nat) (a0 : Nat) (a1 : Int32) (a2 : Int32) (a3 : Int32) (h : sm_H) : sm_M l D vwCl gAts aC B gTs gNs gOs yX12_row cX12_row 5 (some .int) 2 48 vlI [vR (some a0), vI a1, vI a2, vI a3] h (fX12_row a0 a1 a2 a3 h) := sm_meth [vR (some a0), vI a1, vI a2, vI a3] yY_yX12_row gG gN (Nat.le_of_ble_eq_true rfl) rfl (sX12_row_0 l D aC B a0 a1 a2 a3 h)
-- M:TreeAgentModel.instance(II)I
noncomputable def fX12_instance  (a0 : Nat) (a1 : Int32) (a2 : Int32) (h : sm_H) : Option (Int32 × sm_H) :=
  (sm_I (sm_get h (some a0) 12 8)).bind fun x1 =>
  sm_cb (fX12_in (a1.toInt64) (0 : Int64) ((x1 - (1 : Int32)).toInt64) h) fun x2 h3 =>
  if x2 = 0 then (
    some ((-1 : Int32), h3)
  ) else
  (sm_R (sm_get h3 (some a0) 12 15)).bind fun x4 =>
  (sm_aI h3 x4 0 a1).bind fun x5 =>
  if 0 ≤ x5 then (
    (sm_R (sm_get h3 (some a0) 12 15)).bind fun x6 =>
    (sm_aI h3 x6 0 a1).bind fun x7 =>
    (sm_obj h3 (some a0) 12).bind fun b10 =>
    sm_cb (fX12_placeOf b10 x7 (a2.toInt64) h3) fun x8 h9 =>
    if 0 ≤ x8 then (
      some (((16 : Int32) * a1) + x8, h9)
    ) else
    some ((-1 : Int32), h9)
  ) else
  if a2 = 0 then (
    some ((16 : Int32) * a1, h3)
  ) else
  some ((-1 : Int32), h3)
set_option maxRecDepth 100000 in
set_option maxHeartbeats 4000000 in
theorem sX12_instance_0 (l : Launch) (D : va_G) (aC : Nat → ClassId) (B : Nat)   (a0 : Nat) (a1 : Int32) (a2 : Int32) (h : sm_H) : zS l D aC B cX12_instance 4 RX12 1 25 (some .int) "instance" vlI (fX12_instance a0 a1 a2 h) 0 [(0, vR (some a0)), (1, vI a1), (2, vI a2)] [] h := by
  unfold fX12_instance
  refine sm_iload_n (i := 1) (j := 1) (pc' := 1) dX12_instance_0 rfl rfl rfl ?_
  refine sm_i2l (pc' := 2) dX12_instance_1 rfl ?_
  refine sm_lconst (v := (0 : Int64)) (pc' := 3) dX12_instance_2 rfl (by decide) ?_
  refine sm_aload_n (i := 0) (j := 0) (pc' := 4) dX12_instance_3 rfl rfl rfl ?_
  refine sm_getI (k := 8) (pc' := 7) kX12 (by decide) mw710 dX12_instance_4 rfl (fun x1 => ?_)
  refine sm_iconst (v := (1 : Int32)) (pc' := 8) dX12_instance_7 rfl (by decide) ?_
  refine sm_isub (pc' := 9) dX12_instance_8 rfl ?_
  refine sm_i2l (pc' := 10) dX12_instance_9 rfl ?_
  refine sm_cSI (pc' := 13) (st := []) [vJ (a1.toInt64), vJ (0 : Int64), vJ ((x1 - (1 : Int32)).toInt64)] yY_yX12_in mw701 mw702 (mX12_in l D aC B (a1.toInt64) (0 : Int64) ((x1 - (1 : Int32)).toInt64) h) rfl (by decide) (by decide) (by exact Nat.le_of_ble_eq_true rfl) rfl dX12_instance_10 rfl (fun x2 h3 => ?_)
  refine sm_if_ne (tgt := 18) (pc' := 16) dX12_instance_13 (by decide) rfl ?_ ?_
  · refine sm_aload_n (i := 0) (j := 0) (pc' := 19) dX12_instance_18 rfl rfl rfl ?_
    refine sm_getR (k := 15) (pc' := 22) kX12 (by decide) mw667 dX12_instance_19 rfl (fun x4 => ?_)
    refine sm_iload_n (i := 1) (j := 1) (pc' := 23) dX12_instance_22 rfl rfl rfl ?_
    refine sm_iald (t := 0) (pc' := 24) rfl dX12_instance_23 rfl (fun x5 => ?_)
    refine sm_if_ge (tgt := 40) (pc' := 27) dX12_instance_24 (by decide) rfl ?_ ?_
    · refine sm_aload_n (i := 0) (j := 0) (pc' := 41) dX12_instance_40 rfl rfl rfl ?_
      refine sm_aload_n (i := 0) (j := 0) (pc' := 42) dX12_instance_41 rfl rfl rfl ?_
      refine sm_getR (k := 15) (pc' := 45) kX12 (by decide) mw667 dX12_instance_42 rfl (fun x6 => ?_)
      refine sm_iload_n (i := 1) (j := 1) (pc' := 46) dX12_instance_45 rfl rfl rfl ?_
      refine sm_iald (t := 0) (pc' := 47) rfl dX12_instance_46 rfl (fun x7 => ?_)
      refine sm_iload_n (i := 2) (j := 2) (pc' := 48) dX12_instance_47 rfl rfl rfl ?_
      refine sm_i2l (pc' := 49) dX12_instance_48 rfl ?_
      refine sm_cVI (pc' := 52) (ci := 12) (st := []) (F := fun b => fX12_placeOf b x7 (a2.toInt64) h3) [vI x7, vJ (a2.toInt64)] yY_yX12_placeOf rfl mw736 mw737 mw738 (fun b => mX12_placeOf l D aC B b x7 (a2.toInt64) h3) rfl (by decide) (by decide) (by exact Nat.le_of_ble_eq_true rfl) rfl dX12_instance_49 rfl (fun x8 h9 => ?_)
      refine sm_istore_n (i := 3) (lv' := [(3, vI x8), (0, vR (some a0)), (1, vI a1), (2, vI a2)]) (pc' := 53) dX12_instance_52 rfl rfl (by decide) rfl ?_
      refine sm_iload_n (i := 3) (j := 0) (pc' := 54) dX12_instance_53 rfl rfl rfl ?_
      refine sm_if_ge (tgt := 61) (pc' := 57) dX12_instance_54 (by decide) rfl ?_ ?_
      · refine sm_bipush (v := (16 : Int32)) (pc' := 63) dX12_instance_61 rfl (by decide) ?_
        refine sm_iload_n (i := 1) (j := 2) (pc' := 64) dX12_instance_63 rfl rfl rfl ?_
        refine sm_imul (pc' := 65) dX12_instance_64 rfl ?_
        refine sm_iload_n (i := 3) (j := 0) (pc' := 66) dX12_instance_65 rfl rfl rfl ?_
        refine sm_iadd (pc' := 67) dX12_instance_66 rfl ?_
        exact sm_iret rfl dX12_instance_67
      refine sm_iconst (v := (-1 : Int32)) (pc' := 58) dX12_instance_57 rfl (by decide) ?_
      refine sm_goto (pc' := 67) dX12_instance_58 (by decide) ?_
      exact sm_iret rfl dX12_instance_67
    refine sm_iload_n (i := 2) (j := 2) (pc' := 28) dX12_instance_27 rfl rfl rfl ?_
    refine sm_if_ne (tgt := 38) (pc' := 31) dX12_instance_28 (by decide) rfl ?_ ?_
    · refine sm_iconst (v := (-1 : Int32)) (pc' := 39) dX12_instance_38 rfl (by decide) ?_
      exact sm_iret rfl dX12_instance_39
    refine sm_bipush (v := (16 : Int32)) (pc' := 33) dX12_instance_31 rfl (by decide) ?_
    refine sm_iload_n (i := 1) (j := 1) (pc' := 34) dX12_instance_33 rfl rfl rfl ?_
    refine sm_imul (pc' := 35) dX12_instance_34 rfl ?_
    refine sm_goto (pc' := 39) dX12_instance_35 (by decide) ?_
    exact sm_iret rfl dX12_instance_39
  refine sm_iconst (v := (-1 : Int32)) (pc' := 17) dX12_instance_16 rfl (by decide) ?_
  exact sm_iret rfl dX12_instance_17
set_option maxRecDepth 100000 in
theorem mX12_instance (l : Launch) (D : va_G) (aC : Nat → ClassId) (B : Nat) (a0 : Nat) (a1 : Int32) (a2 : Int32) (h : sm_H) : sm_M l D vwCl gAts aC B gTs gNs gOs yX12_instance cX12_instance 4 (some .int) 1 25 vlI [vR (some a0), vI a1, vI a2] h (fX12_instance a0 a1 a2 h) := sm_meth [vR (some a0), vI a1, vI a2] yY_yX12_instance gG gN (Nat.le_of_ble_eq_true rfl) rfl (sX12_instance_0 l D aC B a0 a1 a2 h)
