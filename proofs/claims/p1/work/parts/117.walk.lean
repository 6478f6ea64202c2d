-- M:TreeAgentModel.around(I)I
noncomputable def fX12_around  (a0 : Int32) (h : sm_H) : Option (Int32 × sm_H) :=
  if (128 : Int32) ≤ a0 then (
    if (256 : Int32) ≤ a0 then (
      some (a0 + (4 : Int32), h)
    ) else
    some (a0 + (3 : Int32), h)
  ) else
  some (a0 + (2 : Int32), h)
set_option maxRecDepth 100000 in
set_option maxHeartbeats 4000000 in
theorem sX12_around_0 (l : Launch) (D : va_G) (aC : Nat → ClassId) (B : Nat)   (a0 : Int32) (h : sm_H) : zS l D aC B cX12_around 1 RX12 0 0 (some .int) "around" vlI (fX12_around a0 h) 0 [(0, vI a0)] [] h := by
  unfold fX12_around
  refine sm_iload_n (i := 0) (j := 0) (pc' := 1) dX12_around_0 rfl rfl rfl ?_
  refine sm_sipush (v := (128 : Int32)) (pc' := 4) dX12_around_1 rfl (by decide) ?_
  refine sm_icmp_ge (tgt := 13) (pc' := 7) dX12_around_4 (by decide) rfl ?_ ?_
  · refine sm_iload_n (i := 0) (j := 0) (pc' := 14) dX12_around_13 rfl rfl rfl ?_
    refine sm_sipush (v := (256 : Int32)) (pc' := 17) dX12_around_14 rfl (by decide) ?_
    refine sm_icmp_ge (tgt := 26) (pc' := 20) dX12_around_17 (by decide) rfl ?_ ?_
    · refine sm_iload_n (i := 0) (j := 0) (pc' := 27) dX12_around_26 rfl rfl rfl ?_
      refine sm_iconst (v := (4 : Int32)) (pc' := 28) dX12_around_27 rfl (by decide) ?_
      refine sm_iadd (pc' := 29) dX12_around_28 rfl ?_
      exact sm_iret rfl dX12_around_29
    refine sm_iload_n (i := 0) (j := 0) (pc' := 21) dX12_around_20 rfl rfl rfl ?_
    refine sm_iconst (v := (3 : Int32)) (pc' := 22) dX12_around_21 rfl (by decide) ?_
    refine sm_iadd (pc' := 23) dX12_around_22 rfl ?_
    refine sm_goto (pc' := 29) dX12_around_23 (by decide) ?_
    exact sm_iret rfl dX12_around_29
  refine sm_iload_n (i := 0) (j := 0) (pc' := 8) dX12_around_7 rfl rfl rfl ?_
  refine sm_iconst (v := (2 : Int32)) (pc' := 9) dX12_around_8 rfl (by decide) ?_
  refine sm_iadd (pc' := 10) dX12_around_9 rfl ?_
  refine sm_goto (pc' := 29) dX12_around_10 (by decide) ?_
  exact sm_iret rfl dX12_around_29
set_option maxRecDepth 100000 in
theorem mX12_around (l : Launch) (D : va_G) (aC : Nat → ClassId) (B : Nat) (a0 : Int32) (h : sm_H) : sm_M l D vwCl gAts aC B gTs gNs gOs yX12_around cX12_around 1 (some .int) 0 0 vlI [vI a0] h (fX12_around a0 h) := sm_meth [vI a0] yY_yX12_around gG gN (Nat.le_of_ble_eq_true rfl) rfl (sX12_around_0 l D aC B a0 h)
-- M:TreeAgentModel.numberSize(JZ)I
noncomputable def fX12_numberSize_15  : Nat → Int64 → Int32 → sm_H → Option (Int32 × sm_H)
  | 0 => fun _ _ _ => none
  | n + 1 => fun a0 a3 h =>
    if (8 : Int32) ≤ a3 then (
      some (a3, h)
    ) else
    if (lg_cmp (a0 >>> ((((8 : Int32) * a3) - (1 : Int32)).toInt64 &&& 63)) (0 : Int64)) = 0 then (
      some (a3, h)
    ) else
    if (lg_cmp (a0 >>> ((((8 : Int32) * a3) - (1 : Int32)).toInt64 &&& 63)) (-1 : Int64)) = 0 then (
      some (a3, h)
    ) else
    sm_let (a3 + (1 : Int32)) fun x1 =>
    (fX12_numberSize_15 n) a0 x1 h
set_option maxRecDepth 100000 in
set_option maxHeartbeats 4000000 in
theorem sX12_numberSize_15 (l : Launch) (D : va_G) (aC : Nat → ClassId) (B : Nat)   (n : Nat) : ∀ (a0 : Int64) (a3 : Int32) (h : sm_H), zS l D aC B cX12_numberSize 4 RX12 0 0 (some .int) "numberSize" vlI (fX12_numberSize_15 n a0 a3 h) 15 [(0, vJ a0), (3, vI a3)] [] h := by
  induction n with
  | zero => intro a0 a3 h; exact sm_none
  | succ n ih =>
    intro a0 a3 h
    show zS l D aC B cX12_numberSize 4 RX12 0 0 (some .int) "numberSize" vlI (fX12_numberSize_15 (n + 1) a0 a3 h) 15 [(0, vJ a0), (3, vI a3)] [] h
    unfold fX12_numberSize_15
    refine sm_iload_n (i := 3) (j := 1) (pc' := 16) dX12_numberSize_15 rfl rfl rfl ?_
    refine sm_bipush (v := (8 : Int32)) (pc' := 18) dX12_numberSize_16 rfl (by decide) ?_
    refine sm_icmp_ge (tgt := 55) (pc' := 21) dX12_numberSize_18 (by decide) rfl ?_ ?_
    · refine sm_iload_n (i := 3) (j := 1) (pc' := 56) dX12_numberSize_55 rfl rfl rfl ?_
      exact sm_iret rfl dX12_numberSize_56
    refine sm_lload_n (i := 0) (j := 0) (pc' := 22) dX12_numberSize_21 rfl rfl rfl ?_
    refine sm_bipush (v := (8 : Int32)) (pc' := 24) dX12_numberSize_22 rfl (by decide) ?_
    refine sm_iload_n (i := 3) (j := 1) (pc' := 25) dX12_numberSize_24 rfl rfl rfl ?_
    refine sm_imul (pc' := 26) dX12_numberSize_25 rfl ?_
    refine sm_iconst (v := (1 : Int32)) (pc' := 27) dX12_numberSize_26 rfl (by decide) ?_
    refine sm_isub (pc' := 28) dX12_numberSize_27 rfl ?_
    refine sm_lshr (pc' := 29) dX12_numberSize_28 rfl ?_
    refine sm_lconst (v := (0 : Int64)) (pc' := 30) dX12_numberSize_29 rfl (by decide) ?_
    refine sm_lcmp (pc' := 31) dX12_numberSize_30 rfl ?_
    refine sm_if_eq (tgt := 55) (pc' := 34) dX12_numberSize_31 (by decide) rfl ?_ ?_
    · refine sm_iload_n (i := 3) (j := 1) (pc' := 56) dX12_numberSize_55 rfl rfl rfl ?_
      exact sm_iret rfl dX12_numberSize_56
    refine sm_lload_n (i := 0) (j := 0) (pc' := 35) dX12_numberSize_34 rfl rfl rfl ?_
    refine sm_bipush (v := (8 : Int32)) (pc' := 37) dX12_numberSize_35 rfl (by decide) ?_
    refine sm_iload_n (i := 3) (j := 1) (pc' := 38) dX12_numberSize_37 rfl rfl rfl ?_
    refine sm_imul (pc' := 39) dX12_numberSize_38 rfl ?_
    refine sm_iconst (v := (1 : Int32)) (pc' := 40) dX12_numberSize_39 rfl (by decide) ?_
    refine sm_isub (pc' := 41) dX12_numberSize_40 rfl ?_
    refine sm_lshr (pc' := 42) dX12_numberSize_41 rfl ?_
    refine sm_ldc2 (v := (-1 : Int64)) (pc' := 45) dX12_numberSize_42 rfl mw704 ?_
    refine sm_lcmp (pc' := 46) dX12_numberSize_45 rfl ?_
    refine sm_if_eq (tgt := 55) (pc' := 49) dX12_numberSize_46 (by decide) rfl ?_ ?_
    · refine sm_iload_n (i := 3) (j := 1) (pc' := 56) dX12_numberSize_55 rfl rfl rfl ?_
      exact sm_iret rfl dX12_numberSize_56
    refine sm_iincL (i := 3) (j := 1) (x := a3) (d := (1 : Int32)) (fun x1 => [(3, vI x1), (0, vJ a0)]) (pc' := 52) dX12_numberSize_49 rfl rfl (by decide) (by decide) (fun _ => rfl) (fun x1 => ?_)
    refine sm_goto (pc' := 15) dX12_numberSize_52 (by decide) ?_
    refine sm_lo (lv' := [(0, vJ a0), (3, vI x1)]) [1, 0] rfl ?_
    exact ih a0 x1 h
noncomputable def fX12_numberSize  (a0 : Int64) (a2 : Int32) (h : sm_H) : Option (Int32 × sm_H) :=
  if a2 = 0 then (
    fX12_numberSize_15 sm_fuel a0 (1 : Int32) h
  ) else
  if 0 ≤ (lg_cmp a0 (0 : Int64)) then (
    fX12_numberSize_15 sm_fuel a0 (1 : Int32) h
  ) else
  some ((9 : Int32), h)
set_option maxRecDepth 100000 in
set_option maxHeartbeats 4000000 in
theorem sX12_numberSize_0 (l : Launch) (D : va_G) (aC : Nat → ClassId) (B : Nat)   (a0 : Int64) (a2 : Int32) (h : sm_H) : zS l D aC B cX12_numberSize 4 RX12 0 0 (some .int) "numberSize" vlI (fX12_numberSize a0 a2 h) 0 [(0, vJ a0), (2, vI a2)] [] h := by
  unfold fX12_numberSize
  refine sm_iload_n (i := 2) (j := 1) (pc' := 1) dX12_numberSize_0 rfl rfl rfl ?_
  refine sm_if_eq (tgt := 13) (pc' := 4) dX12_numberSize_1 (by decide) rfl ?_ ?_
  · refine sm_iconst (v := (1 : Int32)) (pc' := 14) dX12_numberSize_13 rfl (by decide) ?_
    refine sm_istore_n (i := 3) (lv' := [(3, vI (1 : Int32)), (0, vJ a0), (2, vI a2)]) (pc' := 15) dX12_numberSize_14 rfl rfl (by decide) rfl ?_
    refine sm_lo (lv' := [(0, vJ a0), (3, vI (1 : Int32))]) [1, 0] rfl ?_
    exact sX12_numberSize_15 l D aC B   sm_fuel a0 (1 : Int32) h
  refine sm_lload_n (i := 0) (j := 0) (pc' := 5) dX12_numberSize_4 rfl rfl rfl ?_
  refine sm_lconst (v := (0 : Int64)) (pc' := 6) dX12_numberSize_5 rfl (by decide) ?_
  refine sm_lcmp (pc' := 7) dX12_numberSize_6 rfl ?_
  refine sm_if_ge (tgt := 13) (pc' := 10) dX12_numberSize_7 (by decide) rfl ?_ ?_
  · refine sm_iconst (v := (1 : Int32)) (pc' := 14) dX12_numberSize_13 rfl (by decide) ?_
    refine sm_istore_n (i := 3) (lv' := [(3, vI (1 : Int32)), (0, vJ a0), (2, vI a2)]) (pc' := 15) dX12_numberSize_14 rfl rfl (by decide) rfl ?_
    refine sm_lo (lv' := [(0, vJ a0), (3, vI (1 : Int32))]) [1, 0] rfl ?_
    exact sX12_numberSize_15 l D aC B   sm_fuel a0 (1 : Int32) h
  refine sm_bipush (v := (9 : Int32)) (pc' := 12) dX12_numberSize_10 rfl (by decide) ?_
  exact sm_iret rfl dX12_numberSize_12
set_option maxRecDepth 100000 in
theorem mX12_numberSize (l : Launch) (D : va_G) (aC : Nat → ClassId) (B : Nat) (a0 : Int64) (a2 : Int32) (h : sm_H) : sm_M l D vwCl gAts aC B gTs gNs gOs yX12_numberSize cX12_numberSize 4 (some .int) 0 0 vlI [vJ a0, vI a2] h (fX12_numberSize a0 a2 h) := sm_meth [vJ a0, vI a2] yY_yX12_numberSize gG gN (Nat.le_of_ble_eq_true rfl) rfl (sX12_numberSize_0 l D aC B a0 a2 h)
-- M:TreeAgentModel.partSize(J)I
noncomputable def fX12_partSize_2  : Nat → Int64 → Int32 → sm_H → Option (Int32 × sm_H)
  | 0 => fun _ _ _ => none
  | n + 1 => fun a0 a2 h =>
    if (lg_cmp (a0 >>> (((7 : Int32) * a2).toInt64 &&& 63)) (0 : Int64)) ≤ 0 then (
      some (a2, h)
    ) else
    sm_let (a2 + (1 : Int32)) fun x1 =>
    (fX12_partSize_2 n) a0 x1 h
set_option maxRecDepth 100000 in
set_option maxHeartbeats 4000000 in
theorem sX12_partSize_2 (l : Launch) (D : va_G) (aC : Nat → ClassId) (B : Nat)   (n : Nat) : ∀ (a0 : Int64) (a2 : Int32) (h : sm_H), zS l D aC B cX12_partSize 3 RX12 0 0 (some .int) "partSize" vlI (fX12_partSize_2 n a0 a2 h) 2 [(0, vJ a0), (2, vI a2)] [] h := by
  induction n with
  | zero => intro a0 a2 h; exact sm_none
  | succ n ih =>
    intro a0 a2 h
    show zS l D aC B cX12_partSize 3 RX12 0 0 (some .int) "partSize" vlI (fX12_partSize_2 (n + 1) a0 a2 h) 2 [(0, vJ a0), (2, vI a2)] [] h
    unfold fX12_partSize_2
    refine sm_lload_n (i := 0) (j := 0) (pc' := 3) dX12_partSize_2 rfl rfl rfl ?_
    refine sm_bipush (v := (7 : Int32)) (pc' := 5) dX12_partSize_3 rfl (by decide) ?_
    refine sm_iload_n (i := 2) (j := 1) (pc' := 6) dX12_partSize_5 rfl rfl rfl ?_
    refine sm_imul (pc' := 7) dX12_partSize_6 rfl ?_
    refine sm_lshr (pc' := 8) dX12_partSize_7 rfl ?_
    refine sm_lconst (v := (0 : Int64)) (pc' := 9) dX12_partSize_8 rfl (by decide) ?_
    refine sm_lcmp (pc' := 10) dX12_partSize_9 rfl ?_
    refine sm_if_le (tgt := 19) (pc' := 13) dX12_partSize_10 (by decide) rfl ?_ ?_
    · refine sm_iload_n (i := 2) (j := 1) (pc' := 20) dX12_partSize_19 rfl rfl rfl ?_
      exact sm_iret rfl dX12_partSize_20
    refine sm_iincL (i := 2) (j := 1) (x := a2) (d := (1 : Int32)) (fun x1 => [(2, vI x1), (0, vJ a0)]) (pc' := 16) dX12_partSize_13 rfl rfl (by decide) (by decide) (fun _ => rfl) (fun x1 => ?_)
    refine sm_goto (pc' := 2) dX12_partSize_16 (by decide) ?_
    refine sm_lo (lv' := [(0, vJ a0), (2, vI x1)]) [1, 0] rfl ?_
    exact ih a0 x1 h
noncomputable def fX12_partSize  (a0 : Int64) (h : sm_H) : Option (Int32 × sm_H) :=
  fX12_partSize_2 sm_fuel a0 (1 : Int32) h
set_option maxRecDepth 100000 in
set_option maxHeartbeats 4000000 in
theorem sX12_partSize_0 (l : Launch) (D : va_G) (aC : Nat → ClassId) (B : Nat)   (a0 : Int64) (h : sm_H) : zS l D aC B cX12_partSize 3 RX12 0 0 (some .int) "partSize" vlI (fX12_partSize a0 h) 0 [(0, vJ a0)] [] h := by
  unfold fX12_partSize
  refine sm_iconst (v := (1 : Int32)) (pc' := 1) dX12_partSize_0 rfl (by decide) ?_
  refine sm_istore_n (i := 2) (lv' := [(2, vI (1 : Int32)), (0, vJ a0)]) (pc' := 2) dX12_partSize_1 rfl rfl (by decide) rfl ?_
  refine sm_lo (lv' := [(0, vJ a0), (2, vI (1 : Int32))]) [1, 0] rfl ?_
  exact sX12_partSize_2 l D aC B   sm_fuel a0 (1 : Int32) h
set_option maxRecDepth 100000 in
theorem mX12_partSize (l : Launch) (D : va_G) (aC : Nat → ClassId) (B : Nat) (a0 : Int64) (h : sm_H) : sm_M l D vwCl gAts aC B gTs gNs gOs yX12_partSize cX12_partSize 3 (some .int) 0 0 vlI [vJ a0] h (fX12_partSize a0 h) := sm_meth [vJ a0] yY_yX12_partSize gG gN (Nat.le_of_ble_eq_true rfl) rfl (sX12_partSize_0 l D aC B a0 h)
-- M:TreeAgentModel.nameOctets([JII)I
noncomputable def fX12_nameOctets_5  : Nat → Option Nat → Int32 → Int32 → Int32 → Int32 → sm_H → Option (Int32 × sm_H)
  | 0 => fun _ _ _ _ _ _ => none
  | n + 1 => fun a0 a1 a2 a3 a4 h =>
    if a2 ≤ a4 then (
      some (a3, h)
    ) else
    (sm_aJ h a0 1 (a1 + a4)).bind fun x1 =>
    sm_cb (fX12_partSize x1 h) fun x2 h3 =>
    sm_let (a3 + x2) fun x4 =>
    sm_let (a4 + (1 : Int32)) fun x5 =>
    (fX12_nameOctets_5 n) a0 a1 a2 x4 x5 h3
set_option maxRecDepth 100000 in
set_option maxHeartbeats 4000000 in
theorem sX12_nameOctets_5 (l : Launch) (D : va_G) (aC : Nat → ClassId) (B : Nat)   (n : Nat) : ∀ (a0 : Option Nat) (a1 : Int32) (a2 : Int32) (a3 : Int32) (a4 : Int32) (h : sm_H), zS l D aC B cX12_nameOctets 5 RX12 1 22 (some .int) "nameOctets" vlI (fX12_nameOctets_5 n a0 a1 a2 a3 a4 h) 5 [(0, vR a0), (1, vI a1), (2, vI a2), (3, vI a3), (4, vI a4)] [] h := by
  induction n with
  | zero => intro a0 a1 a2 a3 a4 h; exact sm_none
  | succ n ih =>
    intro a0 a1 a2 a3 a4 h
    show zS l D aC B cX12_nameOctets 5 RX12 1 22 (some .int) "nameOctets" vlI (fX12_nameOctets_5 (n + 1) a0 a1 a2 a3 a4 h) 5 [(0, vR a0), (1, vI a1), (2, vI a2), (3, vI a3), (4, vI a4)] [] h
    unfold fX12_nameOctets_5
    refine sm_iload (i := 4) (j := 4) (pc' := 7) dX12_nameOctets_5 rfl rfl ?_
    refine sm_iload_n (i := 2) (j := 2) (pc' := 8) dX12_nameOctets_7 rfl rfl rfl ?_
    refine sm_icmp_ge (tgt := 29) (pc' := 11) dX12_nameOctets_8 (by decide) rfl ?_ ?_
    · refine sm_iload_n (i := 3) (j := 3) (pc' := 30) dX12_nameOctets_29 rfl rfl rfl ?_
      exact sm_iret rfl dX12_nameOctets_30
    refine sm_iload_n (i := 3) (j := 3) (pc' := 12) dX12_nameOctets_11 rfl rfl rfl ?_
    refine sm_aload_n (i := 0) (j := 0) (pc' := 13) dX12_nameOctets_12 rfl rfl rfl ?_
    refine sm_iload_n (i := 1) (j := 1) (pc' := 14) dX12_nameOctets_13 rfl rfl rfl ?_
    refine sm_iload (i := 4) (j := 4) (pc' := 16) dX12_nameOctets_14 rfl rfl ?_
    refine sm_iadd (pc' := 17) dX12_nameOctets_16 rfl ?_
    refine sm_lald (t := 1) (pc' := 18) rfl dX12_nameOctets_17 rfl (fun x1 => ?_)
    refine sm_cSI (pc' := 21) (st := [vI a3]) [vJ x1] yY_yX12_partSize mw821 mw822 (mX12_partSize l D aC B x1 h) rfl (by decide) (by decide) (by exact Nat.le_of_ble_eq_true rfl) rfl dX12_nameOctets_18 rfl (fun x2 h3 => ?_)
    refine sm_iadd (pc' := 22) dX12_nameOctets_21 rfl ?_
    refine sm_letIv (fun x4 => ?_)
    refine sm_istore_n (i := 3) (lv' := [(3, vI x4), (0, vR a0), (1, vI a1), (2, vI a2), (4, vI a4)]) (pc' := 23) dX12_nameOctets_22 rfl rfl (by decide) rfl ?_
    refine sm_iincL (i := 4) (j := 4) (x := a4) (d := (1 : Int32)) (fun x5 => [(4, vI x5), (3, vI x4), (0, vR a0), (1, vI a1), (2, vI a2)]) (pc' := 26) dX12_nameOctets_23 rfl rfl (by decide) (by decide) (fun _ => rfl) (fun x5 => ?_)
    refine sm_goto (pc' := 5) dX12_nameOctets_26 (by decide) ?_
    refine sm_lo (lv' := [(0, vR a0), (1, vI a1), (2, vI a2), (3, vI x4), (4, vI x5)]) [2, 3, 4, 1, 0] rfl ?_
    exact ih a0 a1 a2 x4 x5 h3
noncomputable def fX12_nameOctets  (a0 : Option Nat) (a1 : Int32) (a2 : Int32) (h : sm_H) : Option (Int32 × sm_H) :=
  fX12_nameOctets_5 sm_fuel a0 a1 a2 (1 : Int32) (2 : Int32) h
set_option maxRecDepth 100000 in
set_option maxHeartbeats 4000000 in
theorem sX12_nameOctets_0 (l : Launch) (D : va_G) (aC : Nat → ClassId) (B : Nat)   (a0 : Option Nat) (a1 : Int32) (a2 : Int32) (h : sm_H) : zS l D aC B cX12_nameOctets 5 RX12 1 22 (some .int) "nameOctets" vlI (fX12_nameOctets a0 a1 a2 h) 0 [(0, vR a0), (1, vI a1), (2, vI a2)] [] h := by
  unfold fX12_nameOctets
  refine sm_iconst (v := (1 : Int32)) (pc' := 1) dX12_nameOctets_0 rfl (by decide) ?_
  refine sm_istore_n (i := 3) (lv' := [(3, vI (1 : Int32)), (0, vR a0), (1, vI a1), (2, vI a2)]) (pc' := 2) dX12_nameOctets_1 rfl rfl (by decide) rfl ?_
  refine sm_iconst (v := (2 : Int32)) (pc' := 3) dX12_nameOctets_2 rfl (by decide) ?_
  refine sm_istore (i := 4) (lv' := [(4, vI (2 : Int32)), (3, vI (1 : Int32)), (0, vR a0), (1, vI a1), (2, vI a2)]) (pc' := 5) dX12_nameOctets_3 rfl (by decide) rfl ?_
  refine sm_lo (lv' := [(0, vR a0), (1, vI a1), (2, vI a2), (3, vI (1 : Int32)), (4, vI (2 : Int32))]) [2, 3, 4, 1, 0] rfl ?_
  exact sX12_nameOctets_5 l D aC B   sm_fuel a0 a1 a2 (1 : Int32) (2 : Int32) h
set_option maxRecDepth 100000 in
theorem mX12_nameOctets (l : Launch) (D : va_G) (aC : Nat → ClassId) (B : Nat) (a0 : Option Nat) (a1 : Int32) (a2 : Int32) (h : sm_H) : sm_M l D vwCl gAts aC B gTs gNs gOs yX12_nameOctets cX12_nameOctets 5 (some .int) 1 22 vlI [vR a0, vI a1, vI a2] h (fX12_nameOctets a0 a1 a2 h) := sm_meth [vR a0, vI a1, vI a2] yY_yX12_nameOctets gG gN (Nat.le_of_ble_eq_true rfl) rfl (sX12_nameOctets_0 l D aC B a0 a1 a2 h)
-- M:TreeAgentModel.valueOctets(I)I
noncomputable def fX12_valueOctets  (a0 : Nat) (a1 : Int32) (h : sm_H) : Option (Int32 × sm_H) :=
  (sm_R (sm_get h (some a0) 12 38)).bind fun x1 =>
  (sm_aI h x1 0 a1).bind fun x2 =>
  if x2 = (5 : Int32) then (
    some ((0 : Int32), h)
  ) else
  if x2 ≤ (127 : Int32) then (
    if x2 = (4 : Int32) then (
      (sm_R (sm_get h (some a0) 12 41)).bind fun x14 =>
      (sm_aI h x14 0 a1).bind fun x15 =>
      some (x15, h)
    ) else
    if x2 = (6 : Int32) then (
      (sm_R (sm_get h (some a0) 12 42)).bind fun x9 =>
      (sm_R (sm_get h (some a0) 12 43)).bind fun x10 =>
      (sm_aI h x10 0 a1).bind fun x11 =>
      sm_cb (fX12_nameOctets x9 ((16 : Int32) * a1) x11 h) fun x12 h13 =>
      some (x12, h13)
    ) else
    if x2 = (64 : Int32) then (
      some ((4 : Int32), h)
    ) else
    (sm_R (sm_get h (some a0) 12 39)).bind fun x3 =>
    (sm_aJ h x3 1 a1).bind fun x4 =>
    if x2 = (70 : Int32) then (
      sm_cb (fX12_numberSize x4 (1 : Int32) h) fun x7 h8 =>
      some (x7, h8)
    ) else
    sm_cb (fX12_numberSize x4 (0 : Int32) h) fun x5 h6 =>
    some (x5, h6)
  ) else
  some ((0 : Int32), h)
set_option maxRecDepth 100000 in
set_option maxHeartbeats 4000000 in
theorem sX12_valueOctets_0 (l : Launch) (D : va_G) (aC : Nat → ClassId) (B : Nat)   (a0 : Nat) (a1 : Int32) (h : sm_H) : zS l D aC B cX12_valueOctets 3 RX12 2 46 (some .int) "valueOctets" vlI (fX12_valueOctets a0 a1 h) 0 [(0, vR (some a0)), (1, vI a1)] [] h := by
  unfold fX12_valueOctets
  refine sm_aload_n (i := 0) (j := 0) (pc' := 1) dX12_valueOctets_0 rfl rfl rfl ?_
  refine sm_getR (k := 38) (pc' := 4) kX12 (by decide) mw688 dX12_valueOctets_1 rfl (fun x1 => ?_)
  refine sm_iload_n (i := 1) (j := 1) (pc' := 5) dX12_valueOctets_4 rfl rfl rfl ?_
  refine sm_iald (t := 0) (pc' := 6) rfl dX12_valueOctets_5 rfl (fun x2 => ?_)
  refine sm_istore_n (i := 2) (lv' := [(2, vI x2), (0, vR (some a0)), (1, vI a1)]) (pc' := 7) dX12_valueOctets_6 rfl rfl (by decide) rfl ?_
  refine sm_iload_n (i := 2) (j := 0) (pc' := 8) dX12_valueOctets_7 rfl rfl rfl ?_
  refine sm_iconst (v := (5 : Int32)) (pc' := 9) dX12_valueOctets_8 rfl (by decide) ?_
  refine sm_icmp_eq (tgt := 18) (pc' := 12) dX12_valueOctets_9 (by decide) rfl ?_ ?_
  · refine sm_iconst (v := (0 : Int32)) (pc' := 19) dX12_valueOctets_18 rfl (by decide) ?_
    refine sm_goto (pc' := 92) dX12_valueOctets_19 (by decide) ?_
    exact sm_iret rfl dX12_valueOctets_92
  refine sm_iload_n (i := 2) (j := 0) (pc' := 13) dX12_valueOctets_12 rfl rfl rfl ?_
  refine sm_bipush (v := (127 : Int32)) (pc' := 15) dX12_valueOctets_13 rfl (by decide) ?_
  refine sm_icmp_le (tgt := 22) (pc' := 18) dX12_valueOctets_15 (by decide) rfl ?_ ?_
  · refine sm_iload_n (i := 2) (j := 0) (pc' := 23) dX12_valueOctets_22 rfl rfl rfl ?_
    refine sm_iconst (v := (4 : Int32)) (pc' := 24) dX12_valueOctets_23 rfl (by decide) ?_
    refine sm_icmp_ne (tgt := 36) (pc' := 27) dX12_valueOctets_24 (by decide) rfl ?_ ?_
    · refine sm_iload_n (i := 2) (j := 0) (pc' := 37) dX12_valueOctets_36 rfl rfl rfl ?_
      refine sm_bipush (v := (6 : Int32)) (pc' := 39) dX12_valueOctets_37 rfl (by decide) ?_
      refine sm_icmp_ne (tgt := 62) (pc' := 42) dX12_valueOctets_39 (by decide) rfl ?_ ?_
      · refine sm_iload_n (i := 2) (j := 0) (pc' := 63) dX12_valueOctets_62 rfl rfl rfl ?_
        refine sm_bipush (v := (64 : Int32)) (pc' := 65) dX12_valueOctets_63 rfl (by decide) ?_
        refine sm_icmp_ne (tgt := 72) (pc' := 68) dX12_valueOctets_65 (by decide) rfl ?_ ?_
        · refine sm_aload_n (i := 0) (j := 1) (pc' := 73) dX12_valueOctets_72 rfl rfl rfl ?_
          refine sm_getR (k := 39) (pc' := 76) kX12 (by decide) mw689 dX12_valueOctets_73 rfl (fun x3 => ?_)
          refine sm_iload_n (i := 1) (j := 2) (pc' := 77) dX12_valueOctets_76 rfl rfl rfl ?_
          refine sm_lald (t := 1) (pc' := 78) rfl dX12_valueOctets_77 rfl (fun x4 => ?_)
          refine sm_iload_n (i := 2) (j := 0) (pc' := 79) dX12_valueOctets_78 rfl rfl rfl ?_
          refine sm_bipush (v := (70 : Int32)) (pc' := 81) dX12_valueOctets_79 rfl (by decide) ?_
          refine sm_icmp_ne (tgt := 88) (pc' := 84) dX12_valueOctets_81 (by decide) rfl ?_ ?_
          · refine sm_iconst (v := (0 : Int32)) (pc' := 89) dX12_valueOctets_88 rfl (by decide) ?_
            refine sm_cSI (pc' := 92) (st := []) [vJ x4, vI (0 : Int32)] yY_yX12_numberSize mw823 mw824 (mX12_numberSize l D aC B x4 (0 : Int32) h) rfl (by decide) (by decide) (by exact Nat.le_of_ble_eq_true rfl) rfl dX12_valueOctets_89 rfl (fun x5 h6 => ?_)
            exact sm_iret rfl dX12_valueOctets_92
          refine sm_iconst (v := (1 : Int32)) (pc' := 85) dX12_valueOctets_84 rfl (by decide) ?_
          refine sm_goto (pc' := 89) dX12_valueOctets_85 (by decide) ?_
          refine sm_cSI (pc' := 92) (st := []) [vJ x4, vI (1 : Int32)] yY_yX12_numberSize mw823 mw824 (mX12_numberSize l D aC B x4 (1 : Int32) h) rfl (by decide) (by decide) (by exact Nat.le_of_ble_eq_true rfl) rfl dX12_valueOctets_89 rfl (fun x7 h8 => ?_)
          exact sm_iret rfl dX12_valueOctets_92
        refine sm_iconst (v := (4 : Int32)) (pc' := 69) dX12_valueOctets_68 rfl (by decide) ?_
        refine sm_goto (pc' := 92) dX12_valueOctets_69 (by decide) ?_
        exact sm_iret rfl dX12_valueOctets_92
      refine sm_aload_n (i := 0) (j := 1) (pc' := 43) dX12_valueOctets_42 rfl rfl rfl ?_
      refine sm_getR (k := 42) (pc' := 46) kX12 (by decide) mw692 dX12_valueOctets_43 rfl (fun x9 => ?_)
      refine sm_bipush (v := (16 : Int32)) (pc' := 48) dX12_valueOctets_46 rfl (by decide) ?_
      refine sm_iload_n (i := 1) (j := 2) (pc' := 49) dX12_valueOctets_48 rfl rfl rfl ?_
      refine sm_imul (pc' := 50) dX12_valueOctets_49 rfl ?_
      refine sm_aload_n (i := 0) (j := 1) (pc' := 51) dX12_valueOctets_50 rfl rfl rfl ?_
      refine sm_getR (k := 43) (pc' := 54) kX12 (by decide) mw693 dX12_valueOctets_51 rfl (fun x10 => ?_)
      refine sm_iload_n (i := 1) (j := 2) (pc' := 55) dX12_valueOctets_54 rfl rfl rfl ?_
      refine sm_iald (t := 0) (pc' := 56) rfl dX12_valueOctets_55 rfl (fun x11 => ?_)
      refine sm_cSI (pc' := 59) (st := []) [vR x9, vI ((16 : Int32) * a1), vI x11] yY_yX12_nameOctets mw825 mw826 (mX12_nameOctets l D aC B x9 ((16 : Int32) * a1) x11 h) rfl (by decide) (by decide) (by exact Nat.le_of_ble_eq_true rfl) rfl dX12_valueOctets_56 rfl (fun x12 h13 => ?_)
      refine sm_goto (pc' := 92) dX12_valueOctets_59 (by decide) ?_
      exact sm_iret rfl dX12_valueOctets_92
    refine sm_aload_n (i := 0) (j := 1) (pc' := 28) dX12_valueOctets_27 rfl rfl rfl ?_
    refine sm_getR (k := 41) (pc' := 31) kX12 (by decide) mw691 dX12_valueOctets_28 rfl (fun x14 => ?_)
    refine sm_iload_n (i := 1) (j := 2) (pc' := 32) dX12_valueOctets_31 rfl rfl rfl ?_
    refine sm_iald (t := 0) (pc' := 33) rfl dX12_valueOctets_32 rfl (fun x15 => ?_)
    refine sm_goto (pc' := 92) dX12_valueOctets_33 (by decide) ?_
    exact sm_iret rfl dX12_valueOctets_92
  refine sm_iconst (v := (0 : Int32)) (pc' := 19) dX12_valueOctets_18 rfl (by decide) ?_
  refine sm_goto (pc' := 92) dX12_valueOctets_19 (by decide) ?_
  exact sm_iret rfl dX12_valueOctets_92
set_option maxRecDepth 100000 in
theorem mX12_valueOctets (l : Launch) (D : va_G) (aC : Nat → ClassId) (B : Nat) (a0 : Nat) (a1 : Int32) (h : sm_H) : sm_M l D vwCl gAts aC B gTs gNs gOs yX12_valueOctets cX12_valueOctets 3 (some .int) 2 46 vlI [vR (some a0), vI a1] h (fX12_valueOctets a0 a1 h) := sm_meth [vR (some a0), vI a1] yY_yX12_valueOctets gG gN (Nat.le_of_ble_eq_true rfl) rfl (sX12_valueOctets_0 l D aC B a0 a1 h)
-- M:TreeAgentModel.rowOctets(I)I
noncomputable def fX12_rowOctets  (a0 : Nat) (a1 : Int32) (h : sm_H) : Option (Int32 × sm_H) :=
  (sm_R (sm_get h (some a0) 12 36)).bind fun x1 =>
  (sm_R (sm_get h (some a0) 12 37)).bind fun x2 =>
  (sm_aI h x2 0 a1).bind fun x3 =>
  sm_cb (fX12_nameOctets x1 ((16 : Int32) * a1) x3 h) fun x4 h5 =>
  sm_cb (fX12_around x4 h5) fun x6 h7 =>
  (sm_obj h7 (some a0) 12).bind fun b12 =>
  sm_cb (fX12_valueOctets b12 a1 h7) fun x8 h9 =>
  sm_cb (fX12_around x8 h9) fun x10 h11 =>
  some (x6 + x10, h11)
set_option maxRecDepth 100000 in
set_option maxHeartbeats 4000000 in
theorem sX12_rowOctets_0 (l : Launch) (D : va_G) (aC : Nat → ClassId) (B : Nat)   (a0 : Nat) (a1 : Int32) (h : sm_H) : zS l D aC B cX12_rowOctets 2 RX12 3 68 (some .int) "rowOctets" vlI (fX12_rowOctets a0 a1 h) 0 [(0, vR (some a0)), (1, vI a1)] [] h := by
  unfold fX12_rowOctets
  refine sm_aload_n (i := 0) (j := 0) (pc' := 1) dX12_rowOctets_0 rfl rfl rfl ?_
  refine sm_getR (k := 36) (pc' := 4) kX12 (by decide) mw686 dX12_rowOctets_1 rfl (fun x1 => ?_)
  refine sm_bipush (v := (16 : Int32)) (pc' := 6) dX12_rowOctets_4 rfl (by decide) ?_
  refine sm_iload_n (i := 1) (j := 1) (pc' := 7) dX12_rowOctets_6 rfl rfl rfl ?_
  refine sm_imul (pc' := 8) dX12_rowOctets_7 rfl ?_
  refine sm_aload_n (i := 0) (j := 0) (pc' := 9) dX12_rowOctets_8 rfl rfl rfl ?_
  refine sm_getR (k := 37) (pc' := 12) kX12 (by decide) mw687 dX12_rowOctets_9 rfl (fun x2 => ?_)
  refine sm_iload_n (i := 1) (j := 1) (pc' := 13) dX12_rowOctets_12 rfl rfl rfl ?_
  refine sm_iald (t := 0) (pc' := 14) rfl dX12_rowOctets_13 rfl (fun x3 => ?_)
  refine sm_cSI (pc' := 17) (st := []) [vR x1, vI ((16 : Int32) * a1), vI x3] yY_yX12_nameOctets mw825 mw826 (mX12_nameOctets l D aC B x1 ((16 : Int32) * a1) x3 h) rfl (by decide) (by decide) (by exact Nat.le_of_ble_eq_true rfl) rfl dX12_rowOctets_14 rfl (fun x4 h5 => ?_)
  refine sm_cSI (pc' := 20) (st := []) [vI x4] yY_yX12_around mw827 mw829 (mX12_around l D aC B x4 h5) rfl (by decide) (by decide) (by exact Nat.le_of_ble_eq_true rfl) rfl dX12_rowOctets_17 rfl (fun x6 h7 => ?_)
  refine sm_aload_n (i := 0) (j := 0) (pc' := 21) dX12_rowOctets_20 rfl rfl rfl ?_
  refine sm_iload_n (i := 1) (j := 1) (pc' := 22) dX12_rowOctets_21 rfl rfl rfl ?_
  refine sm_cVI (pc' := 25) (ci := 12) (st := [vI x6]) (F := fun b => fX12_valueOctets b a1 h7) [vI a1] yY_yX12_valueOctets rfl mw828 mw830 mw831 (fun b => mX12_valueOctets l D aC B b a1 h7) rfl (by decide) (by decide) (by exact Nat.le_of_ble_eq_true rfl) rfl dX12_rowOctets_22 rfl (fun x8 h9 => ?_)
  refine sm_cSI (pc' := 28) (st := [vI x6]) [vI x8] yY_yX12_around mw827 mw829 (mX12_around l D aC B x8 h9) rfl (by decide) (by decide) (by exact Nat.le_of_ble_eq_true rfl) rfl dX12_rowOctets_25 rfl (fun x10 h11 => ?_)
  refine sm_iadd (pc' := 29) dX12_rowOctets_28 rfl ?_
  exact sm_iret rfl dX12_rowOctets_29
set_option maxRecDepth 100000 in
theorem mX12_rowOctets (l : Launch) (D : va_G) (aC : Nat → ClassId) (B : Nat) (a0 : Nat) (a1 : Int32) (h : sm_H) : sm_M l D vwCl gAts aC B gTs gNs gOs yX12_rowOctets cX12_rowOctets 2 (some .int) 3 68 vlI [vR (some a0), vI a1] h (fX12_rowOctets a0 a1 h) := sm_meth [vR (some a0), vI a1] yY_yX12_rowOctets gG gN (Nat.le_of_ble_eq_true rfl) rfl (sX12_rowOctets_0 l D aC B a0 a1 h)
-- M:TreeAgentModel.rowsOctets(II)I
noncomputable def fX12_rowsOctets_5  : Nat → Nat → Int32 → Int32 → Int32 → Int32 → sm_H → Option (Int32 × sm_H)
  | 0 => fun _ _ _ _ _ _ => none
  | n + 1 => fun a0 a1 a2 a3 a4 h =>
    if (a1 + a2) ≤ a4 then (
      some (a3, h)
    ) else
    (sm_obj h (some a0) 12).bind fun b7 =>
    sm_cb (fX12_rowOctets b7 a4 h) fun x1 h2 =>
    sm_cb (fX12_around x1 h2) fun x3 h4 =>
    sm_let (a3 + x3) fun x5 =>
    sm_let (a4 + (1 : Int32)) fun x6 =>
    (fX12_rowsOctets_5 n) a0 a1 a2 x5 x6 h4
set_option maxRecDepth 100000 in
set_option maxHeartbeats 4000000 in
theorem sX12_rowsOctets_5 (l : Launch) (D : va_G) (aC : Nat → ClassId) (B : Nat)   (n : Nat) : ∀ (a0 : Nat) (a1 : Int32) (a2 : Int32) (a3 : Int32) (a4 : Int32) (h : sm_H), zS l D aC B cX12_rowsOctets 5 RX12 4 89 (some .int) "rowsOctets" vlI (fX12_rowsOctets_5 n a0 a1 a2 a3 a4 h) 5 [(0, vR (some a0)), (1, vI a1), (2, vI a2), (3, vI a3), (4, vI a4)] [] h := by
  induction n with
  | zero => intro a0 a1 a2 a3 a4 h; exact sm_none
  | succ n ih =>
    intro a0 a1 a2 a3 a4 h
    show zS l D aC B cX12_rowsOctets 5 RX12 4 89 (some .int) "rowsOctets" vlI (fX12_rowsOctets_5 (n + 1) a0 a1 a2 a3 a4 h) 5 [(0, vR (some a0)), (1, vI a1), (2, vI a2), (3, vI a3), (4, vI a4)] [] h
    unfold fX12_rowsOctets_5
    refine sm_iload (i := 4) (j := 4) (pc' := 7) dX12_rowsOctets_5 rfl rfl ?_
    refine sm_iload_n (i := 1) (j := 1) (pc' := 8) dX12_rowsOctets_7 rfl rfl rfl ?_
    refine sm_iload_n (i := 2) (j := 2) (pc' := 9) dX12_rowsOctets_8 rfl rfl rfl ?_
    refine sm_iadd (pc' := 10) dX12_rowsOctets_9 rfl ?_
    refine sm_icmp_ge (tgt := 31) (pc' := 13) dX12_rowsOctets_10 (by decide) rfl ?_ ?_
    · refine sm_iload_n (i := 3) (j := 3) (pc' := 32) dX12_rowsOctets_31 rfl rfl rfl ?_
      exact sm_iret rfl dX12_rowsOctets_32
    refine sm_iload_n (i := 3) (j := 3) (pc' := 14) dX12_rowsOctets_13 rfl rfl rfl ?_
    refine sm_aload_n (i := 0) (j := 0) (pc' := 15) dX12_rowsOctets_14 rfl rfl rfl ?_
    refine sm_iload (i := 4) (j := 4) (pc' := 17) dX12_rowsOctets_15 rfl rfl ?_
    refine sm_cVI (pc' := 20) (ci := 12) (st := [vI a3]) (F := fun b => fX12_rowOctets b a4 h) [vI a4] yY_yX12_rowOctets rfl mw832 mw833 mw834 (fun b => mX12_rowOctets l D aC B b a4 h) rfl (by decide) (by decide) (by exact Nat.le_of_ble_eq_true rfl) rfl dX12_rowsOctets_17 rfl (fun x1 h2 => ?_)
    refine sm_cSI (pc' := 23) (st := [vI a3]) [vI x1] yY_yX12_around mw827 mw829 (mX12_around l D aC B x1 h2) rfl (by decide) (by decide) (by exact Nat.le_of_ble_eq_true rfl) rfl dX12_rowsOctets_20 rfl (fun x3 h4 => ?_)
    refine sm_iadd (pc' := 24) dX12_rowsOctets_23 rfl ?_
    refine sm_letIv (fun x5 => ?_)
    refine sm_istore_n (i := 3) (lv' := [(3, vI x5), (0, vR (some a0)), (1, vI a1), (2, vI a2), (4, vI a4)]) (pc' := 25) dX12_rowsOctets_24 rfl rfl (by decide) rfl ?_
    refine sm_iincL (i := 4) (j := 4) (x := a4) (d := (1 : Int32)) (fun x6 => [(4, vI x6), (3, vI x5), (0, vR (some a0)), (1, vI a1), (2, vI a2)]) (pc' := 28) dX12_rowsOctets_25 rfl rfl (by decide) (by decide) (fun _ => rfl) (fun x6 => ?_)
    refine sm_goto (pc' := 5) dX12_rowsOctets_28 (by decide) ?_
    refine sm_lo (lv' := [(0, vR (some a0)), (1, vI a1), (2, vI a2), (3, vI x5), (4, vI x6)]) [2, 3, 4, 1, 0] rfl ?_
    exact ih a0 a1 a2 x5 x6 h4
noncomputable def fX12_rowsOctets  (a0 : Nat) (a1 : Int32) (a2 : Int32) (h : sm_H) : Option (Int32 × sm_H) :=
  fX12_rowsOctets_5 sm_fuel a0 a1 a2 (0 : Int32) a1 h
set_option maxRecDepth 100000 in
set_option maxHeartbeats 4000000 in
theorem sX12_rowsOctets_0 (l : Launch) (D : va_G) (aC : Nat → ClassId) (B : Nat)   (a0 : Nat) (a1 : Int32) (a2 : Int32) (h : sm_H) : zS l D aC B cX12_rowsOctets 5 RX12 4 89 (some .int) "rowsOctets" vlI (fX12_rowsOctets a0 a1 a2 h) 0 [(0, vR (some a0)), (1, vI a1), (2, vI a2)] [] h := by
  unfold fX12_rowsOctets
  refine sm_iconst (v := (0 : Int32)) (pc' := 1) dX12_rowsOctets_0 rfl (by decide) ?_
  refine sm_istore_n (i := 3) (lv' := [(3, vI (0 : Int32)), (0, vR (some a0)), (1, vI a1), (2, vI a2)]) (pc' := 2) dX12_rowsOctets_1 rfl rfl (by decide) rfl ?_
  refine sm_iload_n (i := 1) (j := 2) (pc' := 3) dX12_rowsOctets_2 rfl rfl rfl ?_
  refine sm_istore (i := 4) (lv' := [(4, vI a1), (3, vI (0 : Int32)), (0, vR (some a0)), (1, vI a1), (2, vI a2)]) (pc' := 5) dX12_rowsOctets_3 rfl (by decide) rfl ?_
  refine sm_lo (lv' := [(0, vR (some a0)), (1, vI a1), (2, vI a2), (3, vI (0 : Int32)), (4, vI a1)]) [2, 3, 4, 1, 0] rfl ?_
  exact sX12_rowsOctets_5 l D aC B   sm_fuel a0 a1 a2 (0 : Int32) a1 h
set_option maxRecDepth 100000 in
theorem mX12_rowsOctets (l : Launch) (D : va_G) (aC : Nat → ClassId) (B : Nat) (a0 : Nat) (a1 : Int32) (a2 : Int32) (h : sm_H) : sm_M l D vwCl gAts aC B gTs gNs gOs yX12_rowsOctets cX12_rowsOctets 5 (some .int) 4 89 vlI [vR (some a0), vI a1, vI a2] h (fX12_rowsOctets a0 a1 a2 h) := sm_meth [vR (some a0), vI a1, vI a2] yY_yX12_rowsOctets gG gN (Nat.le_of_ble_eq_true rfl) rfl (sX12_rowsOctets_0 l D aC B a0 a1 a2 h)
-- M:TreeAgentModel.bodyOctets(II)I
noncomputable def fX12_bodyOctets  (a0 : Nat) (a1 : Int32) (a2 : Int32) (h : sm_H) : Option (Int32 × sm_H) :=
  (sm_I (sm_get h (some a0) 12 53)).bind fun x1 =>
  sm_cb (fX12_numberSize (x1.toInt64) (0 : Int32) h) fun x2 h3 =>
  sm_cb (fX12_around x2 h3) fun x4 h5 =>
  (sm_I (sm_get h5 (some a0) 12 56)).bind fun x6 =>
  sm_cb (fX12_numberSize (x6.toInt64) (0 : Int32) h5) fun x7 h8 =>
  sm_cb (fX12_around x7 h8) fun x9 h10 =>
  (sm_I (sm_get h10 (some a0) 12 57)).bind fun x11 =>
  sm_cb (fX12_numberSize (x11.toInt64) (0 : Int32) h10) fun x12 h13 =>
  sm_cb (fX12_around x12 h13) fun x14 h15 =>
  (sm_obj h15 (some a0) 12).bind fun b20 =>
  sm_cb (fX12_rowsOctets b20 a1 a2 h15) fun x16 h17 =>
  sm_cb (fX12_around x16 h17) fun x18 h19 =>
  some (((x4 + x9) + x14) + x18, h19)
set_option maxRecDepth 100000 in
set_option maxHeartbeats 4000000 in
theorem sX12_bodyOctets_0 (l : Launch) (D : va_G) (aC : Nat → ClassId) (B : Nat)   (a0 : Nat) (a1 : Int32) (a2 : Int32) (h : sm_H) : zS l D aC B cX12_bodyOctets 3 RX12 5 113 (some .int) "bodyOctets" vlI (fX12_bodyOctets a0 a1 a2 h) 0 [(0, vR (some a0)), (1, vI a1), (2, vI a2)] [] h := by
  unfold fX12_bodyOctets
  refine sm_aload_n (i := 0) (j := 0) (pc' := 1) dX12_bodyOctets_0 rfl rfl rfl ?_
  refine sm_getI (k := 53) (pc' := 4) kX12 (by decide) mw790 dX12_bodyOctets_1 rfl (fun x1 => ?_)
  refine sm_i2l (pc' := 5) dX12_bodyOctets_4 rfl ?_
  refine sm_iconst (v := (0 : Int32)) (pc' := 6) dX12_bodyOctets_5 rfl (by decide) ?_
  refine sm_cSI (pc' := 9) (st := []) [vJ (x1.toInt64), vI (0 : Int32)] yY_yX12_numberSize mw823 mw824 (mX12_numberSize l D aC B (x1.toInt64) (0 : Int32) h) rfl (by decide) (by decide) (by exact Nat.le_of_ble_eq_true rfl) rfl dX12_bodyOctets_6 rfl (fun x2 h3 => ?_)
  refine sm_cSI (pc' := 12) (st := []) [vI x2] yY_yX12_around mw827 mw829 (mX12_around l D aC B x2 h3) rfl (by decide) (by decide) (by exact Nat.le_of_ble_eq_true rfl) rfl dX12_bodyOctets_9 rfl (fun x4 h5 => ?_)
  refine sm_aload_n (i := 0) (j := 0) (pc' := 13) dX12_bodyOctets_12 rfl rfl rfl ?_
  refine sm_getI (k := 56) (pc' := 16) kX12 (by decide) mw835 dX12_bodyOctets_13 rfl (fun x6 => ?_)
  refine sm_i2l (pc' := 17) dX12_bodyOctets_16 rfl ?_
  refine sm_iconst (v := (0 : Int32)) (pc' := 18) dX12_bodyOctets_17 rfl (by decide) ?_
  refine sm_cSI (pc' := 21) (st := [vI x4]) [vJ (x6.toInt64), vI (0 : Int32)] yY_yX12_numberSize mw823 mw824 (mX12_numberSize l D aC B (x6.toInt64) (0 : Int32) h5) rfl (by decide) (by decide) (by exact Nat.le_of_ble_eq_true rfl) rfl dX12_bodyOctets_18 rfl (fun x7 h8 => ?_)
  refine sm_cSI (pc' := 24) (st := [vI x4]) [vI x7] yY_yX12_around mw827 mw829 (mX12_around l D aC B x7 h8) rfl (by decide) (by decide) (by exact Nat.le_of_ble_eq_true rfl) rfl dX12_bodyOctets_21 rfl (fun x9 h10 => ?_)
  refine sm_iadd (pc' := 25) dX12_bodyOctets_24 rfl ?_
  refine sm_aload_n (i := 0) (j := 0) (pc' := 26) dX12_bodyOctets_25 rfl rfl rfl ?_
  refine sm_getI (k := 57) (pc' := 29) kX12 (by decide) mw836 dX12_bodyOctets_26 rfl (fun x11 => ?_)
  refine sm_i2l (pc' := 30) dX12_bodyOctets_29 rfl ?_
  refine sm_iconst (v := (0 : Int32)) (pc' := 31) dX12_bodyOctets_30 rfl (by decide) ?_
  refine sm_cSI (pc' := 34) (st := [vI (x4 + x9)]) [vJ (x11.toInt64), vI (0 : Int32)] yY_yX12_numberSize mw823 mw824 (mX12_numberSize l D aC B (x11.toInt64) (0 : Int32) h10) rfl (by decide) (by decide) (by exact Nat.le_of_ble_eq_true rfl) rfl dX12_bodyOctets_31 rfl (fun x12 h13 => ?_)
  refine sm_cSI (pc' := 37) (st := [vI (x4 + x9)]) [vI x12] yY_yX12_around mw827 mw829 (mX12_around l D aC B x12 h13) rfl (by decide) (by decide) (by exact Nat.le_of_ble_eq_true rfl) rfl dX12_bodyOctets_34 rfl (fun x14 h15 => ?_)
  refine sm_iadd (pc' := 38) dX12_bodyOctets_37 rfl ?_
  refine sm_aload_n (i := 0) (j := 0) (pc' := 39) dX12_bodyOctets_38 rfl rfl rfl ?_
  refine sm_iload_n (i := 1) (j := 1) (pc' := 40) dX12_bodyOctets_39 rfl rfl rfl ?_
  refine sm_iload_n (i := 2) (j := 2) (pc' := 41) dX12_bodyOctets_40 rfl rfl rfl ?_
  refine sm_cVI (pc' := 44) (ci := 12) (st := [vI ((x4 + x9) + x14)]) (F := fun b => fX12_rowsOctets b a1 a2 h15) [vI a1, vI a2] yY_yX12_rowsOctets rfl mw837 mw838 mw839 (fun b => mX12_rowsOctets l D aC B b a1 a2 h15) rfl (by decide) (by decide) (by exact Nat.le_of_ble_eq_true rfl) rfl dX12_bodyOctets_41 rfl (fun x16 h17 => ?_)
  refine sm_cSI (pc' := 47) (st := [vI ((x4 + x9) + x14)]) [vI x16] yY_yX12_around mw827 mw829 (mX12_around l D aC B x16 h17) rfl (by decide) (by decide) (by exact Nat.le_of_ble_eq_true rfl) rfl dX12_bodyOctets_44 rfl (fun x18 h19 => ?_)
  refine sm_iadd (pc' := 48) dX12_bodyOctets_47 rfl ?_
  exact sm_iret rfl dX12_bodyOctets_48
set_option maxRecDepth 100000 in
theorem mX12_bodyOctets (l : Launch) (D : va_G) (aC : Nat → ClassId) (B : Nat) (a0 : Nat) (a1 : Int32) (a2 : Int32) (h : sm_H) : sm_M l D vwCl gAts aC B gTs gNs gOs yX12_bodyOctets cX12_bodyOctets 3 (some .int) 5 113 vlI [vR (some a0), vI a1, vI a2] h (fX12_bodyOctets a0 a1 a2 h) := sm_meth [vR (some a0), vI a1, vI a2] yY_yX12_bodyOctets gG gN (Nat.le_of_ble_eq_true rfl) rfl (sX12_bodyOctets_0 l D aC B a0 a1 a2 h)
-- M:TreeAgentModel.allOctets(II)I
noncomputable def fX12_allOctets  (a0 : Nat) (a1 : Int32) (a2 : Int32) (h : sm_H) : Option (Int32 × sm_H) :=
  (sm_I (sm_get h (some a0) 12 51)).bind fun x1 =>
  sm_cb (fX12_around x1 h) fun x2 h3 =>
  (sm_obj h3 (some a0) 12).bind fun b10 =>
  sm_cb (fX12_bodyOctets b10 a1 a2 h3) fun x4 h5 =>
  sm_cb (fX12_around x4 h5) fun x6 h7 =>
  sm_cb (fX12_around (((3 : Int32) + x2) + x6) h7) fun x8 h9 =>
  some (x8, h9)
set_option maxRecDepth 100000 in
set_option maxHeartbeats 4000000 in
theorem sX12_allOctets_0 (l : Launch) (D : va_G) (aC : Nat → ClassId) (B : Nat)   (a0 : Nat) (a1 : Int32) (a2 : Int32) (h : sm_H) : zS l D aC B cX12_allOctets 3 RX12 6 135 (some .int) "allOctets" vlI (fX12_allOctets a0 a1 a2 h) 0 [(0, vR (some a0)), (1, vI a1), (2, vI a2)] [] h := by
  unfold fX12_allOctets
  refine sm_iconst (v := (3 : Int32)) (pc' := 1) dX12_allOctets_0 rfl (by decide) ?_
  refine sm_aload_n (i := 0) (j := 0) (pc' := 2) dX12_allOctets_1 rfl rfl rfl ?_
  refine sm_getI (k := 51) (pc' := 5) kX12 (by decide) mw792 dX12_allOctets_2 rfl (fun x1 => ?_)
  refine sm_cSI (pc' := 8) (st := [vI (3 : Int32)]) [vI x1] yY_yX12_around mw827 mw829 (mX12_around l D aC B x1 h) rfl (by decide) (by decide) (by exact Nat.le_of_ble_eq_true rfl) rfl dX12_allOctets_5 rfl (fun x2 h3 => ?_)
  refine sm_iadd (pc' := 9) dX12_allOctets_8 rfl ?_
  refine sm_aload_n (i := 0) (j := 0) (pc' := 10) dX12_allOctets_9 rfl rfl rfl ?_
  refine sm_iload_n (i := 1) (j := 1) (pc' := 11) dX12_allOctets_10 rfl rfl rfl ?_
  refine sm_iload_n (i := 2) (j := 2) (pc' := 12) dX12_allOctets_11 rfl rfl rfl ?_
  refine sm_cVI (pc' := 15) (ci := 12) (st := [vI ((3 : Int32) + x2)]) (F := fun b => fX12_bodyOctets b a1 a2 h3) [vI a1, vI a2] yY_yX12_bodyOctets rfl mw840 mw841 mw842 (fun b => mX12_bodyOctets l D aC B b a1 a2 h3) rfl (by decide) (by decide) (by exact Nat.le_of_ble_eq_true rfl) rfl dX12_allOctets_12 rfl (fun x4 h5 => ?_)
  refine sm_cSI (pc' := 18) (st := [vI ((3 : Int32) + x2)]) [vI x4] yY_yX12_around mw827 mw829 (mX12_around l D aC B x4 h5) rfl (by decide) (by decide) (by exact Nat.le_of_ble_eq_true rfl) rfl dX12_allOctets_15 rfl (fun x6 h7 => ?_)
  refine sm_iadd (pc' := 19) dX12_allOctets_18 rfl ?_
  refine sm_cSI (pc' := 22) (st := []) [vI (((3 : Int32) + x2) + x6)] yY_yX12_around mw827 mw829 (mX12_around l D aC B (((3 : Int32) + x2) + x6) h7) rfl (by decide) (by decide) (by exact Nat.le_of_ble_eq_true rfl) rfl dX12_allOctets_19 rfl (fun x8 h9 => ?_)
  exact sm_iret rfl dX12_allOctets_22
set_option maxRecDepth 100000 in
theorem mX12_allOctets (l : Launch) (D : va_G) (aC : Nat → ClassId) (B : Nat) (a0 : Nat) (a1 : Int32) (a2 : Int32) (h : sm_H) : sm_M l D vwCl gAts aC B gTs gNs gOs yX12_allOctets cX12_allOctets 3 (some .int) 6 135 vlI [vR (some a0), vI a1, vI a2] h (fX12_allOctets a0 a1 a2 h) := sm_meth [vR (some a0), vI a1, vI a2] yY_yX12_allOctets gG gN (Nat.le_of_ble_eq_true rfl) rfl (sX12_allOctets_0 l D aC B a0 a1 a2 h)
-- M:TreeAgentModel.put(I)V
noncomputable def fX12_put  (a0 : Nat) (a1 : Int32) (h : sm_H) : Option (Unit × sm_H) :=
  (sm_R (sm_get h (some a0) 12 63)).bind fun x1 =>
  (sm_I (sm_get h (some a0) 12 64)).bind fun x2 =>
  (sm_sI h x1 3 x2 (vp_nar .byte (a1.toInt8.toInt32))).bind fun h3 =>
  (sm_I (sm_get h3 (some a0) 12 64)).bind fun x4 =>
  (sm_put h3 (some a0) 12 64 (sm_v (vI (x4 + (1 : Int32))))).bind fun h5 =>
  some ((), h5)
set_option maxRecDepth 100000 in
set_option maxHeartbeats 4000000 in
theorem sX12_put_0 (l : Launch) (D : va_G) (aC : Nat → ClassId) (B : Nat)   (a0 : Nat) (a1 : Int32) (h : sm_H) : zS l D aC B cX12_put 2 RX12 0 0 none "put" vlU (fX12_put a0 a1 h) 0 [(0, vR (some a0)), (1, vI a1)] [] h := by
  unfold fX12_put
  refine sm_aload_n (i := 0) (j := 0) (pc' := 1) dX12_put_0 rfl rfl rfl ?_
  refine sm_getR (k := 63) (pc' := 4) kX12 (by decide) mw696 dX12_put_1 rfl (fun x1 => ?_)
  refine sm_aload_n (i := 0) (j := 0) (pc' := 5) dX12_put_4 rfl rfl rfl ?_
  refine sm_getI (k := 64) (pc' := 8) kX12 (by decide) mw843 dX12_put_5 rfl (fun x2 => ?_)
  refine sm_iload_n (i := 1) (j := 1) (pc' := 9) dX12_put_8 rfl rfl rfl ?_
  refine sm_i2b (pc' := 10) dX12_put_9 rfl ?_
  refine sm_bast (t := 3) (pc' := 11) rfl dX12_put_10 rfl (fun h3 => ?_)
  refine sm_aload_n (i := 0) (j := 0) (pc' := 12) dX12_put_11 rfl rfl rfl ?_
  refine sm_dup (pc' := 13) rfl dX12_put_12 rfl ?_
  refine sm_getI (k := 64) (pc' := 16) kX12 (by decide) mw843 dX12_put_13 rfl (fun x4 => ?_)
  refine sm_iconst (v := (1 : Int32)) (pc' := 17) dX12_put_16 rfl (by decide) ?_
  refine sm_iadd (pc' := 18) dX12_put_17 rfl ?_
  refine sm_putI (k := 64) (pc' := 21) kX12 (by decide) mw843 rfl rfl dX12_put_18 rfl (fun h5 => ?_)
  exact sm_vret rfl dX12_put_21
set_option maxRecDepth 100000 in
theorem mX12_put (l : Launch) (D : va_G) (aC : Nat → ClassId) (B : Nat) (a0 : Nat) (a1 : Int32) (h : sm_H) : sm_M l D vwCl gAts aC B gTs gNs gOs yX12_put cX12_put 2 none 0 0 vlU [vR (some a0), vI a1] h (fX12_put a0 a1 h) := sm_meth [vR (some a0), vI a1] yY_yX12_put gG gN (Nat.le_of_ble_eq_true rfl) rfl (sX12_put_0 l D aC B a0 a1 h)
-- M:TreeAgentModel.head(II)V
noncomputable def fX12_head  (a0 : Nat) (a1 : Int32) (a2 : Int32) (h : sm_H) : Option (Unit × sm_H) :=
  (sm_obj h (some a0) 12).bind fun b14 =>
  sm_cb (fX12_put b14 a1 h) fun _ h1 =>
  if a2 < (256 : Int32) then (
    if a2 < (128 : Int32) then (
      (sm_obj h1 (some a0) 12).bind fun b3 =>
      sm_cb (fX12_put b3 a2 h1) fun _ h2 =>
      some ((), h2)
    ) else
    (sm_obj h1 (some a0) 12).bind fun b7 =>
    sm_cb (fX12_put b7 (129 : Int32) h1) fun _ h4 =>
    (sm_obj h4 (some a0) 12).bind fun b6 =>
    sm_cb (fX12_put b6 a2 h4) fun _ h5 =>
    some ((), h5)
  ) else
  (sm_obj h1 (some a0) 12).bind fun b13 =>
  sm_cb (fX12_put b13 (130 : Int32) h1) fun _ h8 =>
  (sm_obj h8 (some a0) 12).bind fun b12 =>
  sm_cb (fX12_put b12 (a2 >>> ((8 : Int32) &&& 31)) h8) fun _ h9 =>
  (sm_obj h9 (some a0) 12).bind fun b11 =>
  sm_cb (fX12_put b11 a2 h9) fun _ h10 =>
  some ((), h10)
set_option maxRecDepth 100000 in
set_option maxHeartbeats 4000000 in
theorem sX12_head_0 (l : Launch) (D : va_G) (aC : Nat → ClassId) (B : Nat)   (a0 : Nat) (a1 : Int32) (a2 : Int32) (h : sm_H) : zS l D aC B cX12_head 3 RX12 1 21 none "head" vlU (fX12_head a0 a1 a2 h) 0 [(0, vR (some a0)), (1, vI a1), (2, vI a2)] [] h := by
  unfold fX12_head
  refine sm_aload_n (i := 0) (j := 0) (pc' := 1) dX12_head_0 rfl rfl rfl ?_
  refine sm_iload_n (i := 1) (j := 1) (pc' := 2) dX12_head_1 rfl rfl rfl ?_
  refine sm_cVU (pc' := 5) (ci := 12) (st := []) (F := fun b => fX12_put b a1 h) [vI a1] yY_yX12_put rfl mw844 mw845 mw846 (fun b => mX12_put l D aC B b a1 h) rfl (by decide) (by decide) (by exact Nat.le_of_ble_eq_true rfl) rfl dX12_head_2 rfl (fun _ h1 => ?_)
  refine sm_iload_n (i := 2) (j := 2) (pc' := 6) dX12_head_5 rfl rfl rfl ?_
  refine sm_sipush (v := (256 : Int32)) (pc' := 9) dX12_head_6 rfl (by decide) ?_
  refine sm_icmp_lt (tgt := 30) (pc' := 12) dX12_head_9 (by decide) rfl ?_ ?_
  · refine sm_iload_n (i := 2) (j := 2) (pc' := 31) dX12_head_30 rfl rfl rfl ?_
    refine sm_sipush (v := (128 : Int32)) (pc' := 34) dX12_head_31 rfl (by decide) ?_
    refine sm_icmp_lt (tgt := 44) (pc' := 37) dX12_head_34 (by decide) rfl ?_ ?_
    · refine sm_aload_n (i := 0) (j := 0) (pc' := 45) dX12_head_44 rfl rfl rfl ?_
      refine sm_iload_n (i := 2) (j := 2) (pc' := 46) dX12_head_45 rfl rfl rfl ?_
      refine sm_cVU (pc' := 49) (ci := 12) (st := []) (F := fun b => fX12_put b a2 h1) [vI a2] yY_yX12_put rfl mw844 mw845 mw846 (fun b => mX12_put l D aC B b a2 h1) rfl (by decide) (by decide) (by exact Nat.le_of_ble_eq_true rfl) rfl dX12_head_46 rfl (fun _ h2 => ?_)
      exact sm_vret rfl dX12_head_49
    refine sm_aload_n (i := 0) (j := 0) (pc' := 38) dX12_head_37 rfl rfl rfl ?_
    refine sm_sipush (v := (129 : Int32)) (pc' := 41) dX12_head_38 rfl (by decide) ?_
    refine sm_cVU (pc' := 44) (ci := 12) (st := []) (F := fun b => fX12_put b (129 : Int32) h1) [vI (129 : Int32)] yY_yX12_put rfl mw844 mw845 mw846 (fun b => mX12_put l D aC B b (129 : Int32) h1) rfl (by decide) (by decide) (by exact Nat.le_of_ble_eq_true rfl) rfl dX12_head_41 rfl (fun _ h4 => ?_)
    refine sm_aload_n (i := 0) (j := 0) (pc' := 45) dX12_head_44 rfl rfl rfl ?_
    refine sm_iload_n (i := 2) (j := 2) (pc' := 46) dX12_head_45 rfl rfl rfl ?_
    refine sm_cVU (pc' := 49) (ci := 12) (st := []) (F := fun b => fX12_put b a2 h4) [vI a2] yY_yX12_put rfl mw844 mw845 mw846 (fun b => mX12_put l D aC B b a2 h4) rfl (by decide) (by decide) (by exact Nat.le_of_ble_eq_true rfl) rfl dX12_head_46 rfl (fun _ h5 => ?_)
    exact sm_vret rfl dX12_head_49
  refine sm_aload_n (i := 0) (j := 0) (pc' := 13) dX12_head_12 rfl rfl rfl ?_
  refine sm_sipush (v := (130 : Int32)) (pc' := 16) dX12_head_13 rfl (by decide) ?_
  refine sm_cVU (pc' := 19) (ci := 12) (st := []) (F := fun b => fX12_put b (130 : Int32) h1) [vI (130 : Int32)] yY_yX12_put rfl mw844 mw845 mw846 (fun b => mX12_put l D aC B b (130 : Int32) h1) rfl (by decide) (by decide) (by exact Nat.le_of_ble_eq_true rfl) rfl dX12_head_16 rfl (fun _ h8 => ?_)
  refine sm_aload_n (i := 0) (j := 0) (pc' := 20) dX12_head_19 rfl rfl rfl ?_
  refine sm_iload_n (i := 2) (j := 2) (pc' := 21) dX12_head_20 rfl rfl rfl ?_
  refine sm_bipush (v := (8 : Int32)) (pc' := 23) dX12_head_21 rfl (by decide) ?_
  refine sm_ishr (pc' := 24) dX12_head_23 rfl ?_
  refine sm_cVU (pc' := 27) (ci := 12) (st := []) (F := fun b => fX12_put b (a2 >>> ((8 : Int32) &&& 31)) h8) [vI (a2 >>> ((8 : Int32) &&& 31))] yY_yX12_put rfl mw844 mw845 mw846 (fun b => mX12_put l D aC B b (a2 >>> ((8 : Int32) &&& 31)) h8) rfl (by decide) (by decide) (by exact Nat.le_of_ble_eq_true rfl) rfl dX12_head_24 rfl (fun _ h9 => ?_)
  refine sm_goto (pc' := 44) dX12_head_27 (by decide) ?_
  refine sm_aload_n (i := 0) (j := 0) (pc' := 45) dX12_head_44 rfl rfl rfl ?_
  refine sm_iload_n (i := 2) (j := 2) (pc' := 46) dX12_head_45 rfl rfl rfl ?_
  refine sm_cVU (pc' := 49) (ci := 12) (st := []) (F := fun b => fX12_put b a2 h9) [vI a2] yY_yX12_put rfl mw844 mw845 mw846 (fun b => mX12_put l D aC B b a2 h9) rfl (by decide) (by decide) (by exact Nat.le_of_ble_eq_true rfl) rfl dX12_head_46 rfl (fun _ h10 => ?_)
  exact sm_vret rfl dX12_head_49
set_option maxRecDepth 100000 in
theorem mX12_head (l : Launch) (D : va_G) (aC : Nat → ClassId) (B : Nat) (a0 : Nat) (a1 : Int32) (a2 : Int32) (h : sm_H) : sm_M l D vwCl gAts aC B gTs gNs gOs yX12_head cX12_head 3 none 1 21 vlU [vR (some a0), vI a1, vI a2] h (fX12_head a0 a1 a2 h) := sm_meth [vR (some a0), vI a1, vI a2] yY_yX12_head gG gN (Nat.le_of_ble_eq_true rfl) rfl (sX12_head_0 l D aC B a0 a1 a2 h)
-- M:TreeAgentModel.writeNumber(IJ)V
noncomputable def fX12_writeNumber_30  : Nat → Nat → Int64 → Int32 → sm_H → Option (Unit × sm_H)
  | 0 => fun _ _ _ _ => none
  | n + 1 => fun a0 a2 a5 h =>
    if a5 < 0 then (
      some ((), h)
    ) else
    if a5 = (8 : Int32) then (
      (sm_obj h (some a0) 12).bind fun b6 =>
      sm_cb (fX12_put b6 (0 : Int32) h) fun _ h4 =>
      sm_let (a5 + (-1 : Int32)) fun x5 =>
      (fX12_writeNumber_30 n) a0 a2 x5 h4
    ) else
    (sm_obj h (some a0) 12).bind fun b3 =>
    sm_cb (fX12_put b3 ((a2 >>> (((8 : Int32) * a5).toInt64 &&& 63)).toInt32) h) fun _ h1 =>
    sm_let (a5 + (-1 : Int32)) fun x2 =>
    (fX12_writeNumber_30 n) a0 a2 x2 h1
set_option maxRecDepth 100000 in
set_option maxHeartbeats 4000000 in
theorem sX12_writeNumber_30 (l : Launch) (D : va_G) (aC : Nat → ClassId) (B : Nat)   (n : Nat) : ∀ (a0 : Nat) (a2 : Int64) (a5 : Int32) (h : sm_H), zS l D aC B cX12_writeNumber 6 RX12 2 43 none "writeNumber" vlU (fX12_writeNumber_30 n a0 a2 a5 h) 30 [(0, vR (some a0)), (2, vJ a2), (5, vI a5)] [] h := by
  induction n with
  | zero => intro a0 a2 a5 h; exact sm_none
  | succ n ih =>
    intro a0 a2 a5 h
    show zS l D aC B cX12_writeNumber 6 RX12 2 43 none "writeNumber" vlU (fX12_writeNumber_30 (n + 1) a0 a2 a5 h) 30 [(0, vR (some a0)), (2, vJ a2), (5, vI a5)] [] h
    unfold fX12_writeNumber_30
    refine sm_iload (i := 5) (j := 2) (pc' := 32) dX12_writeNumber_30 rfl rfl ?_
    refine sm_if_lt (tgt := 64) (pc' := 35) dX12_writeNumber_32 (by decide) rfl ?_ ?_
    · exact sm_vret rfl dX12_writeNumber_64
    refine sm_aload_n (i := 0) (j := 0) (pc' := 36) dX12_writeNumber_35 rfl rfl rfl ?_
    refine sm_iload (i := 5) (j := 2) (pc' := 38) dX12_writeNumber_36 rfl rfl ?_
    refine sm_bipush (v := (8 : Int32)) (pc' := 40) dX12_writeNumber_38 rfl (by decide) ?_
    refine sm_icmp_ne (tgt := 47) (pc' := 43) dX12_writeNumber_40 (by decide) rfl ?_ ?_
    · refine sm_lload_n (i := 2) (j := 1) (pc' := 48) dX12_writeNumber_47 rfl rfl rfl ?_
      refine sm_bipush (v := (8 : Int32)) (pc' := 50) dX12_writeNumber_48 rfl (by decide) ?_
      refine sm_iload (i := 5) (j := 2) (pc' := 52) dX12_writeNumber_50 rfl rfl ?_
      refine sm_imul (pc' := 53) dX12_writeNumber_52 rfl ?_
      refine sm_lshr (pc' := 54) dX12_writeNumber_53 rfl ?_
      refine sm_l2i (pc' := 55) dX12_writeNumber_54 rfl ?_
      refine sm_cVU (pc' := 58) (ci := 12) (st := []) (F := fun b => fX12_put b ((a2 >>> (((8 : Int32) * a5).toInt64 &&& 63)).toInt32) h) [vI ((a2 >>> (((8 : Int32) * a5).toInt64 &&& 63)).toInt32)] yY_yX12_put rfl mw844 mw845 mw846 (fun b => mX12_put l D aC B b ((a2 >>> (((8 : Int32) * a5).toInt64 &&& 63)).toInt32) h) rfl (by decide) (by decide) (by exact Nat.le_of_ble_eq_true rfl) rfl dX12_writeNumber_55 rfl (fun _ h1 => ?_)
      refine sm_iincL (i := 5) (j := 2) (x := a5) (d := (-1 : Int32)) (fun x2 => [(5, vI x2), (0, vR (some a0)), (2, vJ a2)]) (pc' := 61) dX12_writeNumber_58 rfl rfl (by decide) (by decide) (fun _ => rfl) (fun x2 => ?_)
      refine sm_goto (pc' := 30) dX12_writeNumber_61 (by decide) ?_
      refine sm_lo (lv' := [(0, vR (some a0)), (2, vJ a2), (5, vI x2)]) [1, 2, 0] rfl ?_
      exact ih a0 a2 x2 h1
    refine sm_iconst (v := (0 : Int32)) (pc' := 44) dX12_writeNumber_43 rfl (by decide) ?_
    refine sm_goto (pc' := 55) dX12_writeNumber_44 (by decide) ?_
    refine sm_cVU (pc' := 58) (ci := 12) (st := []) (F := fun b => fX12_put b (0 : Int32) h) [vI (0 : Int32)] yY_yX12_put rfl mw844 mw845 mw846 (fun b => mX12_put l D aC B b (0 : Int32) h) rfl (by decide) (by decide) (by exact Nat.le_of_ble_eq_true rfl) rfl dX12_writeNumber_55 rfl (fun _ h4 => ?_)
    refine sm_iincL (i := 5) (j := 2) (x := a5) (d := (-1 : Int32)) (fun x5 => [(5, vI x5), (0, vR (some a0)), (2, vJ a2)]) (pc' := 61) dX12_writeNumber_58 rfl rfl (by decide) (by decide) (fun _ => rfl) (fun x5 => ?_)
    refine sm_goto (pc' := 30) dX12_writeNumber_61 (by decide) ?_
    refine sm_lo (lv' := [(0, vR (some a0)), (2, vJ a2), (5, vI x5)]) [1, 2, 0] rfl ?_
    exact ih a0 a2 x5 h4
noncomputable def fX12_writeNumber_12  (a0 : Nat) (a1 : Int32) (a2 : Int64) (s0 : Int32) (s1 : Int64) (h : sm_H) : Option (Unit × sm_H) :=
  sm_cb (fX12_numberSize s1 s0 h) fun x1 h2 =>
  (sm_obj h2 (some a0) 12).bind fun b5 =>
  sm_cb (fX12_head b5 a1 x1 h2) fun _ h3 =>
  sm_let (x1 - (1 : Int32)) fun x4 =>
  fX12_writeNumber_30 sm_fuel a0 a2 x4 h3
set_option maxRecDepth 100000 in
set_option maxHeartbeats 4000000 in
theorem sX12_writeNumber_12 (l : Launch) (D : va_G) (aC : Nat → ClassId) (B : Nat)   (a0 : Nat) (a1 : Int32) (a2 : Int64) (s0 : Int32) (s1 : Int64) (h : sm_H) : zS l D aC B cX12_writeNumber 6 RX12 2 43 none "writeNumber" vlU (fX12_writeNumber_12 a0 a1 a2 s0 s1 h) 12 [(0, vR (some a0)), (1, vI a1), (2, vJ a2)] [vI s0, vJ s1] h := by
  unfold fX12_writeNumber_12
  refine sm_cSI (pc' := 15) (st := []) [vJ s1, vI s0] yY_yX12_numberSize mw823 mw824 (mX12_numberSize l D aC B s1 s0 h) rfl (by decide) (by decide) (by exact Nat.le_of_ble_eq_true rfl) rfl dX12_writeNumber_12 rfl (fun x1 h2 => ?_)
  refine sm_istore (i := 4) (lv' := [(4, vI x1), (0, vR (some a0)), (1, vI a1), (2, vJ a2)]) (pc' := 17) dX12_writeNumber_15 rfl (by decide) rfl ?_
  refine sm_aload_n (i := 0) (j := 1) (pc' := 18) dX12_writeNumber_17 rfl rfl rfl ?_
  refine sm_iload_n (i := 1) (j := 2) (pc' := 19) dX12_writeNumber_18 rfl rfl rfl ?_
  refine sm_iload (i := 4) (j := 0) (pc' := 21) dX12_writeNumber_19 rfl rfl ?_
  refine sm_cVU (pc' := 24) (ci := 12) (st := []) (F := fun b => fX12_head b a1 x1 h2) [vI a1, vI x1] yY_yX12_head rfl mw847 mw848 mw849 (fun b => mX12_head l D aC B b a1 x1 h2) rfl (by decide) (by decide) (by exact Nat.le_of_ble_eq_true rfl) rfl dX12_writeNumber_21 rfl (fun _ h3 => ?_)
  refine sm_iload (i := 4) (j := 0) (pc' := 26) dX12_writeNumber_24 rfl rfl ?_
  refine sm_iconst (v := (1 : Int32)) (pc' := 27) dX12_writeNumber_26 rfl (by decide) ?_
  refine sm_isub (pc' := 28) dX12_writeNumber_27 rfl ?_
  refine sm_letIv (fun x4 => ?_)
  refine sm_istore (i := 5) (lv' := [(5, vI x4), (4, vI x1), (0, vR (some a0)), (1, vI a1), (2, vJ a2)]) (pc' := 30) dX12_writeNumber_28 rfl (by decide) rfl ?_
  refine sm_lo (lv' := [(0, vR (some a0)), (2, vJ a2), (5, vI x4)]) [2, 4, 0] rfl ?_
  exact sX12_writeNumber_30 l D aC B   sm_fuel a0 a2 x4 h3
noncomputable def fX12_writeNumber  (a0 : Nat) (a1 : Int32) (a2 : Int64) (h : sm_H) : Option (Unit × sm_H) :=
  if a1 = (70 : Int32) then (
    fX12_writeNumber_12 a0 a1 a2 (1 : Int32) a2 h
  ) else
  fX12_writeNumber_12 a0 a1 a2 (0 : Int32) a2 h
set_option maxRecDepth 100000 in
set_option maxHeartbeats 4000000 in
theorem sX12_writeNumber_0 (l : Launch) (D : va_G) (aC : Nat → ClassId) (B : Nat)   (a0 : Nat) (a1 : Int32) (a2 : Int64) (h : sm_H) : zS l D aC B cX12_writeNumber 6 RX12 2 43 none "writeNumber" vlU (fX12_writeNumber a0 a1 a2 h) 0 [(0, vR (some a0)), (1, vI a1), (2, vJ a2)] [] h := by
  unfold fX12_writeNumber
  refine sm_lload_n (i := 2) (j := 2) (pc' := 1) dX12_writeNumber_0 rfl rfl rfl ?_
  refine sm_iload_n (i := 1) (j := 1) (pc' := 2) dX12_writeNumber_1 rfl rfl rfl ?_
  refine sm_bipush (v := (70 : Int32)) (pc' := 4) dX12_writeNumber_2 rfl (by decide) ?_
  refine sm_icmp_ne (tgt := 11) (pc' := 7) dX12_writeNumber_4 (by decide) rfl ?_ ?_
  · refine sm_iconst (v := (0 : Int32)) (pc' := 12) dX12_writeNumber_11 rfl (by decide) ?_
    exact sX12_writeNumber_12 l D aC B  a0 a1 a2 (0 : Int32) a2 h
  refine sm_iconst (v := (1 : Int32)) (pc' := 8) dX12_writeNumber_7 rfl (by decide) ?_
  refine sm_goto (pc' := 12) dX12_writeNumber_8 (by decide) ?_
  exact sX12_writeNumber_12 l D aC B  a0 a1 a2 (1 : Int32) a2 h
set_option maxRecDepth 100000 in
theorem mX12_writeNumber (l : Launch) (D : va_G) (aC : Nat → ClassId) (B : Nat) (a0 : Nat) (a1 : Int32) (a2 : Int64) (h : sm_H) : sm_M l D vwCl gAts aC B gTs gNs gOs yX12_writeNumber cX12_writeNumber 6 none 2 43 vlU [vR (some a0), vI a1, vJ a2] h (fX12_writeNumber a0 a1 a2 h) := sm_meth [vR (some a0), vI a1, vJ a2] yY_yX12_writeNumber gG gN (Nat.le_of_ble_eq_true rfl) rfl (sX12_writeNumber_0 l D aC B a0 a1 a2 h)
-- M:TreeAgentModel.names([JII)V
noncomputable def fX12_names_52 (K33 : Nat → Option Nat → Int32 → Int32 → Int32 → sm_H → Option (Unit × sm_H)) : Nat → Nat → Option Nat → Int32 → Int32 → Int32 → Int32 → sm_H → Option (Unit × sm_H)
  | 0 => fun _ _ _ _ _ _ _ => none
  | n + 1 => fun a0 a1 a2 a3 a4 a5 h =>
    if a5 < 0 then (
      sm_let (a4 + (1 : Int32)) fun x1 =>
      K33 a0 a1 a2 a3 x1 h
    ) else
    (sm_aJ h a1 1 (a2 + a4)).bind fun x2 =>
    if a5 ≤ 0 then (
      (sm_obj h (some a0) 12).bind fun b5 =>
      sm_cb (fX12_put b5 ((((x2 >>> (((7 : Int32) * a5).toInt64 &&& 63)).toInt32) &&& (127 : Int32)) ||| (0 : Int32)) h) fun _ h3 =>
      sm_let (a5 + (-1 : Int32)) fun x4 =>
      (fX12_names_52 K33 n) a0 a1 a2 a3 a4 x4 h3
    ) else
    (sm_obj h (some a0) 12).bind fun b8 =>
    sm_cb (fX12_put b8 ((((x2 >>> (((7 : Int32) * a5).toInt64 &&& 63)).toInt32) &&& (127 : Int32)) ||| (128 : Int32)) h) fun _ h6 =>
    sm_let (a5 + (-1 : Int32)) fun x7 =>
    (fX12_names_52 K33 n) a0 a1 a2 a3 a4 x7 h6
set_option maxRecDepth 100000 in
set_option maxHeartbeats 4000000 in
theorem sX12_names_52 (l : Launch) (D : va_G) (aC : Nat → ClassId) (B : Nat) (K33 : Nat → Option Nat → Int32 → Int32 → Int32 → sm_H → Option (Unit × sm_H)) (hK33 : ∀ (a0 : Nat) (a1 : Option Nat) (a2 : Int32) (a3 : Int32) (a4 : Int32) (h : sm_H), zS l D aC B cX12_names 6 RX12 2 46 none "names" vlU (K33 a0 a1 a2 a3 a4 h) 33 [(0, vR (some a0)), (1, vR a1), (2, vI a2), (3, vI a3), (4, vI a4)] [] h) (n : Nat) : ∀ (a0 : Nat) (a1 : Option Nat) (a2 : Int32) (a3 : Int32) (a4 : Int32) (a5 : Int32) (h : sm_H), zS l D aC B cX12_names 6 RX12 2 46 none "names" vlU (fX12_names_52 K33 n a0 a1 a2 a3 a4 a5 h) 52 [(0, vR (some a0)), (1, vR a1), (2, vI a2), (3, vI a3), (4, vI a4), (5, vI a5)] [] h := by
  induction n with
  | zero => intro a0 a1 a2 a3 a4 a5 h; exact sm_none
  | succ n ih =>
    intro a0 a1 a2 a3 a4 a5 h
    show zS l D aC B cX12_names 6 RX12 2 46 none "names" vlU (fX12_names_52 K33 (n + 1) a0 a1 a2 a3 a4 a5 h) 52 [(0, vR (some a0)), (1, vR a1), (2, vI a2), (3, vI a3), (4, vI a4), (5, vI a5)] [] h
    unfold fX12_names_52
    refine sm_iload (i := 5) (j := 5) (pc' := 54) dX12_names_52 rfl rfl ?_
    refine sm_if_lt (tgt := 96) (pc' := 57) dX12_names_54 (by decide) rfl ?_ ?_
    · refine sm_iincL (i := 4) (j := 4) (x := a4) (d := (1 : Int32)) (fun x1 => [(4, vI x1), (0, vR (some a0)), (1, vR a1), (2, vI a2), (3, vI a3), (5, vI a5)]) (pc' := 99) dX12_names_96 rfl rfl (by decide) (by decide) (fun _ => rfl) (fun x1 => ?_)
      refine sm_goto (pc' := 33) dX12_names_99 (by decide) ?_
      refine sm_lo (lv' := [(0, vR (some a0)), (1, vR a1), (2, vI a2), (3, vI a3), (4, vI x1)]) [1, 2, 3, 4, 0] rfl ?_
      exact hK33 a0 a1 a2 a3 x1 h
    refine sm_aload_n (i := 0) (j := 0) (pc' := 58) dX12_names_57 rfl rfl rfl ?_
    refine sm_aload_n (i := 1) (j := 1) (pc' := 59) dX12_names_58 rfl rfl rfl ?_
    refine sm_iload_n (i := 2) (j := 2) (pc' := 60) dX12_names_59 rfl rfl rfl ?_
    refine sm_iload (i := 4) (j := 4) (pc' := 62) dX12_names_60 rfl rfl ?_
    refine sm_iadd (pc' := 63) dX12_names_62 rfl ?_
    refine sm_lald (t := 1) (pc' := 64) rfl dX12_names_63 rfl (fun x2 => ?_)
    refine sm_bipush (v := (7 : Int32)) (pc' := 66) dX12_names_64 rfl (by decide) ?_
    refine sm_iload (i := 5) (j := 5) (pc' := 68) dX12_names_66 rfl rfl ?_
    refine sm_imul (pc' := 69) dX12_names_68 rfl ?_
    refine sm_lshr (pc' := 70) dX12_names_69 rfl ?_
    refine sm_l2i (pc' := 71) dX12_names_70 rfl ?_
    refine sm_bipush (v := (127 : Int32)) (pc' := 73) dX12_names_71 rfl (by decide) ?_
    refine sm_iand (pc' := 74) dX12_names_73 rfl ?_
    refine sm_iload (i := 5) (j := 5) (pc' := 76) dX12_names_74 rfl rfl ?_
    refine sm_if_le (tgt := 85) (pc' := 79) dX12_names_76 (by decide) rfl ?_ ?_
    · refine sm_iconst (v := (0 : Int32)) (pc' := 86) dX12_names_85 rfl (by decide) ?_
      refine sm_ior (pc' := 87) dX12_names_86 rfl ?_
      refine sm_cVU (pc' := 90) (ci := 12) (st := []) (F := fun b => fX12_put b ((((x2 >>> (((7 : Int32) * a5).toInt64 &&& 63)).toInt32) &&& (127 : Int32)) ||| (0 : Int32)) h) [vI ((((x2 >>> (((7 : Int32) * a5).toInt64 &&& 63)).toInt32) &&& (127 : Int32)) ||| (0 : Int32))] yY_yX12_put rfl mw844 mw845 mw846 (fun b => mX12_put l D aC B b ((((x2 >>> (((7 : Int32) * a5).toInt64 &&& 63)).toInt32) &&& (127 : Int32)) ||| (0 : Int32)) h) rfl (by decide) (by decide) (by exact Nat.le_of_ble_eq_true rfl) rfl dX12_names_87 rfl (fun _ h3 => ?_)
      refine sm_iincL (i := 5) (j := 5) (x := a5) (d := (-1 : Int32)) (fun x4 => [(5, vI x4), (0, vR (some a0)), (1, vR a1), (2, vI a2), (3, vI a3), (4, vI a4)]) (pc' := 93) dX12_names_90 rfl rfl (by decide) (by decide) (fun _ => rfl) (fun x4 => ?_)
      refine sm_goto (pc' := 52) dX12_names_93 (by decide) ?_
      refine sm_lo (lv' := [(0, vR (some a0)), (1, vR a1), (2, vI a2), (3, vI a3), (4, vI a4), (5, vI x4)]) [1, 2, 3, 4, 5, 0] rfl ?_
      exact ih a0 a1 a2 a3 a4 x4 h3
    refine sm_sipush (v := (128 : Int32)) (pc' := 82) dX12_names_79 rfl (by decide) ?_
    refine sm_goto (pc' := 86) dX12_names_82 (by decide) ?_
    refine sm_ior (pc' := 87) dX12_names_86 rfl ?_
    refine sm_cVU (pc' := 90) (ci := 12) (st := []) (F := fun b => fX12_put b ((((x2 >>> (((7 : Int32) * a5).toInt64 &&& 63)).toInt32) &&& (127 : Int32)) ||| (128 : Int32)) h) [vI ((((x2 >>> (((7 : Int32) * a5).toInt64 &&& 63)).toInt32) &&& (127 : Int32)) ||| (128 : Int32))] yY_yX12_put rfl mw844 mw845 mw846 (fun b => mX12_put l D aC B b ((((x2 >>> (((7 : Int32) * a5).toInt64 &&& 63)).toInt32) &&& (127 : Int32)) ||| (128 : Int32)) h) rfl (by decide) (by decide) (by exact Nat.le_of_ble_eq_true rfl) rfl dX12_names_87 rfl (fun _ h6 => ?_)
    refine sm_iincL (i := 5) (j := 5) (x := a5) (d := (-1 : Int32)) (fun x7 => [(5, vI x7), (0, vR (some a0)), (1, vR a1), (2, vI a2), (3, vI a3), (4, vI a4)]) (pc' := 93) dX12_names_90 rfl rfl (by decide) (by decide) (fun _ => rfl) (fun x7 => ?_)
    refine sm_goto (pc' := 52) dX12_names_93 (by decide) ?_
    refine sm_lo (lv' := [(0, vR (some a0)), (1, vR a1), (2, vI a2), (3, vI a3), (4, vI a4), (5, vI x7)]) [1, 2, 3, 4, 5, 0] rfl ?_
    exact ih a0 a1 a2 a3 a4 x7 h6
noncomputable def fX12_names_33  : Nat → Nat → Option Nat → Int32 → Int32 → Int32 → sm_H → Option (Unit × sm_H)
  | 0 => fun _ _ _ _ _ _ => none
  | n + 1 => fun a0 a1 a2 a3 a4 h =>
    if a3 ≤ a4 then (
      some ((), h)
    ) else
    (sm_aJ h a1 1 (a2 + a4)).bind fun x1 =>
    sm_cb (fX12_partSize x1 h) fun x2 h3 =>
    sm_let (x2 - (1 : Int32)) fun x4 =>
    fX12_names_52 (fX12_names_33 n) sm_fuel a0 a1 a2 a3 a4 x4 h3
set_option maxRecDepth 100000 in
set_option maxHeartbeats 4000000 in
theorem sX12_names_33 (l : Launch) (D : va_G) (aC : Nat → ClassId) (B : Nat)   (n : Nat) : ∀ (a0 : Nat) (a1 : Option Nat) (a2 : Int32) (a3 : Int32) (a4 : Int32) (h : sm_H), zS l D aC B cX12_names 6 RX12 2 46 none "names" vlU (fX12_names_33 n a0 a1 a2 a3 a4 h) 33 [(0, vR (some a0)), (1, vR a1), (2, vI a2), (3, vI a3), (4, vI a4)] [] h := by
  induction n with
  | zero => intro a0 a1 a2 a3 a4 h; exact sm_none
  | succ n ih =>
    intro a0 a1 a2 a3 a4 h
    show zS l D aC B cX12_names 6 RX12 2 46 none "names" vlU (fX12_names_33 (n + 1) a0 a1 a2 a3 a4 h) 33 [(0, vR (some a0)), (1, vR a1), (2, vI a2), (3, vI a3), (4, vI a4)] [] h
    unfold fX12_names_33
    refine sm_iload (i := 4) (j := 4) (pc' := 35) dX12_names_33 rfl rfl ?_
    refine sm_iload_n (i := 3) (j := 3) (pc' := 36) dX12_names_35 rfl rfl rfl ?_
    refine sm_icmp_ge (tgt := 102) (pc' := 39) dX12_names_36 (by decide) rfl ?_ ?_
    · exact sm_vret rfl dX12_names_102
    refine sm_aload_n (i := 1) (j := 1) (pc' := 40) dX12_names_39 rfl rfl rfl ?_
    refine sm_iload_n (i := 2) (j := 2) (pc' := 41) dX12_names_40 rfl rfl rfl ?_
    refine sm_iload (i := 4) (j := 4) (pc' := 43) dX12_names_41 rfl rfl ?_
    refine sm_iadd (pc' := 44) dX12_names_43 rfl ?_
    refine sm_lald (t := 1) (pc' := 45) rfl dX12_names_44 rfl (fun x1 => ?_)
    refine sm_cSI (pc' := 48) (st := []) [vJ x1] yY_yX12_partSize mw821 mw822 (mX12_partSize l D aC B x1 h) rfl (by decide) (by decide) (by exact Nat.le_of_ble_eq_true rfl) rfl dX12_names_45 rfl (fun x2 h3 => ?_)
    refine sm_iconst (v := (1 : Int32)) (pc' := 49) dX12_names_48 rfl (by decide) ?_
    refine sm_isub (pc' := 50) dX12_names_49 rfl ?_
    refine sm_letIv (fun x4 => ?_)
    refine sm_istore (i := 5) (lv' := [(5, vI x4), (0, vR (some a0)), (1, vR a1), (2, vI a2), (3, vI a3), (4, vI a4)]) (pc' := 52) dX12_names_50 rfl (by decide) rfl ?_
    refine sm_lo (lv' := [(0, vR (some a0)), (1, vR a1), (2, vI a2), (3, vI a3), (4, vI a4), (5, vI x4)]) [1, 2, 3, 4, 5, 0] rfl ?_
    exact sX12_names_52 l D aC B  (fX12_names_33 n) ih sm_fuel a0 a1 a2 a3 a4 x4 h3
noncomputable def fX12_names  (a0 : Nat) (a1 : Option Nat) (a2 : Int32) (a3 : Int32) (h : sm_H) : Option (Unit × sm_H) :=
  sm_cb (fX12_nameOctets a1 a2 a3 h) fun x1 h2 =>
  (sm_obj h2 (some a0) 12).bind fun b8 =>
  sm_cb (fX12_head b8 (6 : Int32) x1 h2) fun _ h3 =>
  (sm_aJ h3 a1 1 a2).bind fun x4 =>
  (sm_aJ h3 a1 1 (a2 + (1 : Int32))).bind fun x5 =>
  (sm_obj h3 (some a0) 12).bind fun b7 =>
  sm_cb (fX12_put b7 ((((40 : Int64) * x4) + x5).toInt32) h3) fun _ h6 =>
  fX12_names_33 sm_fuel a0 a1 a2 a3 (2 : Int32) h6
set_option maxRecDepth 100000 in
set_option maxHeartbeats 4000000 in
theorem sX12_names_0 (l : Launch) (D : va_G) (aC : Nat → ClassId) (B : Nat)   (a0 : Nat) (a1 : Option Nat) (a2 : Int32) (a3 : Int32) (h : sm_H) : zS l D aC B cX12_names 6 RX12 2 46 none "names" vlU (fX12_names a0 a1 a2 a3 h) 0 [(0, vR (some a0)), (1, vR a1), (2, vI a2), (3, vI a3)] [] h := by
  unfold fX12_names
  refine sm_aload_n (i := 0) (j := 0) (pc' := 1) dX12_names_0 rfl rfl rfl ?_
  refine sm_bipush (v := (6 : Int32)) (pc' := 3) dX12_names_1 rfl (by decide) ?_
  refine sm_aload_n (i := 1) (j := 1) (pc' := 4) dX12_names_3 rfl rfl rfl ?_
  refine sm_iload_n (i := 2) (j := 2) (pc' := 5) dX12_names_4 rfl rfl rfl ?_
  refine sm_iload_n (i := 3) (j := 3) (pc' := 6) dX12_names_5 rfl rfl rfl ?_
  refine sm_cSI (pc' := 9) (st := [vI (6 : Int32), vR (some a0)]) [vR a1, vI a2, vI a3] yY_yX12_nameOctets mw825 mw826 (mX12_nameOctets l D aC B a1 a2 a3 h) rfl (by decide) (by decide) (by exact Nat.le_of_ble_eq_true rfl) rfl dX12_names_6 rfl (fun x1 h2 => ?_)
  refine sm_cVU (pc' := 12) (ci := 12) (st := []) (F := fun b => fX12_head b (6 : Int32) x1 h2) [vI (6 : Int32), vI x1] yY_yX12_head rfl mw847 mw848 mw849 (fun b => mX12_head l D aC B b (6 : Int32) x1 h2) rfl (by decide) (by decide) (by exact Nat.le_of_ble_eq_true rfl) rfl dX12_names_9 rfl (fun _ h3 => ?_)
  refine sm_aload_n (i := 0) (j := 0) (pc' := 13) dX12_names_12 rfl rfl rfl ?_
  refine sm_ldc2 (v := (40 : Int64)) (pc' := 16) dX12_names_13 rfl mw773 ?_
  refine sm_aload_n (i := 1) (j := 1) (pc' := 17) dX12_names_16 rfl rfl rfl ?_
  refine sm_iload_n (i := 2) (j := 2) (pc' := 18) dX12_names_17 rfl rfl rfl ?_
  refine sm_lald (t := 1) (pc' := 19) rfl dX12_names_18 rfl (fun x4 => ?_)
  refine sm_lmul (pc' := 20) dX12_names_19 rfl ?_
  refine sm_aload_n (i := 1) (j := 1) (pc' := 21) dX12_names_20 rfl rfl rfl ?_
  refine sm_iload_n (i := 2) (j := 2) (pc' := 22) dX12_names_21 rfl rfl rfl ?_
  refine sm_iconst (v := (1 : Int32)) (pc' := 23) dX12_names_22 rfl (by decide) ?_
  refine sm_iadd (pc' := 24) dX12_names_23 rfl ?_
  refine sm_lald (t := 1) (pc' := 25) rfl dX12_names_24 rfl (fun x5 => ?_)
  refine sm_ladd (pc' := 26) dX12_names_25 rfl ?_
  refine sm_l2i (pc' := 27) dX12_names_26 rfl ?_
  refine sm_cVU (pc' := 30) (ci := 12) (st := []) (F := fun b => fX12_put b ((((40 : Int64) * x4) + x5).toInt32) h3) [vI ((((40 : Int64) * x4) + x5).toInt32)] yY_yX12_put rfl mw844 mw845 mw846 (fun b => mX12_put l D aC B b ((((40 : Int64) * x4) + x5).toInt32) h3) rfl (by decide) (by decide) (by exact Nat.le_of_ble_eq_true rfl) rfl dX12_names_27 rfl (fun _ h6 => ?_)
  refine sm_iconst (v := (2 : Int32)) (pc' := 31) dX12_names_30 rfl (by decide) ?_
  refine sm_istore (i := 4) (lv' := [(4, vI (2 : Int32)), (0, vR (some a0)), (1, vR a1), (2, vI a2), (3, vI a3)]) (pc' := 33) dX12_names_31 rfl (by decide) rfl ?_
  refine sm_lo (lv' := [(0, vR (some a0)), (1, vR a1), (2, vI a2), (3, vI a3), (4, vI (2 : Int32))]) [1, 2, 3, 4, 0] rfl ?_
  exact sX12_names_33 l D aC B   sm_fuel a0 a1 a2 a3 (2 : Int32) h6
set_option maxRecDepth 100000 in
theorem mX12_names (l : Launch) (D : va_G) (aC : Nat → ClassId) (B : Nat) (a0 : Nat) (a1 : Option Nat) (a2 : Int32) (a3 : Int32) (h : sm_H) : sm_M l D vwCl gAts aC B gTs gNs gOs yX12_names cX12_names 6 none 2 46 vlU [vR (some a0), vR a1, vI a2, vI a3] h (fX12_names a0 a1 a2 a3 h) := sm_meth [vR (some a0), vR a1, vI a2, vI a3] yY_yX12_names gG gN (Nat.le_of_ble_eq_true rfl) rfl (sX12_names_0 l D aC B a0 a1 a2 a3 h)
-- M:TreeAgentModel.writeValue(I)V
noncomputable def fX12_writeValue_121  : Nat → Nat → Int32 → Int32 → sm_H → Option (Unit × sm_H)
  | 0 => fun _ _ _ _ => none
  | n + 1 => fun a0 a1 a3 h =>
    if a3 < 0 then (
      some ((), h)
    ) else
    (sm_R (sm_get h (some a0) 12 39)).bind fun x1 =>
    (sm_aJ h x1 1 a1).bind fun x2 =>
    (sm_obj h (some a0) 12).bind fun b5 =>
    sm_cb (fX12_put b5 ((x2 >>> (((8 : Int32) * a3).toInt64 &&& 63)).toInt32) h) fun _ h3 =>
    sm_let (a3 + (-1 : Int32)) fun x4 =>
    (fX12_writeValue_121 n) a0 a1 x4 h3
set_option maxRecDepth 100000 in
set_option maxHeartbeats 4000000 in
theorem sX12_writeValue_121 (l : Launch) (D : va_G) (aC : Nat → ClassId) (B : Nat)   (n : Nat) : ∀ (a0 : Nat) (a1 : Int32) (a3 : Int32) (h : sm_H), zS l D aC B cX12_writeValue 4 RX12 3 71 none "writeValue" vlU (fX12_writeValue_121 n a0 a1 a3 h) 121 [(0, vR (some a0)), (1, vI a1), (3, vI a3)] [] h := by
  induction n with
  | zero => intro a0 a1 a3 h; exact sm_none
  | succ n ih =>
    intro a0 a1 a3 h
    show zS l D aC B cX12_writeValue 4 RX12 3 71 none "writeValue" vlU (fX12_writeValue_121 (n + 1) a0 a1 a3 h) 121 [(0, vR (some a0)), (1, vI a1), (3, vI a3)] [] h
    unfold fX12_writeValue_121
    refine sm_iload_n (i := 3) (j := 2) (pc' := 122) dX12_writeValue_121 rfl rfl rfl ?_
    refine sm_if_lt (tgt := 147) (pc' := 125) dX12_writeValue_122 (by decide) rfl ?_ ?_
    · refine sm_goto (pc' := 161) dX12_writeValue_147 (by decide) ?_
      exact sm_vret rfl dX12_writeValue_161
    refine sm_aload_n (i := 0) (j := 0) (pc' := 126) dX12_writeValue_125 rfl rfl rfl ?_
    refine sm_aload_n (i := 0) (j := 0) (pc' := 127) dX12_writeValue_126 rfl rfl rfl ?_
    refine sm_getR (k := 39) (pc' := 130) kX12 (by decide) mw689 dX12_writeValue_127 rfl (fun x1 => ?_)
    refine sm_iload_n (i := 1) (j := 1) (pc' := 131) dX12_writeValue_130 rfl rfl rfl ?_
    refine sm_lald (t := 1) (pc' := 132) rfl dX12_writeValue_131 rfl (fun x2 => ?_)
    refine sm_bipush (v := (8 : Int32)) (pc' := 134) dX12_writeValue_132 rfl (by decide) ?_
    refine sm_iload_n (i := 3) (j := 2) (pc' := 135) dX12_writeValue_134 rfl rfl rfl ?_
    refine sm_imul (pc' := 136) dX12_writeValue_135 rfl ?_
    refine sm_lshr (pc' := 137) dX12_writeValue_136 rfl ?_
    refine sm_l2i (pc' := 138) dX12_writeValue_137 rfl ?_
    refine sm_cVU (pc' := 141) (ci := 12) (st := []) (F := fun b => fX12_put b ((x2 >>> (((8 : Int32) * a3).toInt64 &&& 63)).toInt32) h) [vI ((x2 >>> (((8 : Int32) * a3).toInt64 &&& 63)).toInt32)] yY_yX12_put rfl mw844 mw845 mw846 (fun b => mX12_put l D aC B b ((x2 >>> (((8 : Int32) * a3).toInt64 &&& 63)).toInt32) h) rfl (by decide) (by decide) (by exact Nat.le_of_ble_eq_true rfl) rfl dX12_writeValue_138 rfl (fun _ h3 => ?_)
    refine sm_iincL (i := 3) (j := 2) (x := a3) (d := (-1 : Int32)) (fun x4 => [(3, vI x4), (0, vR (some a0)), (1, vI a1)]) (pc' := 144) dX12_writeValue_141 rfl rfl (by decide) (by decide) (fun _ => rfl) (fun x4 => ?_)
    refine sm_goto (pc' := 121) dX12_writeValue_144 (by decide) ?_
    refine sm_lo (lv' := [(0, vR (some a0)), (1, vI a1), (3, vI x4)]) [1, 2, 0] rfl ?_
    exact ih a0 a1 x4 h3
noncomputable def fX12_writeValue_45  : Nat → Nat → Int32 → Int32 → sm_H → Option (Unit × sm_H)
  | 0 => fun _ _ _ _ => none
  | n + 1 => fun a0 a1 a3 h =>
    (sm_R (sm_get h (some a0) 12 41)).bind fun x1 =>
    (sm_aI h x1 0 a1).bind fun x2 =>
    if x2 ≤ a3 then (
      some ((), h)
    ) else
    (sm_R (sm_get h (some a0) 12 40)).bind fun x3 =>
    (sm_aI h x3 3 (((40 : Int32) * a1) + a3)).bind fun x4 =>
    (sm_obj h (some a0) 12).bind fun b7 =>
    sm_cb (fX12_put b7 x4 h) fun _ h5 =>
    sm_let (a3 + (1 : Int32)) fun x6 =>
    (fX12_writeValue_45 n) a0 a1 x6 h5
set_option maxRecDepth 100000 in
set_option maxHeartbeats 4000000 in
theorem sX12_writeValue_45 (l : Launch) (D : va_G) (aC : Nat → ClassId) (B : Nat)   (n : Nat) : ∀ (a0 : Nat) (a1 : Int32) (a3 : Int32) (h : sm_H), zS l D aC B cX12_writeValue 4 RX12 3 71 none "writeValue" vlU (fX12_writeValue_45 n a0 a1 a3 h) 45 [(0, vR (some a0)), (1, vI a1), (3, vI a3)] [] h := by
  induction n with
  | zero => intro a0 a1 a3 h; exact sm_none
  | succ n ih =>
    intro a0 a1 a3 h
    show zS l D aC B cX12_writeValue 4 RX12 3 71 none "writeValue" vlU (fX12_writeValue_45 (n + 1) a0 a1 a3 h) 45 [(0, vR (some a0)), (1, vI a1), (3, vI a3)] [] h
    unfold fX12_writeValue_45
    refine sm_iload_n (i := 3) (j := 2) (pc' := 46) dX12_writeValue_45 rfl rfl rfl ?_
    refine sm_aload_n (i := 0) (j := 0) (pc' := 47) dX12_writeValue_46 rfl rfl rfl ?_
    refine sm_getR (k := 41) (pc' := 50) kX12 (by decide) mw691 dX12_writeValue_47 rfl (fun x1 => ?_)
    refine sm_iload_n (i := 1) (j := 1) (pc' := 51) dX12_writeValue_50 rfl rfl rfl ?_
    refine sm_iald (t := 0) (pc' := 52) rfl dX12_writeValue_51 rfl (fun x2 => ?_)
    refine sm_icmp_ge (tgt := 76) (pc' := 55) dX12_writeValue_52 (by decide) rfl ?_ ?_
    · refine sm_goto (pc' := 161) dX12_writeValue_76 (by decide) ?_
      exact sm_vret rfl dX12_writeValue_161
    refine sm_aload_n (i := 0) (j := 0) (pc' := 56) dX12_writeValue_55 rfl rfl rfl ?_
    refine sm_aload_n (i := 0) (j := 0) (pc' := 57) dX12_writeValue_56 rfl rfl rfl ?_
    refine sm_getR (k := 40) (pc' := 60) kX12 (by decide) mw690 dX12_writeValue_57 rfl (fun x3 => ?_)
    refine sm_bipush (v := (40 : Int32)) (pc' := 62) dX12_writeValue_60 rfl (by decide) ?_
    refine sm_iload_n (i := 1) (j := 1) (pc' := 63) dX12_writeValue_62 rfl rfl rfl ?_
    refine sm_imul (pc' := 64) dX12_writeValue_63 rfl ?_
    refine sm_iload_n (i := 3) (j := 2) (pc' := 65) dX12_writeValue_64 rfl rfl rfl ?_
    refine sm_iadd (pc' := 66) dX12_writeValue_65 rfl ?_
    refine sm_bald (t := 3) (pc' := 67) rfl dX12_writeValue_66 rfl (fun x4 => ?_)
    refine sm_cVU (pc' := 70) (ci := 12) (st := []) (F := fun b => fX12_put b x4 h) [vI x4] yY_yX12_put rfl mw844 mw845 mw846 (fun b => mX12_put l D aC B b x4 h) rfl (by decide) (by decide) (by exact Nat.le_of_ble_eq_true rfl) rfl dX12_writeValue_67 rfl (fun _ h5 => ?_)
    refine sm_iincL (i := 3) (j := 2) (x := a3) (d := (1 : Int32)) (fun x6 => [(3, vI x6), (0, vR (some a0)), (1, vI a1)]) (pc' := 73) dX12_writeValue_70 rfl rfl (by decide) (by decide) (fun _ => rfl) (fun x6 => ?_)
    refine sm_goto (pc' := 45) dX12_writeValue_73 (by decide) ?_
    refine sm_lo (lv' := [(0, vR (some a0)), (1, vI a1), (3, vI x6)]) [1, 2, 0] rfl ?_
    exact ih a0 a1 x6 h5
noncomputable def fX12_writeValue  (a0 : Nat) (a1 : Int32) (h : sm_H) : Option (Unit × sm_H) :=
  (sm_R (sm_get h (some a0) 12 38)).bind fun x1 =>
  (sm_aI h x1 0 a1).bind fun x2 =>
  if x2 = (5 : Int32) then (
    (sm_obj h (some a0) 12).bind fun b4 =>
    sm_cb (fX12_head b4 x2 (0 : Int32) h) fun _ h3 =>
    some ((), h3)
  ) else
  if x2 ≤ (127 : Int32) then (
    if x2 = (4 : Int32) then (
      (sm_R (sm_get h (some a0) 12 41)).bind fun x16 =>
      (sm_aI h x16 0 a1).bind fun x17 =>
      (sm_obj h (some a0) 12).bind fun b19 =>
      sm_cb (fX12_head b19 (4 : Int32) x17 h) fun _ h18 =>
      fX12_writeValue_45 sm_fuel a0 a1 (0 : Int32) h18
    ) else
    if x2 = (6 : Int32) then (
      (sm_R (sm_get h (some a0) 12 42)).bind fun x11 =>
      (sm_R (sm_get h (some a0) 12 43)).bind fun x12 =>
      (sm_aI h x12 0 a1).bind fun x13 =>
      (sm_obj h (some a0) 12).bind fun b15 =>
      sm_cb (fX12_names b15 x11 ((16 : Int32) * a1) x13 h) fun _ h14 =>
      some ((), h14)
    ) else
    if x2 = (64 : Int32) then (
      (sm_obj h (some a0) 12).bind fun b10 =>
      sm_cb (fX12_head b10 (64 : Int32) (4 : Int32) h) fun _ h9 =>
      fX12_writeValue_121 sm_fuel a0 a1 (3 : Int32) h9
    ) else
    (sm_R (sm_get h (some a0) 12 39)).bind fun x5 =>
    (sm_aJ h x5 1 a1).bind fun x6 =>
    (sm_obj h (some a0) 12).bind fun b8 =>
    sm_cb (fX12_writeNumber b8 x2 x6 h) fun _ h7 =>
    some ((), h7)
  ) else
  (sm_obj h (some a0) 12).bind fun b21 =>
  sm_cb (fX12_head b21 x2 (0 : Int32) h) fun _ h20 =>
  some ((), h20)
set_option maxRecDepth 100000 in
set_option maxHeartbeats 4000000 in
theorem sX12_writeValue_0 (l : Launch) (D : va_G) (aC : Nat → ClassId) (B : Nat)   (a0 : Nat) (a1 : Int32) (h : sm_H) : zS l D aC B cX12_writeValue 4 RX12 3 71 none "writeValue" vlU (fX12_writeValue a0 a1 h) 0 [(0, vR (some a0)), (1, vI a1)] [] h := by
  unfold fX12_writeValue
  refine sm_aload_n (i := 0) (j := 0) (pc' := 1) dX12_writeValue_0 rfl rfl rfl ?_
  refine sm_getR (k := 38) (pc' := 4) kX12 (by decide) mw688 dX12_writeValue_1 rfl (fun x1 => ?_)
  refine sm_iload_n (i := 1) (j := 1) (pc' := 5) dX12_writeValue_4 rfl rfl rfl ?_
  refine sm_iald (t := 0) (pc' := 6) rfl dX12_writeValue_5 rfl (fun x2 => ?_)
  refine sm_istore_n (i := 2) (lv' := [(2, vI x2), (0, vR (some a0)), (1, vI a1)]) (pc' := 7) dX12_writeValue_6 rfl rfl (by decide) rfl ?_
  refine sm_iload_n (i := 2) (j := 0) (pc' := 8) dX12_writeValue_7 rfl rfl rfl ?_
  refine sm_iconst (v := (5 : Int32)) (pc' := 9) dX12_writeValue_8 rfl (by decide) ?_
  refine sm_icmp_eq (tgt := 18) (pc' := 12) dX12_writeValue_9 (by decide) rfl ?_ ?_
  · refine sm_aload_n (i := 0) (j := 1) (pc' := 19) dX12_writeValue_18 rfl rfl rfl ?_
    refine sm_iload_n (i := 2) (j := 0) (pc' := 20) dX12_writeValue_19 rfl rfl rfl ?_
    refine sm_iconst (v := (0 : Int32)) (pc' := 21) dX12_writeValue_20 rfl (by decide) ?_
    refine sm_cVU (pc' := 24) (ci := 12) (st := []) (F := fun b => fX12_head b x2 (0 : Int32) h) [vI x2, vI (0 : Int32)] yY_yX12_head rfl mw847 mw848 mw849 (fun b => mX12_head l D aC B b x2 (0 : Int32) h) rfl (by decide) (by decide) (by exact Nat.le_of_ble_eq_true rfl) rfl dX12_writeValue_21 rfl (fun _ h3 => ?_)
    refine sm_goto (pc' := 161) dX12_writeValue_24 (by decide) ?_
    exact sm_vret rfl dX12_writeValue_161
  refine sm_iload_n (i := 2) (j := 0) (pc' := 13) dX12_writeValue_12 rfl rfl rfl ?_
  refine sm_bipush (v := (127 : Int32)) (pc' := 15) dX12_writeValue_13 rfl (by decide) ?_
  refine sm_icmp_le (tgt := 27) (pc' := 18) dX12_writeValue_15 (by decide) rfl ?_ ?_
  · refine sm_iload_n (i := 2) (j := 0) (pc' := 28) dX12_writeValue_27 rfl rfl rfl ?_
    refine sm_iconst (v := (4 : Int32)) (pc' := 29) dX12_writeValue_28 rfl (by decide) ?_
    refine sm_icmp_ne (tgt := 79) (pc' := 32) dX12_writeValue_29 (by decide) rfl ?_ ?_
    · refine sm_iload_n (i := 2) (j := 0) (pc' := 80) dX12_writeValue_79 rfl rfl rfl ?_
      refine sm_bipush (v := (6 : Int32)) (pc' := 82) dX12_writeValue_80 rfl (by decide) ?_
      refine sm_icmp_ne (tgt := 106) (pc' := 85) dX12_writeValue_82 (by decide) rfl ?_ ?_
      · refine sm_iload_n (i := 2) (j := 0) (pc' := 107) dX12_writeValue_106 rfl rfl rfl ?_
        refine sm_bipush (v := (64 : Int32)) (pc' := 109) dX12_writeValue_107 rfl (by decide) ?_
        refine sm_icmp_ne (tgt := 150) (pc' := 112) dX12_writeValue_109 (by decide) rfl ?_ ?_
        · refine sm_aload_n (i := 0) (j := 1) (pc' := 151) dX12_writeValue_150 rfl rfl rfl ?_
          refine sm_iload_n (i := 2) (j := 0) (pc' := 152) dX12_writeValue_151 rfl rfl rfl ?_
          refine sm_aload_n (i := 0) (j := 1) (pc' := 153) dX12_writeValue_152 rfl rfl rfl ?_
          refine sm_getR (k := 39) (pc' := 156) kX12 (by decide) mw689 dX12_writeValue_153 rfl (fun x5 => ?_)
          refine sm_iload_n (i := 1) (j := 2) (pc' := 157) dX12_writeValue_156 rfl rfl rfl ?_
          refine sm_lald (t := 1) (pc' := 158) rfl dX12_writeValue_157 rfl (fun x6 => ?_)
          refine sm_cVU (pc' := 161) (ci := 12) (st := []) (F := fun b => fX12_writeNumber b x2 x6 h) [vI x2, vJ x6] yY_yX12_writeNumber rfl mw850 mw851 mw852 (fun b => mX12_writeNumber l D aC B b x2 x6 h) rfl (by decide) (by decide) (by exact Nat.le_of_ble_eq_true rfl) rfl dX12_writeValue_158 rfl (fun _ h7 => ?_)
          exact sm_vret rfl dX12_writeValue_161
        refine sm_aload_n (i := 0) (j := 1) (pc' := 113) dX12_writeValue_112 rfl rfl rfl ?_
        refine sm_bipush (v := (64 : Int32)) (pc' := 115) dX12_writeValue_113 rfl (by decide) ?_
        refine sm_iconst (v := (4 : Int32)) (pc' := 116) dX12_writeValue_115 rfl (by decide) ?_
        refine sm_cVU (pc' := 119) (ci := 12) (st := []) (F := fun b => fX12_head b (64 : Int32) (4 : Int32) h) [vI (64 : Int32), vI (4 : Int32)] yY_yX12_head rfl mw847 mw848 mw849 (fun b => mX12_head l D aC B b (64 : Int32) (4 : Int32) h) rfl (by decide) (by decide) (by exact Nat.le_of_ble_eq_true rfl) rfl dX12_writeValue_116 rfl (fun _ h9 => ?_)
        refine sm_iconst (v := (3 : Int32)) (pc' := 120) dX12_writeValue_119 rfl (by decide) ?_
        refine sm_istore_n (i := 3) (lv' := [(3, vI (3 : Int32)), (2, vI x2), (0, vR (some a0)), (1, vI a1)]) (pc' := 121) dX12_writeValue_120 rfl rfl (by decide) rfl ?_
        refine sm_lo (lv' := [(0, vR (some a0)), (1, vI a1), (3, vI (3 : Int32))]) [2, 3, 0] rfl ?_
        exact sX12_writeValue_121 l D aC B   sm_fuel a0 a1 (3 : Int32) h9
      refine sm_aload_n (i := 0) (j := 1) (pc' := 86) dX12_writeValue_85 rfl rfl rfl ?_
      refine sm_aload_n (i := 0) (j := 1) (pc' := 87) dX12_writeValue_86 rfl rfl rfl ?_
      refine sm_getR (k := 42) (pc' := 90) kX12 (by decide) mw692 dX12_writeValue_87 rfl (fun x11 => ?_)
      refine sm_bipush (v := (16 : Int32)) (pc' := 92) dX12_writeValue_90 rfl (by decide) ?_
      refine sm_iload_n (i := 1) (j := 2) (pc' := 93) dX12_writeValue_92 rfl rfl rfl ?_
      refine sm_imul (pc' := 94) dX12_writeValue_93 rfl ?_
      refine sm_aload_n (i := 0) (j := 1) (pc' := 95) dX12_writeValue_94 rfl rfl rfl ?_
      refine sm_getR (k := 43) (pc' := 98) kX12 (by decide) mw693 dX12_writeValue_95 rfl (fun x12 => ?_)
      refine sm_iload_n (i := 1) (j := 2) (pc' := 99) dX12_writeValue_98 rfl rfl rfl ?_
      refine sm_iald (t := 0) (pc' := 100) rfl dX12_writeValue_99 rfl (fun x13 => ?_)
      refine sm_cVU (pc' := 103) (ci := 12) (st := []) (F := fun b => fX12_names b x11 ((16 : Int32) * a1) x13 h) [vR x11, vI ((16 : Int32) * a1), vI x13] yY_yX12_names rfl mw853 mw854 mw855 (fun b => mX12_names l D aC B b x11 ((16 : Int32) * a1) x13 h) rfl (by decide) (by decide) (by exact Nat.le_of_ble_eq_true rfl) rfl dX12_writeValue_100 rfl (fun _ h14 => ?_)
      refine sm_goto (pc' := 161) dX12_writeValue_103 (by decide) ?_
      exact sm_vret rfl dX12_writeValue_161
    refine sm_aload_n (i := 0) (j := 1) (pc' := 33) dX12_writeValue_32 rfl rfl rfl ?_
    refine sm_iconst (v := (4 : Int32)) (pc' := 34) dX12_writeValue_33 rfl (by decide) ?_
    refine sm_aload_n (i := 0) (j := 1) (pc' := 35) dX12_writeValue_34 rfl rfl rfl ?_
    refine sm_getR (k := 41) (pc' := 38) kX12 (by decide) mw691 dX12_writeValue_35 rfl (fun x16 => ?_)
    refine sm_iload_n (i := 1) (j := 2) (pc' := 39) dX12_writeValue_38 rfl rfl rfl ?_
    refine sm_iald (t := 0) (pc' := 40) rfl dX12_writeValue_39 rfl (fun x17 => ?_)
    refine sm_cVU (pc' := 43) (ci := 12) (st := []) (F := fun b => fX12_head b (4 : Int32) x17 h) [vI (4 : Int32), vI x17] yY_yX12_head rfl mw847 mw848 mw849 (fun b => mX12_head l D aC B b (4 : Int32) x17 h) rfl (by decide) (by decide) (by exact Nat.le_of_ble_eq_true rfl) rfl dX12_writeValue_40 rfl (fun _ h18 => ?_)
    refine sm_iconst (v := (0 : Int32)) (pc' := 44) dX12_writeValue_43 rfl (by decide) ?_
    refine sm_istore_n (i := 3) (lv' := [(3, vI (0 : Int32)), (2, vI x2), (0, vR (some a0)), (1, vI a1)]) (pc' := 45) dX12_writeValue_44 rfl rfl (by decide) rfl ?_
    refine sm_lo (lv' := [(0, vR (some a0)), (1, vI a1), (3, vI (0 : Int32))]) [2, 3, 0] rfl ?_
    exact sX12_writeValue_45 l D aC B   sm_fuel a0 a1 (0 : Int32) h18
  refine sm_aload_n (i := 0) (j := 1) (pc' := 19) dX12_writeValue_18 rfl rfl rfl ?_
  refine sm_iload_n (i := 2) (j := 0) (pc' := 20) dX12_writeValue_19 rfl rfl rfl ?_
  refine sm_iconst (v := (0 : Int32)) (pc' := 21) dX12_writeValue_20 rfl (by decide) ?_
  refine sm_cVU (pc' := 24) (ci := 12) (st := []) (F := fun b => fX12_head b x2 (0 : Int32) h) [vI x2, vI (0 : Int32)] yY_yX12_head rfl mw847 mw848 mw849 (fun b => mX12_head l D aC B b x2 (0 : Int32) h) rfl (by decide) (by decide) (by exact Nat.le_of_ble_eq_true rfl) rfl dX12_writeValue_21 rfl (fun _ h20 => ?_)
  refine sm_goto (pc' := 161) dX12_writeValue_24 (by decide) ?_
  exact sm_vret rfl dX12_writeValue_161
set_option maxRecDepth 100000 in
theorem mX12_writeValue (l : Launch) (D : va_G) (aC : Nat → ClassId) (B : Nat) (a0 : Nat) (a1 : Int32) (h : sm_H) : sm_M l D vwCl gAts aC B gTs gNs gOs yX12_writeValue cX12_writeValue 4 none 3 71 vlU [vR (some a0), vI a1] h (fX12_writeValue a0 a1 h) := sm_meth [vR (some a0), vI a1] yY_yX12_writeValue gG gN (Nat.le_of_ble_eq_true rfl) rfl (sX12_writeValue_0 l D aC B a0 a1 h)
