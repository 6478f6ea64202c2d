-- M:TreeAgent$Table.slotHolding(J)I
noncomputable def fX7_slotHolding_2  : Nat → Nat → Int64 → Int32 → sm_H → Option (Int32 × sm_H)
  | 0 => fun _ _ _ _ => none
  | n + 1 => fun a0 a1 a3 h =>
    (sm_R (sm_get h (some a0) 7 2)).bind fun x1 =>
    (sm_len h x1 0).bind fun x2 =>
    if x2 ≤ a3 then (
      some ((-1 : Int32), h)
    ) else
    (sm_R (sm_get h (some a0) 7 2)).bind fun x3 =>
    (sm_aI h x3 0 a3).bind fun x4 =>
    if (lg_cmp (x4.toInt64) a1) = 0 then (
      some (a3, h)
    ) else
    sm_let (a3 + (1 : Int32)) fun x5 =>
    (fX7_slotHolding_2 n) a0 a1 x5 h
set_option maxRecDepth 100000 in
set_option maxHeartbeats 4000000 in
theorem sX7_slotHolding_2 (l : Launch) (D : va_G) (aC : Nat → ClassId) (B : Nat)   (n : Nat) : ∀ (a0 : Nat) (a1 : Int64) (a3 : Int32) (h : sm_H), zS l D aC B cX7_slotHolding 4 RX7 0 0 (some .int) "slotHolding" vlI (fX7_slotHolding_2 n a0 a1 a3 h) 2 [(0, vR (some a0)), (1, vJ a1), (3, vI a3)] [] h := by
  induction n with
  | zero => intro a0 a1 a3 h; exact sm_none
  | succ n ih =>
    intro a0 a1 a3 h
    show zS l D aC B cX7_slotHolding 4 RX7 0 0 (some .int) "slotHolding" vlI (fX7_slotHolding_2 (n + 1) a0 a1 a3 h) 2 [(0, vR (some a0)), (1, vJ a1), (3, vI a3)] [] h
    unfold fX7_slotHolding_2
    refine sm_iload_n (i := 3) (j := 2) (pc' := 3) dX7_slotHolding_2 rfl rfl rfl ?_
    refine sm_aload_n (i := 0) (j := 0) (pc' := 4) dX7_slotHolding_3 rfl rfl rfl ?_
    refine sm_getR (k := 2) (pc' := 7) kX7 (by decide) mw56 dX7_slotHolding_4 rfl (fun x1 => ?_)
    refine sm_alen (t := 0) (pc' := 8) rfl dX7_slotHolding_7 rfl (fun x2 => ?_)
    refine sm_icmp_ge (tgt := 31) (pc' := 11) dX7_slotHolding_8 (by decide) rfl ?_ ?_
    · refine sm_iconst (v := (-1 : Int32)) (pc' := 32) dX7_slotHolding_31 rfl (by decide) ?_
      exact sm_iret rfl dX7_slotHolding_32
    refine sm_aload_n (i := 0) (j := 0) (pc' := 12) dX7_slotHolding_11 rfl rfl rfl ?_
    refine sm_getR (k := 2) (pc' := 15) kX7 (by decide) mw56 dX7_slotHolding_12 rfl (fun x3 => ?_)
    refine sm_iload_n (i := 3) (j := 2) (pc' := 16) dX7_slotHolding_15 rfl rfl rfl ?_
    refine sm_iald (t := 0) (pc' := 17) rfl dX7_slotHolding_16 rfl (fun x4 => ?_)
    refine sm_i2l (pc' := 18) dX7_slotHolding_17 rfl ?_
    refine sm_lload_n (i := 1) (j := 1) (pc' := 19) dX7_slotHolding_18 rfl rfl rfl ?_
    refine sm_lcmp (pc' := 20) dX7_slotHolding_19 rfl ?_
    refine sm_if_ne (tgt := 25) (pc' := 23) dX7_slotHolding_20 (by decide) rfl ?_ ?_
    · refine sm_iincL (i := 3) (j := 2) (x := a3) (d := (1 : Int32)) (fun x5 => [(3, vI x5), (0, vR (some a0)), (1, vJ a1)]) (pc' := 28) dX7_slotHolding_25 rfl rfl (by decide) (by decide) (fun _ => rfl) (fun x5 => ?_)
      refine sm_goto (pc' := 2) dX7_slotHolding_28 (by decide) ?_
      refine sm_lo (lv' := [(0, vR (some a0)), (1, vJ a1), (3, vI x5)]) [1, 2, 0] rfl ?_
      exact ih a0 a1 x5 h
    refine sm_iload_n (i := 3) (j := 2) (pc' := 24) dX7_slotHolding_23 rfl rfl rfl ?_
    exact sm_iret rfl dX7_slotHolding_24
noncomputable def fX7_slotHolding  (a0 : Nat) (a1 : Int64) (h : sm_H) : Option (Int32 × sm_H) :=
  fX7_slotHolding_2 sm_fuel a0 a1 (0 : Int32) h
set_option maxRecDepth 100000 in
set_option maxHeartbeats 4000000 in
theorem sX7_slotHolding_0 (l : Launch) (D : va_G) (aC : Nat → ClassId) (B : Nat)   (a0 : Nat) (a1 : Int64) (h : sm_H) : zS l D aC B cX7_slotHolding 4 RX7 0 0 (some .int) "slotHolding" vlI (fX7_slotHolding a0 a1 h) 0 [(0, vR (some a0)), (1, vJ a1)] [] h := by
  unfold fX7_slotHolding
  refine sm_iconst (v := (0 : Int32)) (pc' := 1) dX7_slotHolding_0 rfl (by decide) ?_
  refine sm_istore_n (i := 3) (lv' := [(3, vI (0 : Int32)), (0, vR (some a0)), (1, vJ a1)]) (pc' := 2) dX7_slotHolding_1 rfl rfl (by decide) rfl ?_
  refine sm_lo (lv' := [(0, vR (some a0)), (1, vJ a1), (3, vI (0 : Int32))]) [1, 2, 0] rfl ?_
  exact sX7_slotHolding_2 l D aC B   sm_fuel a0 a1 (0 : Int32) h
set_option maxRecDepth 100000 in
theorem mX7_slotHolding (l : Launch) (D : va_G) (aC : Nat → ClassId) (B : Nat) (a0 : Nat) (a1 : Int64) (h : sm_H) : sm_M l D vwCl gAts aC B gTs gNs gOs yX7_slotHolding cX7_slotHolding 4 (some .int) 0 0 vlI [vR (some a0), vJ a1] h (fX7_slotHolding a0 a1 h) := sm_meth [vR (some a0), vJ a1] yY_yX7_slotHolding gG gN (Nat.le_of_ble_eq_true rfl) rfl (sX7_slotHolding_0 l D aC B a0 a1 h)
-- M:TreeAgent$Table.slotOf(J)I
noncomputable def fX7_slotOf  (a0 : Nat) (a1 : Int64) (h : sm_H) : Option (Int32 × sm_H) :=
  if 0 ≤ (lg_cmp a1 (1 : Int64)) then (
    (sm_obj h (some a0) 7).bind fun b3 =>
    sm_cb (fX7_slotHolding b3 a1 h) fun x1 h2 =>
    some (x1, h2)
  ) else
  some ((-1 : Int32), h)
set_option maxRecDepth 100000 in
set_option maxHeartbeats 4000000 in
theorem sX7_slotOf_0 (l : Launch) (D : va_G) (aC : Nat → ClassId) (B : Nat)   (a0 : Nat) (a1 : Int64) (h : sm_H) : zS l D aC B cX7_slotOf 3 RX7 1 23 (some .int) "slotOf" vlI (fX7_slotOf a0 a1 h) 0 [(0, vR (some a0)), (1, vJ a1)] [] h := by
  unfold fX7_slotOf
  refine sm_lload_n (i := 1) (j := 1) (pc' := 1) dX7_slotOf_0 rfl rfl rfl ?_
  refine sm_lconst (v := (1 : Int64)) (pc' := 2) dX7_slotOf_1 rfl (by decide) ?_
  refine sm_lcmp (pc' := 3) dX7_slotOf_2 rfl ?_
  refine sm_if_ge (tgt := 10) (pc' := 6) dX7_slotOf_3 (by decide) rfl ?_ ?_
  · refine sm_aload_n (i := 0) (j := 0) (pc' := 11) dX7_slotOf_10 rfl rfl rfl ?_
    refine sm_lload_n (i := 1) (j := 1) (pc' := 12) dX7_slotOf_11 rfl rfl rfl ?_
    refine sm_cVI (pc' := 15) (ci := 7) (st := []) (F := fun b => fX7_slotHolding b a1 h) [vJ a1] yY_yX7_slotHolding rfl mw57 mw58 mw59 (fun b => mX7_slotHolding l D aC B b a1 h) rfl (by decide) (by decide) (by exact Nat.le_of_ble_eq_true rfl) rfl dX7_slotOf_12 rfl (fun x1 h2 => ?_)
    exact sm_iret rfl dX7_slotOf_15
  refine sm_iconst (v := (-1 : Int32)) (pc' := 7) dX7_slotOf_6 rfl (by decide) ?_
  refine sm_goto (pc' := 15) dX7_slotOf_7 (by decide) ?_
  exact sm_iret rfl dX7_slotOf_15
set_option maxRecDepth 100000 in
theorem mX7_slotOf (l : Launch) (D : va_G) (aC : Nat → ClassId) (B : Nat) (a0 : Nat) (a1 : Int64) (h : sm_H) : sm_M l D vwCl gAts aC B gTs gNs gOs yX7_slotOf cX7_slotOf 3 (some .int) 1 23 vlI [vR (some a0), vJ a1] h (fX7_slotOf a0 a1 h) := sm_meth [vR (some a0), vJ a1] yY_yX7_slotOf gG gN (Nat.le_of_ble_eq_true rfl) rfl (sX7_slotOf_0 l D aC B a0 a1 h)
-- M:TreeAgent$Change.indexMade(LTreeAgent$Pair;LTreeAgent$Table;)J
noncomputable def fX1_indexMade_90  (a0 : Option Nat) (a2 : Option Nat) (s0 : Int32) (h : sm_H) : Option (Int64 × sm_H) :=
  if s0 = 0 then (
    some ((-1 : Int64), h)
  ) else
  (sm_R (sm_get h a0 4 0)).bind fun x1 =>
  (sm_R (sm_get h a2 8 0)).bind fun x2 =>
  (sm_obj h x2 0).bind fun b8 =>
  sm_cb (fX0_size b8 h) fun x3 h4 =>
  (sm_obj h4 x1 0).bind fun b7 =>
  sm_cb (fX0_at b7 x3 h4) fun x5 h6 =>
  some (x5, h6)
set_option maxRecDepth 100000 in
set_option maxHeartbeats 4000000 in
theorem sX1_indexMade_90 (l : Launch) (D : va_G) (aC : Nat → ClassId) (B : Nat)   (a0 : Option Nat) (a2 : Option Nat) (s0 : Int32) (h : sm_H) : zS l D aC B cX1_indexMade 4 RX1 2 44 (some .long) "indexMade" vlJ (fX1_indexMade_90 a0 a2 s0 h) 90 [(0, vR a0), (2, vR a2)] [vI s0] h := by
  unfold fX1_indexMade_90
  refine sm_istore_n (i := 3) (lv' := [(3, vI s0), (0, vR a0), (2, vR a2)]) (pc' := 91) dX1_indexMade_90 rfl rfl (by decide) rfl ?_
  refine sm_iload_n (i := 3) (j := 0) (pc' := 92) dX1_indexMade_91 rfl rfl rfl ?_
  refine sm_if_eq (tgt := 112) (pc' := 95) dX1_indexMade_92 (by decide) rfl ?_ ?_
  · refine sm_ldc2 (v := (-1 : Int64)) (pc' := 115) dX1_indexMade_112 rfl mw60 ?_
    exact sm_lret rfl dX1_indexMade_115
  refine sm_aload_n (i := 0) (j := 1) (pc' := 96) dX1_indexMade_95 rfl rfl rfl ?_
  refine sm_getRN (k := 0) (pc' := 99) kX4 (by decide) mw61 dX1_indexMade_96 rfl (fun x1 => ?_)
  refine sm_aload_n (i := 2) (j := 2) (pc' := 100) dX1_indexMade_99 rfl rfl rfl ?_
  refine sm_getRN (k := 0) (pc' := 103) kX8 (by decide) mw62 dX1_indexMade_100 rfl (fun x2 => ?_)
  refine sm_cVI (pc' := 106) (ci := 0) (st := [vR x1]) (F := fun b => fX0_size b h) [] yY_yX0_size rfl mw63 mw32 mw33 (fun b => mX0_size l D aC B b h) rfl (by decide) (by decide) (by exact Nat.le_of_ble_eq_true rfl) rfl dX1_indexMade_103 rfl (fun x3 h4 => ?_)
  refine sm_cVJ (pc' := 109) (ci := 0) (st := []) (F := fun b => fX0_at b x3 h4) [vI x3] yY_yX0_at rfl mw64 mw15 mw16 (fun b => mX0_at l D aC B b x3 h4) rfl (by decide) (by decide) (by exact Nat.le_of_ble_eq_true rfl) rfl dX1_indexMade_106 rfl (fun x5 h6 => ?_)
  refine sm_goto (pc' := 115) dX1_indexMade_109 (by decide) ?_
  exact sm_lret rfl dX1_indexMade_115
noncomputable def fX1_indexMade  (a0 : Option Nat) (a1 : Option Nat) (h : sm_H) : Option (Int64 × sm_H) :=
  (sm_R (sm_get h a1 7 3)).bind fun x1 =>
  if a0 = none then (
    some ((-1 : Int64), h)
  ) else
  if x1 = none then (
    some ((-1 : Int64), h)
  ) else
  (sm_R (sm_get h a0 4 0)).bind fun x2 =>
  (sm_obj h x1 8).bind fun b16 =>
  sm_cb (fX8_takesIndex b16 x2 h) fun x3 h4 =>
  if x3 = 0 then (
    some ((-1 : Int64), h4)
  ) else
  (sm_R (sm_get h4 a0 4 1)).bind fun x5 =>
  (sm_I (sm_get h4 x5 10 1)).bind fun x6 =>
  if x6 = (2 : Int32) then (
    (sm_R (sm_get h4 a0 4 0)).bind fun x7 =>
    (sm_R (sm_get h4 x1 8 0)).bind fun x8 =>
    (sm_obj h4 x7 0).bind fun b15 =>
    sm_cb (fX0_beginsWith b15 x8 h4) fun x9 h10 =>
    if x9 = 0 then (
      some ((-1 : Int64), h10)
    ) else
    (sm_R (sm_get h10 a0 4 1)).bind fun x11 =>
    (sm_J (sm_get h10 x11 10 2)).bind fun x12 =>
    if (lg_cmp x12 (4 : Int64)) = 0 then (
      fX1_indexMade_90 a0 x1 (1 : Int32) h10
    ) else
    (sm_R (sm_get h10 a0 4 1)).bind fun x13 =>
    (sm_J (sm_get h10 x13 10 2)).bind fun x14 =>
    if (lg_cmp x14 (5 : Int64)) = 0 then (
      fX1_indexMade_90 a0 x1 (1 : Int32) h10
    ) else
    fX1_indexMade_90 a0 x1 (0 : Int32) h10
  ) else
  some ((-1 : Int64), h4)
set_option maxRecDepth 100000 in
set_option maxHeartbeats 4000000 in
theorem sX1_indexMade_0 (l : Launch) (D : va_G) (aC : Nat → ClassId) (B : Nat)   (a0 : Option Nat) (a1 : Option Nat) (h : sm_H) : zS l D aC B cX1_indexMade 4 RX1 2 44 (some .long) "indexMade" vlJ (fX1_indexMade a0 a1 h) 0 [(0, vR a0), (1, vR a1)] [] h := by
  unfold fX1_indexMade
  refine sm_aload_n (i := 1) (j := 1) (pc' := 1) dX1_indexMade_0 rfl rfl rfl ?_
  refine sm_getRN (k := 3) (pc' := 4) kX7 (by decide) mw65 dX1_indexMade_1 rfl (fun x1 => ?_)
  refine sm_astore_n (i := 2) (lv' := [(2, vR x1), (0, vR a0), (1, vR a1)]) (pc' := 5) dX1_indexMade_4 rfl rfl (by decide) rfl ?_
  refine sm_aload_n (i := 0) (j := 1) (pc' := 6) dX1_indexMade_5 rfl rfl rfl ?_
  refine sm_ifnull (tgt := 24) (pc' := 9) dX1_indexMade_6 (by decide) rfl ?_ ?_
  · refine sm_ldc2 (v := (-1 : Int64)) (pc' := 27) dX1_indexMade_24 rfl mw60 ?_
    exact sm_lret rfl dX1_indexMade_27
  refine sm_aload_n (i := 2) (j := 0) (pc' := 10) dX1_indexMade_9 rfl rfl rfl ?_
  refine sm_ifnull (tgt := 24) (pc' := 13) dX1_indexMade_10 (by decide) rfl ?_ ?_
  · refine sm_ldc2 (v := (-1 : Int64)) (pc' := 27) dX1_indexMade_24 rfl mw60 ?_
    exact sm_lret rfl dX1_indexMade_27
  refine sm_aload_n (i := 2) (j := 0) (pc' := 14) dX1_indexMade_13 rfl rfl rfl ?_
  refine sm_aload_n (i := 0) (j := 1) (pc' := 15) dX1_indexMade_14 rfl rfl rfl ?_
  refine sm_getRN (k := 0) (pc' := 18) kX4 (by decide) mw61 dX1_indexMade_15 rfl (fun x2 => ?_)
  refine sm_cVI (pc' := 21) (ci := 8) (st := []) (F := fun b => fX8_takesIndex b x2 h) [vR x2] yY_yX8_takesIndex rfl mw66 mw73 mw74 (fun b => mX8_takesIndex l D aC B b x2 h) rfl (by decide) (by decide) (by exact Nat.le_of_ble_eq_true rfl) rfl dX1_indexMade_18 rfl (fun x3 h4 => ?_)
  refine sm_if_ne (tgt := 28) (pc' := 24) dX1_indexMade_21 (by decide) rfl ?_ ?_
  · refine sm_aload_n (i := 0) (j := 1) (pc' := 29) dX1_indexMade_28 rfl rfl rfl ?_
    refine sm_getRN (k := 1) (pc' := 32) kX4 (by decide) mw67 dX1_indexMade_29 rfl (fun x5 => ?_)
    refine sm_getIN (k := 1) (pc' := 35) kX10 (by decide) mw68 dX1_indexMade_32 rfl (fun x6 => ?_)
    refine sm_iconst (v := (2 : Int32)) (pc' := 36) dX1_indexMade_35 rfl (by decide) ?_
    refine sm_icmp_ne (tgt := 53) (pc' := 39) dX1_indexMade_36 (by decide) rfl ?_ ?_
    · refine sm_ldc2 (v := (-1 : Int64)) (pc' := 56) dX1_indexMade_53 rfl mw60 ?_
      exact sm_lret rfl dX1_indexMade_56
    refine sm_aload_n (i := 0) (j := 1) (pc' := 40) dX1_indexMade_39 rfl rfl rfl ?_
    refine sm_getRN (k := 0) (pc' := 43) kX4 (by decide) mw61 dX1_indexMade_40 rfl (fun x7 => ?_)
    refine sm_aload_n (i := 2) (j := 0) (pc' := 44) dX1_indexMade_43 rfl rfl rfl ?_
    refine sm_getRN (k := 0) (pc' := 47) kX8 (by decide) mw62 dX1_indexMade_44 rfl (fun x8 => ?_)
    refine sm_cVI (pc' := 50) (ci := 0) (st := []) (F := fun b => fX0_beginsWith b x8 h4) [vR x8] yY_yX0_beginsWith rfl mw69 mw18 mw19 (fun b => mX0_beginsWith l D aC B b x8 h4) rfl (by decide) (by decide) (by exact Nat.le_of_ble_eq_true rfl) rfl dX1_indexMade_47 rfl (fun x9 h10 => ?_)
    refine sm_if_ne (tgt := 57) (pc' := 53) dX1_indexMade_50 (by decide) rfl ?_ ?_
    · refine sm_aload_n (i := 0) (j := 1) (pc' := 58) dX1_indexMade_57 rfl rfl rfl ?_
      refine sm_getRN (k := 1) (pc' := 61) kX4 (by decide) mw67 dX1_indexMade_58 rfl (fun x11 => ?_)
      refine sm_getJN (k := 2) (pc' := 64) kX10 (by decide) mw70 dX1_indexMade_61 rfl (fun x12 => ?_)
      refine sm_ldc2 (v := (4 : Int64)) (pc' := 67) dX1_indexMade_64 rfl mw71 ?_
      refine sm_lcmp (pc' := 68) dX1_indexMade_67 rfl ?_
      refine sm_if_eq (tgt := 85) (pc' := 71) dX1_indexMade_68 (by decide) rfl ?_ ?_
      · refine sm_iconst (v := (1 : Int32)) (pc' := 86) dX1_indexMade_85 rfl (by decide) ?_
        refine sm_goto (pc' := 90) dX1_indexMade_86 (by decide) ?_
        refine sm_lo (lv' := [(0, vR a0), (2, vR x1)]) [1, 0] rfl ?_
        exact sX1_indexMade_90 l D aC B  a0 x1 (1 : Int32) h10
      refine sm_aload_n (i := 0) (j := 1) (pc' := 72) dX1_indexMade_71 rfl rfl rfl ?_
      refine sm_getRN (k := 1) (pc' := 75) kX4 (by decide) mw67 dX1_indexMade_72 rfl (fun x13 => ?_)
      refine sm_getJN (k := 2) (pc' := 78) kX10 (by decide) mw70 dX1_indexMade_75 rfl (fun x14 => ?_)
      refine sm_ldc2 (v := (5 : Int64)) (pc' := 81) dX1_indexMade_78 rfl mw72 ?_
      refine sm_lcmp (pc' := 82) dX1_indexMade_81 rfl ?_
      refine sm_if_ne (tgt := 89) (pc' := 85) dX1_indexMade_82 (by decide) rfl ?_ ?_
      · refine sm_iconst (v := (0 : Int32)) (pc' := 90) dX1_indexMade_89 rfl (by decide) ?_
        refine sm_lo (lv' := [(0, vR a0), (2, vR x1)]) [1, 0] rfl ?_
        exact sX1_indexMade_90 l D aC B  a0 x1 (0 : Int32) h10
      refine sm_iconst (v := (1 : Int32)) (pc' := 86) dX1_indexMade_85 rfl (by decide) ?_
      refine sm_goto (pc' := 90) dX1_indexMade_86 (by decide) ?_
      refine sm_lo (lv' := [(0, vR a0), (2, vR x1)]) [1, 0] rfl ?_
      exact sX1_indexMade_90 l D aC B  a0 x1 (1 : Int32) h10
    refine sm_ldc2 (v := (-1 : Int64)) (pc' := 56) dX1_indexMade_53 rfl mw60 ?_
    exact sm_lret rfl dX1_indexMade_56
  refine sm_ldc2 (v := (-1 : Int64)) (pc' := 27) dX1_indexMade_24 rfl mw60 ?_
  exact sm_lret rfl dX1_indexMade_27
set_option maxRecDepth 100000 in
theorem mX1_indexMade (l : Launch) (D : va_G) (aC : Nat → ClassId) (B : Nat) (a0 : Option Nat) (a1 : Option Nat) (h : sm_H) : sm_M l D vwCl gAts aC B gTs gNs gOs yX1_indexMade cX1_indexMade 4 (some .long) 2 44 vlJ [vR a0, vR a1] h (fX1_indexMade a0 a1 h) := sm_meth [vR a0, vR a1] yY_yX1_indexMade gG gN (Nat.le_of_ble_eq_true rfl) rfl (sX1_indexMade_0 l D aC B a0 a1 h)
-- M:TreeAgent$Change.isMade(LTreeAgent$Table;JI)Z
noncomputable def fX1_isMade_3  : Nat → Nat → Option Nat → Int64 → Int32 → Int32 → sm_H → Option (Int32 × sm_H)
  | 0 => fun _ _ _ _ _ _ => none
  | n + 1 => fun a0 a1 a2 a4 a5 h =>
    if a4 ≤ a5 then (
      some ((0 : Int32), h)
    ) else
    (sm_R (sm_get h (some a0) 1 1)).bind fun x1 =>
    (sm_obj h x1 3).bind fun b7 =>
    sm_cb (fX3_pairAt b7 a5 h) fun x2 h3 =>
    sm_cb (fX1_indexMade x2 a1 h3) fun x4 h5 =>
    if (lg_cmp x4 a2) = 0 then (
      some ((1 : Int32), h5)
    ) else
    sm_let (a5 + (1 : Int32)) fun x6 =>
    (fX1_isMade_3 n) a0 a1 a2 a4 x6 h5
set_option maxRecDepth 100000 in
set_option maxHeartbeats 4000000 in
theorem sX1_isMade_3 (l : Launch) (D : va_G) (aC : Nat → ClassId) (B : Nat)   (n : Nat) : ∀ (a0 : Nat) (a1 : Option Nat) (a2 : Int64) (a4 : Int32) (a5 : Int32) (h : sm_H), zS l D aC B cX1_isMade 6 RX1 3 67 (some .boolean) "isMade" vlI (fX1_isMade_3 n a0 a1 a2 a4 a5 h) 3 [(0, vR (some a0)), (1, vR a1), (2, vJ a2), (4, vI a4), (5, vI a5)] [] h := by
  induction n with
  | zero => intro a0 a1 a2 a4 a5 h; exact sm_none
  | succ n ih =>
    intro a0 a1 a2 a4 a5 h
    show zS l D aC B cX1_isMade 6 RX1 3 67 (some .boolean) "isMade" vlI (fX1_isMade_3 (n + 1) a0 a1 a2 a4 a5 h) 3 [(0, vR (some a0)), (1, vR a1), (2, vJ a2), (4, vI a4), (5, vI a5)] [] h
    unfold fX1_isMade_3
    refine sm_iload (i := 5) (j := 4) (pc' := 5) dX1_isMade_3 rfl rfl ?_
    refine sm_iload (i := 4) (j := 3) (pc' := 7) dX1_isMade_5 rfl rfl ?_
    refine sm_icmp_ge (tgt := 36) (pc' := 10) dX1_isMade_7 (by decide) rfl ?_ ?_
    · refine sm_iconst (v := (0 : Int32)) (pc' := 37) dX1_isMade_36 rfl (by decide) ?_
      exact sm_zret0 rfl dX1_isMade_37
    refine sm_aload_n (i := 0) (j := 0) (pc' := 11) dX1_isMade_10 rfl rfl rfl ?_
    refine sm_getR (k := 1) (pc' := 14) kX1 (by decide) mw25 dX1_isMade_11 rfl (fun x1 => ?_)
    refine sm_iload (i := 5) (j := 4) (pc' := 16) dX1_isMade_14 rfl rfl ?_
    refine sm_cVR (pc' := 19) (ci := 3) (st := []) (F := fun b => fX3_pairAt b a5 h) [vI a5] yY_yX3_pairAt rfl mw75 mw78 mw79 (fun b => mX3_pairAt l D aC B b a5 h) rfl (by decide) (by decide) (by exact Nat.le_of_ble_eq_true rfl) rfl dX1_isMade_16 rfl (fun x2 h3 => ?_)
    refine sm_aload_n (i := 1) (j := 1) (pc' := 20) dX1_isMade_19 rfl rfl rfl ?_
    refine sm_cSJ (pc' := 23) (st := []) [vR x2, vR a1] yY_yX1_indexMade mw76 mw77 (mX1_indexMade l D aC B x2 a1 h3) rfl (by decide) (by decide) (by exact Nat.le_of_ble_eq_true rfl) rfl dX1_isMade_20 rfl (fun x4 h5 => ?_)
    refine sm_lload_n (i := 2) (j := 2) (pc' := 24) dX1_isMade_23 rfl rfl rfl ?_
    refine sm_lcmp (pc' := 25) dX1_isMade_24 rfl ?_
    refine sm_if_ne (tgt := 30) (pc' := 28) dX1_isMade_25 (by decide) rfl ?_ ?_
    · refine sm_iincL (i := 5) (j := 4) (x := a5) (d := (1 : Int32)) (fun x6 => [(5, vI x6), (0, vR (some a0)), (1, vR a1), (2, vJ a2), (4, vI a4)]) (pc' := 33) dX1_isMade_30 rfl rfl (by decide) (by decide) (fun _ => rfl) (fun x6 => ?_)
      refine sm_goto (pc' := 3) dX1_isMade_33 (by decide) ?_
      refine sm_lo (lv' := [(0, vR (some a0)), (1, vR a1), (2, vJ a2), (4, vI a4), (5, vI x6)]) [1, 2, 3, 4, 0] rfl ?_
      exact ih a0 a1 a2 a4 x6 h5
    refine sm_iconst (v := (1 : Int32)) (pc' := 29) dX1_isMade_28 rfl (by decide) ?_
    exact sm_zret1 rfl dX1_isMade_29
noncomputable def fX1_isMade  (a0 : Nat) (a1 : Option Nat) (a2 : Int64) (a4 : Int32) (h : sm_H) : Option (Int32 × sm_H) :=
  fX1_isMade_3 sm_fuel a0 a1 a2 a4 (0 : Int32) h
set_option maxRecDepth 100000 in
set_option maxHeartbeats 4000000 in
theorem sX1_isMade_0 (l : Launch) (D : va_G) (aC : Nat → ClassId) (B : Nat)   (a0 : Nat) (a1 : Option Nat) (a2 : Int64) (a4 : Int32) (h : sm_H) : zS l D aC B cX1_isMade 6 RX1 3 67 (some .boolean) "isMade" vlI (fX1_isMade a0 a1 a2 a4 h) 0 [(0, vR (some a0)), (1, vR a1), (2, vJ a2), (4, vI a4)] [] h := by
  unfold fX1_isMade
  refine sm_iconst (v := (0 : Int32)) (pc' := 1) dX1_isMade_0 rfl (by decide) ?_
  refine sm_istore (i := 5) (lv' := [(5, vI (0 : Int32)), (0, vR (some a0)), (1, vR a1), (2, vJ a2), (4, vI a4)]) (pc' := 3) dX1_isMade_1 rfl (by decide) rfl ?_
  refine sm_lo (lv' := [(0, vR (some a0)), (1, vR a1), (2, vJ a2), (4, vI a4), (5, vI (0 : Int32))]) [1, 2, 3, 4, 0] rfl ?_
  exact sX1_isMade_3 l D aC B   sm_fuel a0 a1 a2 a4 (0 : Int32) h
set_option maxRecDepth 100000 in
theorem mX1_isMade (l : Launch) (D : va_G) (aC : Nat → ClassId) (B : Nat) (a0 : Nat) (a1 : Option Nat) (a2 : Int64) (a4 : Int32) (h : sm_H) : sm_M l D vwCl gAts aC B gTs gNs gOs yX1_isMade cX1_isMade 6 (some .boolean) 3 67 vlI [vR (some a0), vR a1, vJ a2, vI a4] h (fX1_isMade a0 a1 a2 a4 h) := sm_meth [vR (some a0), vR a1, vJ a2, vI a4] yY_yX1_isMade gG gN (Nat.le_of_ble_eq_true rfl) rfl (sX1_isMade_0 l D aC B a0 a1 a2 a4 h)
-- M:TreeAgent$Table.rowCount()I
noncomputable def fX7_rowCount  (a0 : Nat) (h : sm_H) : Option (Int32 × sm_H) :=
  (sm_I (sm_get h (some a0) 7 5)).bind fun x1 =>
  some (x1, h)
set_option maxRecDepth 100000 in
set_option maxHeartbeats 4000000 in
theorem sX7_rowCount_0 (l : Launch) (D : va_G) (aC : Nat → ClassId) (B : Nat)   (a0 : Nat) (h : sm_H) : zS l D aC B cX7_rowCount 1 RX7 0 0 (some .int) "rowCount" vlI (fX7_rowCount a0 h) 0 [(0, vR (some a0))] [] h := by
  unfold fX7_rowCount
  refine sm_aload_n (i := 0) (j := 0) (pc' := 1) dX7_rowCount_0 rfl rfl rfl ?_
  refine sm_getI (k := 5) (pc' := 4) kX7 (by decide) mw80 dX7_rowCount_1 rfl (fun x1 => ?_)
  exact sm_iret rfl dX7_rowCount_4
set_option maxRecDepth 100000 in
theorem mX7_rowCount (l : Launch) (D : va_G) (aC : Nat → ClassId) (B : Nat) (a0 : Nat) (h : sm_H) : sm_M l D vwCl gAts aC B gTs gNs gOs yX7_rowCount cX7_rowCount 1 (some .int) 0 0 vlI [vR (some a0)] h (fX7_rowCount a0 h) := sm_meth [vR (some a0)] yY_yX7_rowCount gG gN (Nat.le_of_ble_eq_true rfl) rfl (sX7_rowCount_0 l D aC B a0 h)
-- M:TreeAgent$Change.madeBefore(LTreeAgent$Table;I)I
noncomputable def fX1_madeBefore_5  : Nat → Nat → Option Nat → Int32 → Int32 → Int32 → sm_H → Option (Int32 × sm_H)
  | 0 => fun _ _ _ _ _ _ => none
  | n + 1 => fun a0 a1 a2 a3 a4 h =>
    if a2 ≤ a4 then (
      some (a3, h)
    ) else
    (sm_R (sm_get h (some a0) 1 1)).bind fun x1 =>
    (sm_obj h x1 3).bind fun b10 =>
    sm_cb (fX3_pairAt b10 a4 h) fun x2 h3 =>
    sm_cb (fX1_indexMade x2 a1 h3) fun x4 h5 =>
    if (lg_cmp x4 (0 : Int64)) < 0 then (
      sm_let (a3 + (0 : Int32)) fun x6 =>
      sm_let (a4 + (1 : Int32)) fun x7 =>
      (fX1_madeBefore_5 n) a0 a1 a2 x6 x7 h5
    ) else
    sm_let (a3 + (1 : Int32)) fun x8 =>
    sm_let (a4 + (1 : Int32)) fun x9 =>
    (fX1_madeBefore_5 n) a0 a1 a2 x8 x9 h5
set_option maxRecDepth 100000 in
set_option maxHeartbeats 4000000 in
theorem sX1_madeBefore_5 (l : Launch) (D : va_G) (aC : Nat → ClassId) (B : Nat)   (n : Nat) : ∀ (a0 : Nat) (a1 : Option Nat) (a2 : Int32) (a3 : Int32) (a4 : Int32) (h : sm_H), zS l D aC B cX1_madeBefore 5 RX1 3 67 (some .int) "madeBefore" vlI (fX1_madeBefore_5 n a0 a1 a2 a3 a4 h) 5 [(0, vR (some a0)), (1, vR a1), (2, vI a2), (3, vI a3), (4, vI a4)] [] h := by
  induction n with
  | zero => intro a0 a1 a2 a3 a4 h; exact sm_none
  | succ n ih =>
    intro a0 a1 a2 a3 a4 h
    show zS l D aC B cX1_madeBefore 5 RX1 3 67 (some .int) "madeBefore" vlI (fX1_madeBefore_5 (n + 1) a0 a1 a2 a3 a4 h) 5 [(0, vR (some a0)), (1, vR a1), (2, vI a2), (3, vI a3), (4, vI a4)] [] h
    unfold fX1_madeBefore_5
    refine sm_iload (i := 4) (j := 4) (pc' := 7) dX1_madeBefore_5 rfl rfl ?_
    refine sm_iload_n (i := 2) (j := 2) (pc' := 8) dX1_madeBefore_7 rfl rfl rfl ?_
    refine sm_icmp_ge (tgt := 43) (pc' := 11) dX1_madeBefore_8 (by decide) rfl ?_ ?_
    · refine sm_iload_n (i := 3) (j := 3) (pc' := 44) dX1_madeBefore_43 rfl rfl rfl ?_
      exact sm_iret rfl dX1_madeBefore_44
    refine sm_iload_n (i := 3) (j := 3) (pc' := 12) dX1_madeBefore_11 rfl rfl rfl ?_
    refine sm_aload_n (i := 0) (j := 0) (pc' := 13) dX1_madeBefore_12 rfl rfl rfl ?_
    refine sm_getR (k := 1) (pc' := 16) kX1 (by decide) mw25 dX1_madeBefore_13 rfl (fun x1 => ?_)
    refine sm_iload (i := 4) (j := 4) (pc' := 18) dX1_madeBefore_16 rfl rfl ?_
    refine sm_cVR (pc' := 21) (ci := 3) (st := [vI a3]) (F := fun b => fX3_pairAt b a4 h) [vI a4] yY_yX3_pairAt rfl mw75 mw78 mw79 (fun b => mX3_pairAt l D aC B b a4 h) rfl (by decide) (by decide) (by exact Nat.le_of_ble_eq_true rfl) rfl dX1_madeBefore_18 rfl (fun x2 h3 => ?_)
    refine sm_aload_n (i := 1) (j := 1) (pc' := 22) dX1_madeBefore_21 rfl rfl rfl ?_
    refine sm_cSJ (pc' := 25) (st := [vI a3]) [vR x2, vR a1] yY_yX1_indexMade mw76 mw77 (mX1_indexMade l D aC B x2 a1 h3) rfl (by decide) (by decide) (by exact Nat.le_of_ble_eq_true rfl) rfl dX1_madeBefore_22 rfl (fun x4 h5 => ?_)
    refine sm_lconst (v := (0 : Int64)) (pc' := 26) dX1_madeBefore_25 rfl (by decide) ?_
    refine sm_lcmp (pc' := 27) dX1_madeBefore_26 rfl ?_
    refine sm_if_lt (tgt := 34) (pc' := 30) dX1_madeBefore_27 (by decide) rfl ?_ ?_
    · refine sm_iconst (v := (0 : Int32)) (pc' := 35) dX1_madeBefore_34 rfl (by decide) ?_
      refine sm_iadd (pc' := 36) dX1_madeBefore_35 rfl ?_
      refine sm_letIv (fun x6 => ?_)
      refine sm_istore_n (i := 3) (lv' := [(3, vI x6), (0, vR (some a0)), (1, vR a1), (2, vI a2), (4, vI a4)]) (pc' := 37) dX1_madeBefore_36 rfl rfl (by decide) rfl ?_
      refine sm_iincL (i := 4) (j := 4) (x := a4) (d := (1 : Int32)) (fun x7 => [(4, vI x7), (3, vI x6), (0, vR (some a0)), (1, vR a1), (2, vI a2)]) (pc' := 40) dX1_madeBefore_37 rfl rfl (by decide) (by decide) (fun _ => rfl) (fun x7 => ?_)
      refine sm_goto (pc' := 5) dX1_madeBefore_40 (by decide) ?_
      refine sm_lo (lv' := [(0, vR (some a0)), (1, vR a1), (2, vI a2), (3, vI x6), (4, vI x7)]) [2, 3, 4, 1, 0] rfl ?_
      exact ih a0 a1 a2 x6 x7 h5
    refine sm_iconst (v := (1 : Int32)) (pc' := 31) dX1_madeBefore_30 rfl (by decide) ?_
    refine sm_goto (pc' := 35) dX1_madeBefore_31 (by decide) ?_
    refine sm_iadd (pc' := 36) dX1_madeBefore_35 rfl ?_
    refine sm_letIv (fun x8 => ?_)
    refine sm_istore_n (i := 3) (lv' := [(3, vI x8), (0, vR (some a0)), (1, vR a1), (2, vI a2), (4, vI a4)]) (pc' := 37) dX1_madeBefore_36 rfl rfl (by decide) rfl ?_
    refine sm_iincL (i := 4) (j := 4) (x := a4) (d := (1 : Int32)) (fun x9 => [(4, vI x9), (3, vI x8), (0, vR (some a0)), (1, vR a1), (2, vI a2)]) (pc' := 40) dX1_madeBefore_37 rfl rfl (by decide) (by decide) (fun _ => rfl) (fun x9 => ?_)
    refine sm_goto (pc' := 5) dX1_madeBefore_40 (by decide) ?_
    refine sm_lo (lv' := [(0, vR (some a0)), (1, vR a1), (2, vI a2), (3, vI x8), (4, vI x9)]) [2, 3, 4, 1, 0] rfl ?_
    exact ih a0 a1 a2 x8 x9 h5
noncomputable def fX1_madeBefore  (a0 : Nat) (a1 : Option Nat) (a2 : Int32) (h : sm_H) : Option (Int32 × sm_H) :=
  fX1_madeBefore_5 sm_fuel a0 a1 a2 (0 : Int32) (0 : Int32) h
set_option maxRecDepth 100000 in
set_option maxHeartbeats 4000000 in
theorem sX1_madeBefore_0 (l : Launch) (D : va_G) (aC : Nat → ClassId) (B : Nat)   (a0 : Nat) (a1 : Option Nat) (a2 : Int32) (h : sm_H) : zS l D aC B cX1_madeBefore 5 RX1 3 67 (some .int) "madeBefore" vlI (fX1_madeBefore a0 a1 a2 h) 0 [(0, vR (some a0)), (1, vR a1), (2, vI a2)] [] h := by
  unfold fX1_madeBefore
  refine sm_iconst (v := (0 : Int32)) (pc' := 1) dX1_madeBefore_0 rfl (by decide) ?_
  refine sm_istore_n (i := 3) (lv' := [(3, vI (0 : Int32)), (0, vR (some a0)), (1, vR a1), (2, vI a2)]) (pc' := 2) dX1_madeBefore_1 rfl rfl (by decide) rfl ?_
  refine sm_iconst (v := (0 : Int32)) (pc' := 3) dX1_madeBefore_2 rfl (by decide) ?_
  refine sm_istore (i := 4) (lv' := [(4, vI (0 : Int32)), (3, vI (0 : Int32)), (0, vR (some a0)), (1, vR a1), (2, vI a2)]) (pc' := 5) dX1_madeBefore_3 rfl (by decide) rfl ?_
  refine sm_lo (lv' := [(0, vR (some a0)), (1, vR a1), (2, vI a2), (3, vI (0 : Int32)), (4, vI (0 : Int32))]) [2, 3, 4, 1, 0] rfl ?_
  exact sX1_madeBefore_5 l D aC B   sm_fuel a0 a1 a2 (0 : Int32) (0 : Int32) h
set_option maxRecDepth 100000 in
theorem mX1_madeBefore (l : Launch) (D : va_G) (aC : Nat → ClassId) (B : Nat) (a0 : Nat) (a1 : Option Nat) (a2 : Int32) (h : sm_H) : sm_M l D vwCl gAts aC B gTs gNs gOs yX1_madeBefore cX1_madeBefore 5 (some .int) 3 67 vlI [vR (some a0), vR a1, vI a2] h (fX1_madeBefore a0 a1 a2 h) := sm_meth [vR (some a0), vR a1, vI a2] yY_yX1_madeBefore gG gN (Nat.le_of_ble_eq_true rfl) rfl (sX1_madeBefore_0 l D aC B a0 a1 a2 h)
-- M:TreeAgent$Change.statusFault(LTreeAgent$Table;JJI)I
noncomputable def fX1_statusFault_13  (a0 : Nat) (a1 : Option Nat) (a2 : Int64) (a4 : Int64) (a6 : Int32) (s0 : Int32) (h : sm_H) : Option (Int32 × sm_H) :=
  if (lg_cmp a4 (1 : Int64)) = 0 then (
    if s0 = 0 then (
      some ((12 : Int32), h)
    ) else
    some ((0 : Int32), h)
  ) else
  if (lg_cmp a4 (2 : Int64)) = 0 then (
    if s0 = 0 then (
      some ((12 : Int32), h)
    ) else
    some ((0 : Int32), h)
  ) else
  if (lg_cmp a4 (6 : Int64)) = 0 then (
    some ((0 : Int32), h)
  ) else
  if s0 = 0 then (
    (sm_obj h (some a0) 1).bind fun b9 =>
    sm_cb (fX1_isMade b9 a1 a2 a6 h) fun x1 h2 =>
    if x1 = 0 then (
      (sm_obj h2 a1 7).bind fun b8 =>
      sm_cb (fX7_rowCount b8 h2) fun x3 h4 =>
      (sm_obj h4 (some a0) 1).bind fun b7 =>
      sm_cb (fX1_madeBefore b7 a1 a6 h4) fun x5 h6 =>
      if (x3 + x5) < (16 : Int32) then (
        some ((0 : Int32), h6)
      ) else
      some ((13 : Int32), h6)
    ) else
    some ((12 : Int32), h2)
  ) else
  some ((12 : Int32), h)
set_option maxRecDepth 100000 in
set_option maxHeartbeats 4000000 in
theorem sX1_statusFault_13 (l : Launch) (D : va_G) (aC : Nat → ClassId) (B : Nat)   (a0 : Nat) (a1 : Option Nat) (a2 : Int64) (a4 : Int64) (a6 : Int32) (s0 : Int32) (h : sm_H) : zS l D aC B cX1_statusFault 8 RX1 4 92 (some .int) "statusFault" vlI (fX1_statusFault_13 a0 a1 a2 a4 a6 s0 h) 13 [(0, vR (some a0)), (1, vR a1), (2, vJ a2), (4, vJ a4), (6, vI a6)] [vI s0] h := by
  unfold fX1_statusFault_13
  refine sm_istore (i := 7) (lv' := [(7, vI s0), (0, vR (some a0)), (1, vR a1), (2, vJ a2), (4, vJ a4), (6, vI a6)]) (pc' := 15) dX1_statusFault_13 rfl (by decide) rfl ?_
  refine sm_lload (i := 4) (j := 4) (pc' := 17) dX1_statusFault_15 rfl rfl ?_
  refine sm_lconst (v := (1 : Int64)) (pc' := 18) dX1_statusFault_17 rfl (by decide) ?_
  refine sm_lcmp (pc' := 19) dX1_statusFault_18 rfl ?_
  refine sm_if_eq (tgt := 31) (pc' := 22) dX1_statusFault_19 (by decide) rfl ?_ ?_
  · refine sm_iload (i := 7) (j := 0) (pc' := 33) dX1_statusFault_31 rfl rfl ?_
    refine sm_if_eq (tgt := 40) (pc' := 36) dX1_statusFault_33 (by decide) rfl ?_ ?_
    · refine sm_bipush (v := (12 : Int32)) (pc' := 42) dX1_statusFault_40 rfl (by decide) ?_
      exact sm_iret rfl dX1_statusFault_42
    refine sm_iconst (v := (0 : Int32)) (pc' := 37) dX1_statusFault_36 rfl (by decide) ?_
    refine sm_goto (pc' := 42) dX1_statusFault_37 (by decide) ?_
    exact sm_iret rfl dX1_statusFault_42
  refine sm_lload (i := 4) (j := 4) (pc' := 24) dX1_statusFault_22 rfl rfl ?_
  refine sm_ldc2 (v := (2 : Int64)) (pc' := 27) dX1_statusFault_24 rfl mw81 ?_
  refine sm_lcmp (pc' := 28) dX1_statusFault_27 rfl ?_
  refine sm_if_ne (tgt := 43) (pc' := 31) dX1_statusFault_28 (by decide) rfl ?_ ?_
  · refine sm_lload (i := 4) (j := 4) (pc' := 45) dX1_statusFault_43 rfl rfl ?_
    refine sm_ldc2 (v := (6 : Int64)) (pc' := 48) dX1_statusFault_45 rfl mw82 ?_
    refine sm_lcmp (pc' := 49) dX1_statusFault_48 rfl ?_
    refine sm_if_ne (tgt := 54) (pc' := 52) dX1_statusFault_49 (by decide) rfl ?_ ?_
    · refine sm_iload (i := 7) (j := 0) (pc' := 56) dX1_statusFault_54 rfl rfl ?_
      refine sm_if_ne (tgt := 70) (pc' := 59) dX1_statusFault_56 (by decide) rfl ?_ ?_
      · refine sm_bipush (v := (12 : Int32)) (pc' := 72) dX1_statusFault_70 rfl (by decide) ?_
        exact sm_iret rfl dX1_statusFault_72
      refine sm_aload_n (i := 0) (j := 1) (pc' := 60) dX1_statusFault_59 rfl rfl rfl ?_
      refine sm_aload_n (i := 1) (j := 2) (pc' := 61) dX1_statusFault_60 rfl rfl rfl ?_
      refine sm_lload_n (i := 2) (j := 3) (pc' := 62) dX1_statusFault_61 rfl rfl rfl ?_
      refine sm_iload (i := 6) (j := 5) (pc' := 64) dX1_statusFault_62 rfl rfl ?_
      refine sm_cVI (pc' := 67) (ci := 1) (st := []) (F := fun b => fX1_isMade b a1 a2 a6 h) [vR a1, vJ a2, vI a6] yY_yX1_isMade rfl mw83 mw90 mw91 (fun b => mX1_isMade l D aC B b a1 a2 a6 h) rfl (by decide) (by decide) (by exact Nat.le_of_ble_eq_true rfl) rfl dX1_statusFault_64 rfl (fun x1 h2 => ?_)
      refine sm_if_eq (tgt := 73) (pc' := 70) dX1_statusFault_67 (by decide) rfl ?_ ?_
      · refine sm_aload_n (i := 1) (j := 2) (pc' := 74) dX1_statusFault_73 rfl rfl rfl ?_
        refine sm_cVI (pc' := 77) (ci := 7) (st := []) (F := fun b => fX7_rowCount b h2) [] yY_yX7_rowCount rfl mw84 mw88 mw89 (fun b => mX7_rowCount l D aC B b h2) rfl (by decide) (by decide) (by exact Nat.le_of_ble_eq_true rfl) rfl dX1_statusFault_74 rfl (fun x3 h4 => ?_)
        refine sm_aload_n (i := 0) (j := 1) (pc' := 78) dX1_statusFault_77 rfl rfl rfl ?_
        refine sm_aload_n (i := 1) (j := 2) (pc' := 79) dX1_statusFault_78 rfl rfl rfl ?_
        refine sm_iload (i := 6) (j := 5) (pc' := 81) dX1_statusFault_79 rfl rfl ?_
        refine sm_cVI (pc' := 84) (ci := 1) (st := [vI x3]) (F := fun b => fX1_madeBefore b a1 a6 h4) [vR a1, vI a6] yY_yX1_madeBefore rfl mw85 mw86 mw87 (fun b => mX1_madeBefore l D aC B b a1 a6 h4) rfl (by decide) (by decide) (by exact Nat.le_of_ble_eq_true rfl) rfl dX1_statusFault_81 rfl (fun x5 h6 => ?_)
        refine sm_iadd (pc' := 85) dX1_statusFault_84 rfl ?_
        refine sm_bipush (v := (16 : Int32)) (pc' := 87) dX1_statusFault_85 rfl (by decide) ?_
        refine sm_icmp_lt (tgt := 95) (pc' := 90) dX1_statusFault_87 (by decide) rfl ?_ ?_
        · refine sm_iconst (v := (0 : Int32)) (pc' := 96) dX1_statusFault_95 rfl (by decide) ?_
          exact sm_iret rfl dX1_statusFault_96
        refine sm_bipush (v := (13 : Int32)) (pc' := 92) dX1_statusFault_90 rfl (by decide) ?_
        refine sm_goto (pc' := 96) dX1_statusFault_92 (by decide) ?_
        exact sm_iret rfl dX1_statusFault_96
      refine sm_bipush (v := (12 : Int32)) (pc' := 72) dX1_statusFault_70 rfl (by decide) ?_
      exact sm_iret rfl dX1_statusFault_72
    refine sm_iconst (v := (0 : Int32)) (pc' := 53) dX1_statusFault_52 rfl (by decide) ?_
    exact sm_iret rfl dX1_statusFault_53
  refine sm_iload (i := 7) (j := 0) (pc' := 33) dX1_statusFault_31 rfl rfl ?_
  refine sm_if_eq (tgt := 40) (pc' := 36) dX1_statusFault_33 (by decide) rfl ?_ ?_
  · refine sm_bipush (v := (12 : Int32)) (pc' := 42) dX1_statusFault_40 rfl (by decide) ?_
    exact sm_iret rfl dX1_statusFault_42
  refine sm_iconst (v := (0 : Int32)) (pc' := 37) dX1_statusFault_36 rfl (by decide) ?_
  refine sm_goto (pc' := 42) dX1_statusFault_37 (by decide) ?_
  exact sm_iret rfl dX1_statusFault_42
noncomputable def fX1_statusFault  (a0 : Nat) (a1 : Option Nat) (a2 : Int64) (a4 : Int64) (a6 : Int32) (h : sm_H) : Option (Int32 × sm_H) :=
  (sm_obj h a1 7).bind fun b3 =>
  sm_cb (fX7_slotOf b3 a2 h) fun x1 h2 =>
  if x1 < 0 then (
    fX1_statusFault_13 a0 a1 a2 a4 a6 (0 : Int32) h2
  ) else
  fX1_statusFault_13 a0 a1 a2 a4 a6 (1 : Int32) h2
set_option maxRecDepth 100000 in
set_option maxHeartbeats 4000000 in
theorem sX1_statusFault_0 (l : Launch) (D : va_G) (aC : Nat → ClassId) (B : Nat)   (a0 : Nat) (a1 : Option Nat) (a2 : Int64) (a4 : Int64) (a6 : Int32) (h : sm_H) : zS l D aC B cX1_statusFault 8 RX1 4 92 (some .int) "statusFault" vlI (fX1_statusFault a0 a1 a2 a4 a6 h) 0 [(0, vR (some a0)), (1, vR a1), (2, vJ a2), (4, vJ a4), (6, vI a6)] [] h := by
  unfold fX1_statusFault
  refine sm_aload_n (i := 1) (j := 1) (pc' := 1) dX1_statusFault_0 rfl rfl rfl ?_
  refine sm_lload_n (i := 2) (j := 2) (pc' := 2) dX1_statusFault_1 rfl rfl rfl ?_
  refine sm_cVI (pc' := 5) (ci := 7) (st := []) (F := fun b => fX7_slotOf b a2 h) [vJ a2] yY_yX7_slotOf rfl mw92 mw93 mw94 (fun b => mX7_slotOf l D aC B b a2 h) rfl (by decide) (by decide) (by exact Nat.le_of_ble_eq_true rfl) rfl dX1_statusFault_2 rfl (fun x1 h2 => ?_)
  refine sm_if_lt (tgt := 12) (pc' := 8) dX1_statusFault_5 (by decide) rfl ?_ ?_
  · refine sm_iconst (v := (0 : Int32)) (pc' := 13) dX1_statusFault_12 rfl (by decide) ?_
    exact sX1_statusFault_13 l D aC B  a0 a1 a2 a4 a6 (0 : Int32) h2
  refine sm_iconst (v := (1 : Int32)) (pc' := 9) dX1_statusFault_8 rfl (by decide) ?_
  refine sm_goto (pc' := 13) dX1_statusFault_9 (by decide) ?_
  exact sX1_statusFault_13 l D aC B  a0 a1 a2 a4 a6 (1 : Int32) h2
set_option maxRecDepth 100000 in
theorem mX1_statusFault (l : Launch) (D : va_G) (aC : Nat → ClassId) (B : Nat) (a0 : Nat) (a1 : Option Nat) (a2 : Int64) (a4 : Int64) (a6 : Int32) (h : sm_H) : sm_M l D vwCl gAts aC B gTs gNs gOs yX1_statusFault cX1_statusFault 8 (some .int) 4 92 vlI [vR (some a0), vR a1, vJ a2, vJ a4, vI a6] h (fX1_statusFault a0 a1 a2 a4 a6 h) := sm_meth [vR (some a0), vR a1, vJ a2, vJ a4, vI a6] yY_yX1_statusFault gG gN (Nat.le_of_ble_eq_true rfl) rfl (sX1_statusFault_0 l D aC B a0 a1 a2 a4 a6 h)
-- M:TreeAgent$Change.faultAt(I)I
noncomputable def fX1_faultAt_197  (a0 : Nat) (a3 : Option Nat) (a4 : Int64) (s0 : Int32) (h : sm_H) : Option (Int32 × sm_H) :=
  if s0 = 0 then (
    (sm_R (sm_get h a3 8 5)).bind fun x1 =>
    (sm_R (sm_get h (some a0) 1 1)).bind fun x2 =>
    (sm_I (sm_get h x2 3 8)).bind fun x3 =>
    (sm_obj h (some a0) 1).bind fun b6 =>
    sm_cb (fX1_isMade b6 x1 a4 x3 h) fun x4 h5 =>
    if x4 = 0 then (
      some ((18 : Int32), h5)
    ) else
    some ((0 : Int32), h5)
  ) else
  some ((0 : Int32), h)
set_option maxRecDepth 100000 in
set_option maxHeartbeats 4000000 in
theorem sX1_faultAt_197 (l : Launch) (D : va_G) (aC : Nat → ClassId) (B : Nat)   (a0 : Nat) (a3 : Option Nat) (a4 : Int64) (s0 : Int32) (h : sm_H) : zS l D aC B cX1_faultAt 7 RX1 5 119 (some .int) "faultAt" vlI (fX1_faultAt_197 a0 a3 a4 s0 h) 197 [(0, vR (some a0)), (3, vR a3), (4, vJ a4)] [vI s0] h := by
  unfold fX1_faultAt_197
  refine sm_istore (i := 6) (lv' := [(6, vI s0), (0, vR (some a0)), (3, vR a3), (4, vJ a4)]) (pc' := 199) dX1_faultAt_197 rfl (by decide) rfl ?_
  refine sm_iload (i := 6) (j := 0) (pc' := 201) dX1_faultAt_199 rfl rfl ?_
  refine sm_if_ne (tgt := 224) (pc' := 204) dX1_faultAt_201 (by decide) rfl ?_ ?_
  · refine sm_iconst (v := (0 : Int32)) (pc' := 225) dX1_faultAt_224 rfl (by decide) ?_
    refine sm_goto (pc' := 230) dX1_faultAt_225 (by decide) ?_
    exact sm_iret rfl dX1_faultAt_230
  refine sm_aload_n (i := 0) (j := 1) (pc' := 205) dX1_faultAt_204 rfl rfl rfl ?_
  refine sm_aload_n (i := 3) (j := 2) (pc' := 206) dX1_faultAt_205 rfl rfl rfl ?_
  refine sm_getRN (k := 5) (pc' := 209) kX8 (by decide) mw95 dX1_faultAt_206 rfl (fun x1 => ?_)
  refine sm_lload (i := 4) (j := 3) (pc' := 211) dX1_faultAt_209 rfl rfl ?_
  refine sm_aload_n (i := 0) (j := 1) (pc' := 212) dX1_faultAt_211 rfl rfl rfl ?_
  refine sm_getR (k := 1) (pc' := 215) kX1 (by decide) mw25 dX1_faultAt_212 rfl (fun x2 => ?_)
  refine sm_getIN (k := 8) (pc' := 218) kX3 (by decide) mw96 dX1_faultAt_215 rfl (fun x3 => ?_)
  refine sm_cVI (pc' := 221) (ci := 1) (st := []) (F := fun b => fX1_isMade b x1 a4 x3 h) [vR x1, vJ a4, vI x3] yY_yX1_isMade rfl mw83 mw90 mw91 (fun b => mX1_isMade l D aC B b x1 a4 x3 h) rfl (by decide) (by decide) (by exact Nat.le_of_ble_eq_true rfl) rfl dX1_faultAt_218 rfl (fun x4 h5 => ?_)
  refine sm_if_eq (tgt := 228) (pc' := 224) dX1_faultAt_221 (by decide) rfl ?_ ?_
  · refine sm_bipush (v := (18 : Int32)) (pc' := 230) dX1_faultAt_228 rfl (by decide) ?_
    exact sm_iret rfl dX1_faultAt_230
  refine sm_iconst (v := (0 : Int32)) (pc' := 225) dX1_faultAt_224 rfl (by decide) ?_
  refine sm_goto (pc' := 230) dX1_faultAt_225 (by decide) ?_
  exact sm_iret rfl dX1_faultAt_230
noncomputable def fX1_faultAt  (a0 : Nat) (a1 : Int32) (h : sm_H) : Option (Int32 × sm_H) :=
  (sm_R (sm_get h (some a0) 1 1)).bind fun x1 =>
  (sm_obj h x1 3).bind fun b55 =>
  sm_cb (fX3_pairAt b55 a1 h) fun x2 h3 =>
  if x2 = none then (
    some ((6 : Int32), h3)
  ) else
  (sm_R (sm_get h3 (some a0) 1 1)).bind fun x4 =>
  (sm_R (sm_get h3 x4 3 2)).bind fun x5 =>
  if x5 = none then (
    some ((6 : Int32), h3)
  ) else
  (sm_R (sm_get h3 (some a0) 1 1)).bind fun x6 =>
  (sm_R (sm_get h3 x6 3 2)).bind fun x7 =>
  (sm_R (sm_get h3 x2 4 0)).bind fun x8 =>
  (sm_obj h3 x7 2).bind fun b54 =>
  sm_cb (fX2_shows b54 x8 h3) fun x9 h10 =>
  if x9 = 0 then (
    some ((6 : Int32), h10)
  ) else
  (sm_R (sm_get h10 (some a0) 1 0)).bind fun x11 =>
  (sm_R (sm_get h10 x2 4 0)).bind fun x12 =>
  (sm_obj h10 x11 9).bind fun b53 =>
  sm_cb (fX9_thingFor b53 x12 h10) fun x13 h14 =>
  if x13 = none then (
    some ((17 : Int32), h14)
  ) else
  (sm_I (sm_get h14 x13 8 2)).bind fun x15 =>
  if x15 = (2 : Int32) then (
    (sm_R (sm_get h14 x2 4 1)).bind fun x16 =>
    (sm_I (sm_get h14 x16 10 1)).bind fun x17 =>
    (sm_I (sm_get h14 x13 8 1)).bind fun x18 =>
    if x17 = x18 then (
      (sm_R (sm_get h14 x2 4 1)).bind fun x19 =>
      (sm_obj h14 x13 8).bind fun b52 =>
      sm_cb (fX8_takesLength b52 x19 h14) fun x20 h21 =>
      if x20 = 0 then (
        some ((8 : Int32), h21)
      ) else
      (sm_R (sm_get h21 x2 4 1)).bind fun x22 =>
      (sm_obj h21 x13 8).bind fun b51 =>
      sm_cb (fX8_takesNumber b51 x22 h21) fun x23 h24 =>
      if x23 = 0 then (
        some ((10 : Int32), h24)
      ) else
      (sm_R (sm_get h24 x2 4 0)).bind fun x25 =>
      (sm_obj h24 x13 8).bind fun b50 =>
      sm_cb (fX8_takesIndex b50 x25 h24) fun x26 h27 =>
      if x26 = 0 then (
        some ((11 : Int32), h27)
      ) else
      (sm_R (sm_get h27 x13 8 5)).bind fun x28 =>
      if x28 = none then (
        some ((0 : Int32), h27)
      ) else
      (sm_R (sm_get h27 x2 4 0)).bind fun x29 =>
      (sm_R (sm_get h27 x13 8 0)).bind fun x30 =>
      (sm_obj h27 x30 0).bind fun b49 =>
      sm_cb (fX0_size b49 h27) fun x31 h32 =>
      (sm_obj h32 x29 0).bind fun b48 =>
      sm_cb (fX0_at b48 x31 h32) fun x33 h34 =>
      (sm_obj h34 x13 8).bind fun b47 =>
      sm_cb (fX8_isStatus b47 h34) fun x35 h36 =>
      if x35 = 0 then (
        (sm_R (sm_get h36 x13 8 5)).bind fun x37 =>
        (sm_obj h36 x37 7).bind fun b40 =>
        sm_cb (fX7_slotOf b40 x33 h36) fun x38 h39 =>
        if x38 < 0 then (
          fX1_faultAt_197 a0 x13 x33 (0 : Int32) h39
        ) else
        fX1_faultAt_197 a0 x13 x33 (1 : Int32) h39
      ) else
      (sm_R (sm_get h36 x13 8 5)).bind fun x41 =>
      (sm_R (sm_get h36 x2 4 1)).bind fun x42 =>
      (sm_J (sm_get h36 x42 10 2)).bind fun x43 =>
      (sm_obj h36 (some a0) 1).bind fun b46 =>
      sm_cb (fX1_statusFault b46 x41 x33 x43 a1 h36) fun x44 h45 =>
      some (x44, h45)
    ) else
    some ((7 : Int32), h14)
  ) else
  some ((17 : Int32), h14)
set_option maxRecDepth 100000 in
set_option maxHeartbeats 4000000 in
theorem sX1_faultAt_0 (l : Launch) (D : va_G) (aC : Nat → ClassId) (B : Nat)   (a0 : Nat) (a1 : Int32) (h : sm_H) : zS l D aC B cX1_faultAt 7 RX1 5 119 (some .int) "faultAt" vlI (fX1_faultAt a0 a1 h) 0 [(0, vR (some a0)), (1, vI a1)] [] h := by
  unfold fX1_faultAt
  refine sm_aload_n (i := 0) (j := 0) (pc' := 1) dX1_faultAt_0 rfl rfl rfl ?_
  refine sm_getR (k := 1) (pc' := 4) kX1 (by decide) mw25 dX1_faultAt_1 rfl (fun x1 => ?_)
  refine sm_iload_n (i := 1) (j := 1) (pc' := 5) dX1_faultAt_4 rfl rfl rfl ?_
  refine sm_cVR (pc' := 8) (ci := 3) (st := []) (F := fun b => fX3_pairAt b a1 h) [vI a1] yY_yX3_pairAt rfl mw75 mw78 mw79 (fun b => mX3_pairAt l D aC B b a1 h) rfl (by decide) (by decide) (by exact Nat.le_of_ble_eq_true rfl) rfl dX1_faultAt_5 rfl (fun x2 h3 => ?_)
  refine sm_astore_n (i := 2) (lv' := [(2, vR x2), (0, vR (some a0)), (1, vI a1)]) (pc' := 9) dX1_faultAt_8 rfl rfl (by decide) rfl ?_
  refine sm_aload_n (i := 2) (j := 0) (pc' := 10) dX1_faultAt_9 rfl rfl rfl ?_
  refine sm_ifnull (tgt := 40) (pc' := 13) dX1_faultAt_10 (by decide) rfl ?_ ?_
  · refine sm_bipush (v := (6 : Int32)) (pc' := 42) dX1_faultAt_40 rfl (by decide) ?_
    exact sm_iret rfl dX1_faultAt_42
  refine sm_aload_n (i := 0) (j := 1) (pc' := 14) dX1_faultAt_13 rfl rfl rfl ?_
  refine sm_getR (k := 1) (pc' := 17) kX1 (by decide) mw25 dX1_faultAt_14 rfl (fun x4 => ?_)
  refine sm_getRN (k := 2) (pc' := 20) kX3 (by decide) mw97 dX1_faultAt_17 rfl (fun x5 => ?_)
  refine sm_ifnull (tgt := 40) (pc' := 23) dX1_faultAt_20 (by decide) rfl ?_ ?_
  · refine sm_bipush (v := (6 : Int32)) (pc' := 42) dX1_faultAt_40 rfl (by decide) ?_
    exact sm_iret rfl dX1_faultAt_42
  refine sm_aload_n (i := 0) (j := 1) (pc' := 24) dX1_faultAt_23 rfl rfl rfl ?_
  refine sm_getR (k := 1) (pc' := 27) kX1 (by decide) mw25 dX1_faultAt_24 rfl (fun x6 => ?_)
  refine sm_getRN (k := 2) (pc' := 30) kX3 (by decide) mw97 dX1_faultAt_27 rfl (fun x7 => ?_)
  refine sm_aload_n (i := 2) (j := 0) (pc' := 31) dX1_faultAt_30 rfl rfl rfl ?_
  refine sm_getRN (k := 0) (pc' := 34) kX4 (by decide) mw61 dX1_faultAt_31 rfl (fun x8 => ?_)
  refine sm_cVI (pc' := 37) (ci := 2) (st := []) (F := fun b => fX2_shows b x8 h3) [vR x8] yY_yX2_shows rfl mw98 mw114 mw115 (fun b => mX2_shows l D aC B b x8 h3) rfl (by decide) (by decide) (by exact Nat.le_of_ble_eq_true rfl) rfl dX1_faultAt_34 rfl (fun x9 h10 => ?_)
  refine sm_if_ne (tgt := 43) (pc' := 40) dX1_faultAt_37 (by decide) rfl ?_ ?_
  · refine sm_aload_n (i := 0) (j := 1) (pc' := 44) dX1_faultAt_43 rfl rfl rfl ?_
    refine sm_getR (k := 0) (pc' := 47) kX1 (by decide) mw24 dX1_faultAt_44 rfl (fun x11 => ?_)
    refine sm_aload_n (i := 2) (j := 0) (pc' := 48) dX1_faultAt_47 rfl rfl rfl ?_
    refine sm_getRN (k := 0) (pc' := 51) kX4 (by decide) mw61 dX1_faultAt_48 rfl (fun x12 => ?_)
    refine sm_cVR (pc' := 54) (ci := 9) (st := []) (F := fun b => fX9_thingFor b x12 h10) [vR x12] yY_yX9_thingFor rfl mw99 mw112 mw113 (fun b => mX9_thingFor l D aC B b x12 h10) rfl (by decide) (by decide) (by exact Nat.le_of_ble_eq_true rfl) rfl dX1_faultAt_51 rfl (fun x13 h14 => ?_)
    refine sm_astore_n (i := 3) (lv' := [(3, vR x13), (2, vR x2), (0, vR (some a0)), (1, vI a1)]) (pc' := 55) dX1_faultAt_54 rfl rfl (by decide) rfl ?_
    refine sm_aload_n (i := 3) (j := 0) (pc' := 56) dX1_faultAt_55 rfl rfl rfl ?_
    refine sm_ifnull (tgt := 67) (pc' := 59) dX1_faultAt_56 (by decide) rfl ?_ ?_
    · refine sm_bipush (v := (17 : Int32)) (pc' := 69) dX1_faultAt_67 rfl (by decide) ?_
      exact sm_iret rfl dX1_faultAt_69
    refine sm_aload_n (i := 3) (j := 0) (pc' := 60) dX1_faultAt_59 rfl rfl rfl ?_
    refine sm_getIN (k := 2) (pc' := 63) kX8 (by decide) mw100 dX1_faultAt_60 rfl (fun x15 => ?_)
    refine sm_iconst (v := (2 : Int32)) (pc' := 64) dX1_faultAt_63 rfl (by decide) ?_
    refine sm_icmp_eq (tgt := 70) (pc' := 67) dX1_faultAt_64 (by decide) rfl ?_ ?_
    · refine sm_aload_n (i := 2) (j := 1) (pc' := 71) dX1_faultAt_70 rfl rfl rfl ?_
      refine sm_getRN (k := 1) (pc' := 74) kX4 (by decide) mw67 dX1_faultAt_71 rfl (fun x16 => ?_)
      refine sm_getIN (k := 1) (pc' := 77) kX10 (by decide) mw68 dX1_faultAt_74 rfl (fun x17 => ?_)
      refine sm_aload_n (i := 3) (j := 0) (pc' := 78) dX1_faultAt_77 rfl rfl rfl ?_
      refine sm_getIN (k := 1) (pc' := 81) kX8 (by decide) mw101 dX1_faultAt_78 rfl (fun x18 => ?_)
      refine sm_icmp_eq (tgt := 87) (pc' := 84) dX1_faultAt_81 (by decide) rfl ?_ ?_
      · refine sm_aload_n (i := 3) (j := 0) (pc' := 88) dX1_faultAt_87 rfl rfl rfl ?_
        refine sm_aload_n (i := 2) (j := 1) (pc' := 89) dX1_faultAt_88 rfl rfl rfl ?_
        refine sm_getRN (k := 1) (pc' := 92) kX4 (by decide) mw67 dX1_faultAt_89 rfl (fun x19 => ?_)
        refine sm_cVI (pc' := 95) (ci := 8) (st := []) (F := fun b => fX8_takesLength b x19 h14) [vR x19] yY_yX8_takesLength rfl mw102 mw110 mw111 (fun b => mX8_takesLength l D aC B b x19 h14) rfl (by decide) (by decide) (by exact Nat.le_of_ble_eq_true rfl) rfl dX1_faultAt_92 rfl (fun x20 h21 => ?_)
        refine sm_if_ne (tgt := 101) (pc' := 98) dX1_faultAt_95 (by decide) rfl ?_ ?_
        · refine sm_aload_n (i := 3) (j := 0) (pc' := 102) dX1_faultAt_101 rfl rfl rfl ?_
          refine sm_aload_n (i := 2) (j := 1) (pc' := 103) dX1_faultAt_102 rfl rfl rfl ?_
          refine sm_getRN (k := 1) (pc' := 106) kX4 (by decide) mw67 dX1_faultAt_103 rfl (fun x22 => ?_)
          refine sm_cVI (pc' := 109) (ci := 8) (st := []) (F := fun b => fX8_takesNumber b x22 h21) [vR x22] yY_yX8_takesNumber rfl mw103 mw108 mw109 (fun b => mX8_takesNumber l D aC B b x22 h21) rfl (by decide) (by decide) (by exact Nat.le_of_ble_eq_true rfl) rfl dX1_faultAt_106 rfl (fun x23 h24 => ?_)
          refine sm_if_ne (tgt := 115) (pc' := 112) dX1_faultAt_109 (by decide) rfl ?_ ?_
          · refine sm_aload_n (i := 3) (j := 0) (pc' := 116) dX1_faultAt_115 rfl rfl rfl ?_
            refine sm_aload_n (i := 2) (j := 1) (pc' := 117) dX1_faultAt_116 rfl rfl rfl ?_
            refine sm_getRN (k := 0) (pc' := 120) kX4 (by decide) mw61 dX1_faultAt_117 rfl (fun x25 => ?_)
            refine sm_cVI (pc' := 123) (ci := 8) (st := []) (F := fun b => fX8_takesIndex b x25 h24) [vR x25] yY_yX8_takesIndex rfl mw66 mw73 mw74 (fun b => mX8_takesIndex l D aC B b x25 h24) rfl (by decide) (by decide) (by exact Nat.le_of_ble_eq_true rfl) rfl dX1_faultAt_120 rfl (fun x26 h27 => ?_)
            refine sm_if_ne (tgt := 129) (pc' := 126) dX1_faultAt_123 (by decide) rfl ?_ ?_
            · refine sm_aload_n (i := 3) (j := 0) (pc' := 130) dX1_faultAt_129 rfl rfl rfl ?_
              refine sm_getRN (k := 5) (pc' := 133) kX8 (by decide) mw95 dX1_faultAt_130 rfl (fun x28 => ?_)
              refine sm_ifnonnull (tgt := 138) (pc' := 136) dX1_faultAt_133 (by decide) rfl ?_ ?_
              · refine sm_aload_n (i := 2) (j := 1) (pc' := 139) dX1_faultAt_138 rfl rfl rfl ?_
                refine sm_getRN (k := 0) (pc' := 142) kX4 (by decide) mw61 dX1_faultAt_139 rfl (fun x29 => ?_)
                refine sm_aload_n (i := 3) (j := 0) (pc' := 143) dX1_faultAt_142 rfl rfl rfl ?_
                refine sm_getRN (k := 0) (pc' := 146) kX8 (by decide) mw62 dX1_faultAt_143 rfl (fun x30 => ?_)
                refine sm_cVI (pc' := 149) (ci := 0) (st := [vR x29]) (F := fun b => fX0_size b h27) [] yY_yX0_size rfl mw63 mw32 mw33 (fun b => mX0_size l D aC B b h27) rfl (by decide) (by decide) (by exact Nat.le_of_ble_eq_true rfl) rfl dX1_faultAt_146 rfl (fun x31 h32 => ?_)
                refine sm_cVJ (pc' := 152) (ci := 0) (st := []) (F := fun b => fX0_at b x31 h32) [vI x31] yY_yX0_at rfl mw64 mw15 mw16 (fun b => mX0_at l D aC B b x31 h32) rfl (by decide) (by decide) (by exact Nat.le_of_ble_eq_true rfl) rfl dX1_faultAt_149 rfl (fun x33 h34 => ?_)
                refine sm_lstore (i := 4) (lv' := [(4, vJ x33), (3, vR x13), (2, vR x2), (0, vR (some a0)), (1, vI a1)]) (pc' := 154) dX1_faultAt_152 rfl (by decide) rfl ?_
                refine sm_aload_n (i := 3) (j := 1) (pc' := 155) dX1_faultAt_154 rfl rfl rfl ?_
                refine sm_cVI (pc' := 158) (ci := 8) (st := []) (F := fun b => fX8_isStatus b h34) [] yY_yX8_isStatus rfl mw104 mw51 mw52 (fun b => mX8_isStatus l D aC B b h34) rfl (by decide) (by decide) (by exact Nat.le_of_ble_eq_true rfl) rfl dX1_faultAt_155 rfl (fun x35 h36 => ?_)
                refine sm_if_eq (tgt := 180) (pc' := 161) dX1_faultAt_158 (by decide) rfl ?_ ?_
                · refine sm_aload_n (i := 3) (j := 1) (pc' := 181) dX1_faultAt_180 rfl rfl rfl ?_
                  refine sm_getRN (k := 5) (pc' := 184) kX8 (by decide) mw95 dX1_faultAt_181 rfl (fun x37 => ?_)
                  refine sm_lload (i := 4) (j := 0) (pc' := 186) dX1_faultAt_184 rfl rfl ?_
                  refine sm_cVI (pc' := 189) (ci := 7) (st := []) (F := fun b => fX7_slotOf b x33 h36) [vJ x33] yY_yX7_slotOf rfl mw92 mw93 mw94 (fun b => mX7_slotOf l D aC B b x33 h36) rfl (by decide) (by decide) (by exact Nat.le_of_ble_eq_true rfl) rfl dX1_faultAt_186 rfl (fun x38 h39 => ?_)
                  refine sm_if_lt (tgt := 196) (pc' := 192) dX1_faultAt_189 (by decide) rfl ?_ ?_
                  · refine sm_iconst (v := (0 : Int32)) (pc' := 197) dX1_faultAt_196 rfl (by decide) ?_
                    refine sm_lo (lv' := [(0, vR (some a0)), (3, vR x13), (4, vJ x33)]) [3, 1, 0] rfl ?_
                    exact sX1_faultAt_197 l D aC B  a0 x13 x33 (0 : Int32) h39
                  refine sm_iconst (v := (1 : Int32)) (pc' := 193) dX1_faultAt_192 rfl (by decide) ?_
                  refine sm_goto (pc' := 197) dX1_faultAt_193 (by decide) ?_
                  refine sm_lo (lv' := [(0, vR (some a0)), (3, vR x13), (4, vJ x33)]) [3, 1, 0] rfl ?_
                  exact sX1_faultAt_197 l D aC B  a0 x13 x33 (1 : Int32) h39
                refine sm_aload_n (i := 0) (j := 3) (pc' := 162) dX1_faultAt_161 rfl rfl rfl ?_
                refine sm_aload_n (i := 3) (j := 1) (pc' := 163) dX1_faultAt_162 rfl rfl rfl ?_
                refine sm_getRN (k := 5) (pc' := 166) kX8 (by decide) mw95 dX1_faultAt_163 rfl (fun x41 => ?_)
                refine sm_lload (i := 4) (j := 0) (pc' := 168) dX1_faultAt_166 rfl rfl ?_
                refine sm_aload_n (i := 2) (j := 2) (pc' := 169) dX1_faultAt_168 rfl rfl rfl ?_
                refine sm_getRN (k := 1) (pc' := 172) kX4 (by decide) mw67 dX1_faultAt_169 rfl (fun x42 => ?_)
                refine sm_getJN (k := 2) (pc' := 175) kX10 (by decide) mw70 dX1_faultAt_172 rfl (fun x43 => ?_)
                refine sm_iload_n (i := 1) (j := 4) (pc' := 176) dX1_faultAt_175 rfl rfl rfl ?_
                refine sm_cVI (pc' := 179) (ci := 1) (st := []) (F := fun b => fX1_statusFault b x41 x33 x43 a1 h36) [vR x41, vJ x33, vJ x43, vI a1] yY_yX1_statusFault rfl mw105 mw106 mw107 (fun b => mX1_statusFault l D aC B b x41 x33 x43 a1 h36) rfl (by decide) (by decide) (by exact Nat.le_of_ble_eq_true rfl) rfl dX1_faultAt_176 rfl (fun x44 h45 => ?_)
                exact sm_iret rfl dX1_faultAt_179
              refine sm_iconst (v := (0 : Int32)) (pc' := 137) dX1_faultAt_136 rfl (by decide) ?_
              exact sm_iret rfl dX1_faultAt_137
            refine sm_bipush (v := (11 : Int32)) (pc' := 128) dX1_faultAt_126 rfl (by decide) ?_
            exact sm_iret rfl dX1_faultAt_128
          refine sm_bipush (v := (10 : Int32)) (pc' := 114) dX1_faultAt_112 rfl (by decide) ?_
          exact sm_iret rfl dX1_faultAt_114
        refine sm_bipush (v := (8 : Int32)) (pc' := 100) dX1_faultAt_98 rfl (by decide) ?_
        exact sm_iret rfl dX1_faultAt_100
      refine sm_bipush (v := (7 : Int32)) (pc' := 86) dX1_faultAt_84 rfl (by decide) ?_
      exact sm_iret rfl dX1_faultAt_86
    refine sm_bipush (v := (17 : Int32)) (pc' := 69) dX1_faultAt_67 rfl (by decide) ?_
    exact sm_iret rfl dX1_faultAt_69
  refine sm_bipush (v := (6 : Int32)) (pc' := 42) dX1_faultAt_40 rfl (by decide) ?_
  exact sm_iret rfl dX1_faultAt_42
set_option maxRecDepth 100000 in
theorem mX1_faultAt (l : Launch) (D : va_G) (aC : Nat → ClassId) (B : Nat) (a0 : Nat) (a1 : Int32) (h : sm_H) : sm_M l D vwCl gAts aC B gTs gNs gOs yX1_faultAt cX1_faultAt 7 (some .int) 5 119 vlI [vR (some a0), vI a1] h (fX1_faultAt a0 a1 h) := sm_meth [vR (some a0), vI a1] yY_yX1_faultAt gG gN (Nat.le_of_ble_eq_true rfl) rfl (sX1_faultAt_0 l D aC B a0 a1 h)
-- M:TreeAgent$Thing.cellAt(I)LTreeAgent$Value;
noncomputable def fX8_cellAt  (a0 : Nat) (a1 : Int32) (h : sm_H) : Option (Option Nat × sm_H) :=
  if a1 < 0 then (
    some (none, h)
  ) else
  (sm_R (sm_get h (some a0) 8 6)).bind fun x1 =>
  (sm_len h x1 8).bind fun x2 =>
  if x2 ≤ a1 then (
    some (none, h)
  ) else
  (sm_R (sm_get h (some a0) 8 6)).bind fun x3 =>
  (sm_aR h x3 8 a1).bind fun x4 =>
  some (x4, h)
set_option maxRecDepth 100000 in
set_option maxHeartbeats 4000000 in
theorem sX8_cellAt_0 (l : Launch) (D : va_G) (aC : Nat → ClassId) (B : Nat)   (a0 : Nat) (a1 : Int32) (h : sm_H) : zS l D aC B cX8_cellAt 2 RX8 0 0 (some (.object "TreeAgent$Value")) "cellAt" vlR (fX8_cellAt a0 a1 h) 0 [(0, vR (some a0)), (1, vI a1)] [] h := by
  unfold fX8_cellAt
  refine sm_iload_n (i := 1) (j := 1) (pc' := 1) dX8_cellAt_0 rfl rfl rfl ?_
  refine sm_if_lt (tgt := 22) (pc' := 4) dX8_cellAt_1 (by decide) rfl ?_ ?_
  · refine sm_null (pc' := 23) dX8_cellAt_22 rfl ?_
    exact sm_aret rfl dX8_cellAt_23
  refine sm_iload_n (i := 1) (j := 1) (pc' := 5) dX8_cellAt_4 rfl rfl rfl ?_
  refine sm_aload_n (i := 0) (j := 0) (pc' := 6) dX8_cellAt_5 rfl rfl rfl ?_
  refine sm_getR (k := 6) (pc' := 9) kX8 (by decide) mw116 dX8_cellAt_6 rfl (fun x1 => ?_)
  refine sm_alen (t := 8) (pc' := 10) rfl dX8_cellAt_9 rfl (fun x2 => ?_)
  refine sm_icmp_ge (tgt := 22) (pc' := 13) dX8_cellAt_10 (by decide) rfl ?_ ?_
  · refine sm_null (pc' := 23) dX8_cellAt_22 rfl ?_
    exact sm_aret rfl dX8_cellAt_23
  refine sm_aload_n (i := 0) (j := 0) (pc' := 14) dX8_cellAt_13 rfl rfl rfl ?_
  refine sm_getR (k := 6) (pc' := 17) kX8 (by decide) mw116 dX8_cellAt_14 rfl (fun x3 => ?_)
  refine sm_iload_n (i := 1) (j := 1) (pc' := 18) dX8_cellAt_17 rfl rfl rfl ?_
  refine sm_aald (t := 8) (pc' := 19) rfl dX8_cellAt_18 rfl (fun x4 => ?_)
  refine sm_goto (pc' := 23) dX8_cellAt_19 (by decide) ?_
  exact sm_aret rfl dX8_cellAt_23
set_option maxRecDepth 100000 in
theorem mX8_cellAt (l : Launch) (D : va_G) (aC : Nat → ClassId) (B : Nat) (a0 : Nat) (a1 : Int32) (h : sm_H) : sm_M l D vwCl gAts aC B gTs gNs gOs yX8_cellAt cX8_cellAt 2 (some (.object "TreeAgent$Value")) 0 0 vlR [vR (some a0), vI a1] h (fX8_cellAt a0 a1 h) := sm_meth [vR (some a0), vI a1] yY_yX8_cellAt gG gN (Nat.le_of_ble_eq_true rfl) rfl (sX8_cellAt_0 l D aC B a0 a1 h)
-- M:TreeAgent$Value.becomeEmpty(I)V
noncomputable def fX10_becomeEmpty  (a0 : Nat) (a1 : Int32) (h : sm_H) : Option (Unit × sm_H) :=
  (sm_put h (some a0) 10 1 (sm_v (vI a1))).bind fun h1 =>
  (sm_put h1 (some a0) 10 2 (sm_v (vJ (0 : Int64)))).bind fun h2 =>
  (sm_R (sm_get h2 (some a0) 10 0)).bind fun x3 =>
  (sm_obj h2 x3 0).bind fun b5 =>
  sm_cb (fX0_clear b5 h2) fun _ h4 =>
  some ((), h4)
set_option maxRecDepth 100000 in
set_option maxHeartbeats 4000000 in
theorem sX10_becomeEmpty_0 (l : Launch) (D : va_G) (aC : Nat → ClassId) (B : Nat)   (a0 : Nat) (a1 : Int32) (h : sm_H) : zS l D aC B cX10_becomeEmpty 2 RX10 1 20 none "becomeEmpty" vlU (fX10_becomeEmpty a0 a1 h) 0 [(0, vR (some a0)), (1, vI a1)] [] h := by
  unfold fX10_becomeEmpty
  refine sm_aload_n (i := 0) (j := 0) (pc' := 1) dX10_becomeEmpty_0 rfl rfl rfl ?_
  refine sm_iload_n (i := 1) (j := 1) (pc' := 2) dX10_becomeEmpty_1 rfl rfl rfl ?_
  refine sm_putI (k := 1) (pc' := 5) kX10 (by decide) mw117 rfl rfl dX10_becomeEmpty_2 rfl (fun h1 => ?_)
  refine sm_aload_n (i := 0) (j := 0) (pc' := 6) dX10_becomeEmpty_5 rfl rfl rfl ?_
  refine sm_lconst (v := (0 : Int64)) (pc' := 7) dX10_becomeEmpty_6 rfl (by decide) ?_
  refine sm_putJ (k := 2) (pc' := 10) kX10 (by decide) mw118 rfl rfl dX10_becomeEmpty_7 rfl (fun h2 => ?_)
  refine sm_aload_n (i := 0) (j := 0) (pc' := 11) dX10_becomeEmpty_10 rfl rfl rfl ?_
  refine sm_getR (k := 0) (pc' := 14) kX10 (by decide) mw119 dX10_becomeEmpty_11 rfl (fun x3 => ?_)
  refine sm_cVU (pc' := 17) (ci := 0) (st := []) (F := fun b => fX0_clear b h2) [] yY_yX0_clear rfl mw120 mw121 mw122 (fun b => mX0_clear l D aC B b h2) rfl (by decide) (by decide) (by exact Nat.le_of_ble_eq_true rfl) rfl dX10_becomeEmpty_14 rfl (fun _ h4 => ?_)
  exact sm_vret rfl dX10_becomeEmpty_17
set_option maxRecDepth 100000 in
theorem mX10_becomeEmpty (l : Launch) (D : va_G) (aC : Nat → ClassId) (B : Nat) (a0 : Nat) (a1 : Int32) (h : sm_H) : sm_M l D vwCl gAts aC B gTs gNs gOs yX10_becomeEmpty cX10_becomeEmpty 2 none 1 20 vlU [vR (some a0), vI a1] h (fX10_becomeEmpty a0 a1 h) := sm_meth [vR (some a0), vI a1] yY_yX10_becomeEmpty gG gN (Nat.le_of_ble_eq_true rfl) rfl (sX10_becomeEmpty_0 l D aC B a0 a1 h)
-- M:TreeAgent$Value.becomeFirst()V
noncomputable def fX10_becomeFirst  (a0 : Nat) (h : sm_H) : Option (Unit × sm_H) :=
  (sm_I (sm_get h (some a0) 10 1)).bind fun x1 =>
  (sm_obj h (some a0) 10).bind fun b12 =>
  sm_cb (fX10_becomeEmpty b12 x1 h) fun _ h2 =>
  (sm_I (sm_get h2 (some a0) 10 1)).bind fun x3 =>
  if x3 = (6 : Int32) then (
    (sm_R (sm_get h2 (some a0) 10 0)).bind fun x4 =>
    (sm_obj h2 x4 0).bind fun b11 =>
    sm_cb (fX0_add b11 (0 : Int64) h2) fun x5 h6 =>
    (sm_R (sm_get h6 (some a0) 10 0)).bind fun x7 =>
    (sm_obj h6 x7 0).bind fun b10 =>
    sm_cb (fX0_add b10 (0 : Int64) h6) fun x8 h9 =>
    some ((), h9)
  ) else
  some ((), h2)
set_option maxRecDepth 100000 in
set_option maxHeartbeats 4000000 in
theorem sX10_becomeFirst_0 (l : Launch) (D : va_G) (aC : Nat → ClassId) (B : Nat)   (a0 : Nat) (h : sm_H) : zS l D aC B cX10_becomeFirst 1 RX10 2 41 none "becomeFirst" vlU (fX10_becomeFirst a0 h) 0 [(0, vR (some a0))] [] h := by
  unfold fX10_becomeFirst
  refine sm_aload_n (i := 0) (j := 0) (pc' := 1) dX10_becomeFirst_0 rfl rfl rfl ?_
  refine sm_aload_n (i := 0) (j := 0) (pc' := 2) dX10_becomeFirst_1 rfl rfl rfl ?_
  refine sm_getI (k := 1) (pc' := 5) kX10 (by decide) mw117 dX10_becomeFirst_2 rfl (fun x1 => ?_)
  refine sm_cVU (pc' := 8) (ci := 10) (st := []) (F := fun b => fX10_becomeEmpty b x1 h) [vI x1] yY_yX10_becomeEmpty rfl mw123 mw125 mw126 (fun b => mX10_becomeEmpty l D aC B b x1 h) rfl (by decide) (by decide) (by exact Nat.le_of_ble_eq_true rfl) rfl dX10_becomeFirst_5 rfl (fun _ h2 => ?_)
  refine sm_aload_n (i := 0) (j := 0) (pc' := 9) dX10_becomeFirst_8 rfl rfl rfl ?_
  refine sm_getI (k := 1) (pc' := 12) kX10 (by decide) mw117 dX10_becomeFirst_9 rfl (fun x3 => ?_)
  refine sm_bipush (v := (6 : Int32)) (pc' := 14) dX10_becomeFirst_12 rfl (by decide) ?_
  refine sm_icmp_ne (tgt := 35) (pc' := 17) dX10_becomeFirst_14 (by decide) rfl ?_ ?_
  · exact sm_vret rfl dX10_becomeFirst_35
  refine sm_aload_n (i := 0) (j := 0) (pc' := 18) dX10_becomeFirst_17 rfl rfl rfl ?_
  refine sm_getR (k := 0) (pc' := 21) kX10 (by decide) mw119 dX10_becomeFirst_18 rfl (fun x4 => ?_)
  refine sm_lconst (v := (0 : Int64)) (pc' := 22) dX10_becomeFirst_21 rfl (by decide) ?_
  refine sm_cVI (pc' := 25) (ci := 0) (st := []) (F := fun b => fX0_add b (0 : Int64) h2) [vJ (0 : Int64)] yY_yX0_add rfl mw124 mw13 mw14 (fun b => mX0_add l D aC B b (0 : Int64) h2) rfl (by decide) (by decide) (by exact Nat.le_of_ble_eq_true rfl) rfl dX10_becomeFirst_22 rfl (fun x5 h6 => ?_)
  refine sm_pop (pc' := 26) rfl dX10_becomeFirst_25 rfl ?_
  refine sm_aload_n (i := 0) (j := 0) (pc' := 27) dX10_becomeFirst_26 rfl rfl rfl ?_
  refine sm_getR (k := 0) (pc' := 30) kX10 (by decide) mw119 dX10_becomeFirst_27 rfl (fun x7 => ?_)
  refine sm_lconst (v := (0 : Int64)) (pc' := 31) dX10_becomeFirst_30 rfl (by decide) ?_
  refine sm_cVI (pc' := 34) (ci := 0) (st := []) (F := fun b => fX0_add b (0 : Int64) h6) [vJ (0 : Int64)] yY_yX0_add rfl mw124 mw13 mw14 (fun b => mX0_add l D aC B b (0 : Int64) h6) rfl (by decide) (by decide) (by exact Nat.le_of_ble_eq_true rfl) rfl dX10_becomeFirst_31 rfl (fun x8 h9 => ?_)
  refine sm_pop (pc' := 35) rfl dX10_becomeFirst_34 rfl ?_
  exact sm_vret rfl dX10_becomeFirst_35
set_option maxRecDepth 100000 in
theorem mX10_becomeFirst (l : Launch) (D : va_G) (aC : Nat → ClassId) (B : Nat) (a0 : Nat) (h : sm_H) : sm_M l D vwCl gAts aC B gTs gNs gOs yX10_becomeFirst cX10_becomeFirst 1 none 2 41 vlU [vR (some a0)] h (fX10_becomeFirst a0 h) := sm_meth [vR (some a0)] yY_yX10_becomeFirst gG gN (Nat.le_of_ble_eq_true rfl) rfl (sX10_becomeFirst_0 l D aC B a0 h)
-- M:TreeAgent$Table.make(II)Z
noncomputable def fX7_make_75 (K41 : Nat → Int32 → Int32 → Int32 → sm_H → Option (Int32 × sm_H)) (a0 : Nat) (a2 : Int32) (a3 : Int32) (a4 : Int32) (a5 : Option Nat) (s0 : Option Nat) (h : sm_H) : Option (Int32 × sm_H) :=
  if s0 = none then (
    sm_let (a4 + (1 : Int32)) fun x1 =>
    K41 a0 a2 a3 x1 h
  ) else
  (sm_obj h s0 10).bind fun b8 =>
  sm_cb (fX10_becomeFirst b8 h) fun _ h2 =>
  (sm_R (sm_get h2 (some a0) 7 3)).bind fun x3 =>
  if a5 = x3 then (
    (sm_put h2 s0 10 2 (sm_v (vJ (a2.toInt64)))).bind fun h6 =>
    sm_let (a4 + (1 : Int32)) fun x7 =>
    K41 a0 a2 a3 x7 h6
  ) else
  (sm_put h2 s0 10 2 (sm_v (vJ (0 : Int64)))).bind fun h4 =>
  sm_let (a4 + (1 : Int32)) fun x5 =>
  K41 a0 a2 a3 x5 h4
set_option maxRecDepth 100000 in
set_option maxHeartbeats 4000000 in
theorem sX7_make_75 (l : Launch) (D : va_G) (aC : Nat → ClassId) (B : Nat) (K41 : Nat → Int32 → Int32 → Int32 → sm_H → Option (Int32 × sm_H)) (hK41 : ∀ (a0 : Nat) (a2 : Int32) (a3 : Int32) (a4 : Int32) (h : sm_H), zS l D aC B cX7_make 7 RX7 3 61 (some .boolean) "make" vlI (K41 a0 a2 a3 a4 h) 41 [(0, vR (some a0)), (2, vI a2), (3, vI a3), (4, vI a4)] [] h) (a0 : Nat) (a2 : Int32) (a3 : Int32) (a4 : Int32) (a5 : Option Nat) (s0 : Option Nat) (h : sm_H) : zS l D aC B cX7_make 7 RX7 3 61 (some .boolean) "make" vlI (fX7_make_75 K41 a0 a2 a3 a4 a5 s0 h) 75 [(0, vR (some a0)), (2, vI a2), (3, vI a3), (4, vI a4), (5, vR a5)] [vR s0] h := by
  unfold fX7_make_75
  refine sm_astore (i := 6) (lv' := [(6, vR s0), (0, vR (some a0)), (2, vI a2), (3, vI a3), (4, vI a4), (5, vR a5)]) (pc' := 77) dX7_make_75 rfl (by decide) rfl ?_
  refine sm_aload (i := 6) (j := 0) (pc' := 79) dX7_make_77 rfl rfl ?_
  refine sm_ifnull (tgt := 107) (pc' := 82) dX7_make_79 (by decide) rfl ?_ ?_
  · refine sm_iincL (i := 4) (j := 4) (x := a4) (d := (1 : Int32)) (fun x1 => [(4, vI x1), (6, vR s0), (0, vR (some a0)), (2, vI a2), (3, vI a3), (5, vR a5)]) (pc' := 110) dX7_make_107 rfl rfl (by decide) (by decide) (fun _ => rfl) (fun x1 => ?_)
    refine sm_goto (pc' := 41) dX7_make_110 (by decide) ?_
    refine sm_lo (lv' := [(0, vR (some a0)), (2, vI a2), (3, vI a3), (4, vI x1)]) [2, 3, 4, 0] rfl ?_
    exact hK41 a0 a2 a3 x1 h
  refine sm_aload (i := 6) (j := 0) (pc' := 84) dX7_make_82 rfl rfl ?_
  refine sm_cVU (pc' := 87) (ci := 10) (st := []) (F := fun b => fX10_becomeFirst b h) [] yY_yX10_becomeFirst rfl mw127 mw130 mw131 (fun b => mX10_becomeFirst l D aC B b h) rfl (by decide) (by decide) (by exact Nat.le_of_ble_eq_true rfl) rfl dX7_make_84 rfl (fun _ h2 => ?_)
  refine sm_aload (i := 6) (j := 0) (pc' := 89) dX7_make_87 rfl rfl ?_
  refine sm_aload (i := 5) (j := 5) (pc' := 91) dX7_make_89 rfl rfl ?_
  refine sm_aload_n (i := 0) (j := 1) (pc' := 92) dX7_make_91 rfl rfl rfl ?_
  refine sm_getR (k := 3) (pc' := 95) kX7 (by decide) mw128 dX7_make_92 rfl (fun x3 => ?_)
  refine sm_acmp_ne (tgt := 103) (pc' := 98) dX7_make_95 (by decide) rfl ?_ ?_
  · refine sm_lconst (v := (0 : Int64)) (pc' := 104) dX7_make_103 rfl (by decide) ?_
    refine sm_putNJ (k := 2) (pc' := 107) kX10 (by decide) mw129 rfl rfl dX7_make_104 rfl (fun h4 => ?_)
    refine sm_iincL (i := 4) (j := 4) (x := a4) (d := (1 : Int32)) (fun x5 => [(4, vI x5), (6, vR s0), (0, vR (some a0)), (2, vI a2), (3, vI a3), (5, vR a5)]) (pc' := 110) dX7_make_107 rfl rfl (by decide) (by decide) (fun _ => rfl) (fun x5 => ?_)
    refine sm_goto (pc' := 41) dX7_make_110 (by decide) ?_
    refine sm_lo (lv' := [(0, vR (some a0)), (2, vI a2), (3, vI a3), (4, vI x5)]) [2, 3, 4, 0] rfl ?_
    exact hK41 a0 a2 a3 x5 h4
  refine sm_iload_n (i := 2) (j := 2) (pc' := 99) dX7_make_98 rfl rfl rfl ?_
  refine sm_i2l (pc' := 100) dX7_make_99 rfl ?_
  refine sm_goto (pc' := 104) dX7_make_100 (by decide) ?_
  refine sm_putNJ (k := 2) (pc' := 107) kX10 (by decide) mw129 rfl rfl dX7_make_104 rfl (fun h6 => ?_)
  refine sm_iincL (i := 4) (j := 4) (x := a4) (d := (1 : Int32)) (fun x7 => [(4, vI x7), (6, vR s0), (0, vR (some a0)), (2, vI a2), (3, vI a3), (5, vR a5)]) (pc' := 110) dX7_make_107 rfl rfl (by decide) (by decide) (fun _ => rfl) (fun x7 => ?_)
  refine sm_goto (pc' := 41) dX7_make_110 (by decide) ?_
  refine sm_lo (lv' := [(0, vR (some a0)), (2, vI a2), (3, vI a3), (4, vI x7)]) [2, 3, 4, 0] rfl ?_
  exact hK41 a0 a2 a3 x7 h6
noncomputable def fX7_make_41  : Nat → Nat → Int32 → Int32 → Int32 → sm_H → Option (Int32 × sm_H)
  | 0 => fun _ _ _ _ _ => none
  | n + 1 => fun a0 a2 a3 a4 h =>
    (sm_R (sm_get h (some a0) 7 1)).bind fun x1 =>
    (sm_len h x1 4).bind fun x2 =>
    if x2 ≤ a4 then (
      some ((1 : Int32), h)
    ) else
    (sm_R (sm_get h (some a0) 7 1)).bind fun x3 =>
    (sm_aR h x3 4 a4).bind fun x4 =>
    if x4 = none then (
      fX7_make_75 (fX7_make_41 n) a0 a2 a3 a4 x4 none h
    ) else
    (sm_obj h x4 8).bind fun b7 =>
    sm_cb (fX8_cellAt b7 a3 h) fun x5 h6 =>
    fX7_make_75 (fX7_make_41 n) a0 a2 a3 a4 x4 x5 h6
set_option maxRecDepth 100000 in
set_option maxHeartbeats 4000000 in
theorem sX7_make_41 (l : Launch) (D : va_G) (aC : Nat → ClassId) (B : Nat)   (n : Nat) : ∀ (a0 : Nat) (a2 : Int32) (a3 : Int32) (a4 : Int32) (h : sm_H), zS l D aC B cX7_make 7 RX7 3 61 (some .boolean) "make" vlI (fX7_make_41 n a0 a2 a3 a4 h) 41 [(0, vR (some a0)), (2, vI a2), (3, vI a3), (4, vI a4)] [] h := by
  induction n with
  | zero => intro a0 a2 a3 a4 h; exact sm_none
  | succ n ih =>
    intro a0 a2 a3 a4 h
    show zS l D aC B cX7_make 7 RX7 3 61 (some .boolean) "make" vlI (fX7_make_41 (n + 1) a0 a2 a3 a4 h) 41 [(0, vR (some a0)), (2, vI a2), (3, vI a3), (4, vI a4)] [] h
    unfold fX7_make_41
    refine sm_iload (i := 4) (j := 3) (pc' := 43) dX7_make_41 rfl rfl ?_
    refine sm_aload_n (i := 0) (j := 0) (pc' := 44) dX7_make_43 rfl rfl rfl ?_
    refine sm_getR (k := 1) (pc' := 47) kX7 (by decide) mw132 dX7_make_44 rfl (fun x1 => ?_)
    refine sm_alen (t := 4) (pc' := 48) rfl dX7_make_47 rfl (fun x2 => ?_)
    refine sm_icmp_ge (tgt := 113) (pc' := 51) dX7_make_48 (by decide) rfl ?_ ?_
    · refine sm_iconst (v := (1 : Int32)) (pc' := 114) dX7_make_113 rfl (by decide) ?_
      exact sm_zret1 rfl dX7_make_114
    refine sm_aload_n (i := 0) (j := 0) (pc' := 52) dX7_make_51 rfl rfl rfl ?_
    refine sm_getR (k := 1) (pc' := 55) kX7 (by decide) mw132 dX7_make_52 rfl (fun x3 => ?_)
    refine sm_iload (i := 4) (j := 3) (pc' := 57) dX7_make_55 rfl rfl ?_
    refine sm_aald (t := 4) (pc' := 58) rfl dX7_make_57 rfl (fun x4 => ?_)
    refine sm_astore (i := 5) (lv' := [(5, vR x4), (0, vR (some a0)), (2, vI a2), (3, vI a3), (4, vI a4)]) (pc' := 60) dX7_make_58 rfl (by decide) rfl ?_
    refine sm_aload (i := 5) (j := 0) (pc' := 62) dX7_make_60 rfl rfl ?_
    refine sm_ifnonnull (tgt := 69) (pc' := 65) dX7_make_62 (by decide) rfl ?_ ?_
    · refine sm_aload (i := 5) (j := 0) (pc' := 71) dX7_make_69 rfl rfl ?_
      refine sm_iload_n (i := 3) (j := 3) (pc' := 72) dX7_make_71 rfl rfl rfl ?_
      refine sm_cVR (pc' := 75) (ci := 8) (st := []) (F := fun b => fX8_cellAt b a3 h) [vI a3] yY_yX8_cellAt rfl mw133 mw134 mw135 (fun b => mX8_cellAt l D aC B b a3 h) rfl (by decide) (by decide) (by exact Nat.le_of_ble_eq_true rfl) rfl dX7_make_72 rfl (fun x5 h6 => ?_)
      refine sm_lo (lv' := [(0, vR (some a0)), (2, vI a2), (3, vI a3), (4, vI a4), (5, vR x4)]) [1, 2, 3, 4, 0] rfl ?_
      exact sX7_make_75 l D aC B  (fX7_make_41 n) ih a0 a2 a3 a4 x4 x5 h6
    refine sm_null (pc' := 66) dX7_make_65 rfl ?_
    refine sm_goto (pc' := 75) dX7_make_66 (by decide) ?_
    refine sm_lo (lv' := [(0, vR (some a0)), (2, vI a2), (3, vI a3), (4, vI a4), (5, vR x4)]) [1, 2, 3, 4, 0] rfl ?_
    exact sX7_make_75 l D aC B  (fX7_make_41 n) ih a0 a2 a3 a4 x4 none h
noncomputable def fX7_make  (a0 : Nat) (a1 : Int32) (a2 : Int32) (h : sm_H) : Option (Int32 × sm_H) :=
  (sm_obj h (some a0) 7).bind fun b9 =>
  sm_cb (fX7_slotHolding b9 (0 : Int64) h) fun x1 h2 =>
  if x1 < 0 then (
    some ((0 : Int32), h2)
  ) else
  (sm_R (sm_get h2 (some a0) 7 2)).bind fun x3 =>
  (sm_len h2 x3 0).bind fun x4 =>
  if x1 < x4 then (
    (sm_R (sm_get h2 (some a0) 7 2)).bind fun x5 =>
    (sm_sI h2 x5 0 x1 a1).bind fun h6 =>
    (sm_I (sm_get h6 (some a0) 7 5)).bind fun x7 =>
    (sm_put h6 (some a0) 7 5 (sm_v (vI (x7 + (1 : Int32))))).bind fun h8 =>
    fX7_make_41 sm_fuel a0 a2 x1 (0 : Int32) h8
  ) else
  some ((0 : Int32), h2)
set_option maxRecDepth 100000 in
set_option maxHeartbeats 4000000 in
theorem sX7_make_0 (l : Launch) (D : va_G) (aC : Nat → ClassId) (B : Nat)   (a0 : Nat) (a1 : Int32) (a2 : Int32) (h : sm_H) : zS l D aC B cX7_make 7 RX7 3 61 (some .boolean) "make" vlI (fX7_make a0 a1 a2 h) 0 [(0, vR (some a0)), (1, vI a1), (2, vI a2)] [] h := by
  unfold fX7_make
  refine sm_aload_n (i := 0) (j := 0) (pc' := 1) dX7_make_0 rfl rfl rfl ?_
  refine sm_lconst (v := (0 : Int64)) (pc' := 2) dX7_make_1 rfl (by decide) ?_
  refine sm_cVI (pc' := 5) (ci := 7) (st := []) (F := fun b => fX7_slotHolding b (0 : Int64) h) [vJ (0 : Int64)] yY_yX7_slotHolding rfl mw57 mw58 mw59 (fun b => mX7_slotHolding l D aC B b (0 : Int64) h) rfl (by decide) (by decide) (by exact Nat.le_of_ble_eq_true rfl) rfl dX7_make_2 rfl (fun x1 h2 => ?_)
  refine sm_istore_n (i := 3) (lv' := [(3, vI x1), (0, vR (some a0)), (1, vI a1), (2, vI a2)]) (pc' := 6) dX7_make_5 rfl rfl (by decide) rfl ?_
  refine sm_iload_n (i := 3) (j := 0) (pc' := 7) dX7_make_6 rfl rfl rfl ?_
  refine sm_if_lt (tgt := 19) (pc' := 10) dX7_make_7 (by decide) rfl ?_ ?_
  · refine sm_iconst (v := (0 : Int32)) (pc' := 20) dX7_make_19 rfl (by decide) ?_
    exact sm_zret0 rfl dX7_make_20
  refine sm_iload_n (i := 3) (j := 0) (pc' := 11) dX7_make_10 rfl rfl rfl ?_
  refine sm_aload_n (i := 0) (j := 1) (pc' := 12) dX7_make_11 rfl rfl rfl ?_
  refine sm_getR (k := 2) (pc' := 15) kX7 (by decide) mw56 dX7_make_12 rfl (fun x3 => ?_)
  refine sm_alen (t := 0) (pc' := 16) rfl dX7_make_15 rfl (fun x4 => ?_)
  refine sm_icmp_lt (tgt := 21) (pc' := 19) dX7_make_16 (by decide) rfl ?_ ?_
  · refine sm_aload_n (i := 0) (j := 1) (pc' := 22) dX7_make_21 rfl rfl rfl ?_
    refine sm_getR (k := 2) (pc' := 25) kX7 (by decide) mw56 dX7_make_22 rfl (fun x5 => ?_)
    refine sm_iload_n (i := 3) (j := 0) (pc' := 26) dX7_make_25 rfl rfl rfl ?_
    refine sm_iload_n (i := 1) (j := 2) (pc' := 27) dX7_make_26 rfl rfl rfl ?_
    refine sm_iast (t := 0) (pc' := 28) rfl dX7_make_27 rfl (fun h6 => ?_)
    refine sm_aload_n (i := 0) (j := 1) (pc' := 29) dX7_make_28 rfl rfl rfl ?_
    refine sm_dup (pc' := 30) rfl dX7_make_29 rfl ?_
    refine sm_getI (k := 5) (pc' := 33) kX7 (by decide) mw80 dX7_make_30 rfl (fun x7 => ?_)
    refine sm_iconst (v := (1 : Int32)) (pc' := 34) dX7_make_33 rfl (by decide) ?_
    refine sm_iadd (pc' := 35) dX7_make_34 rfl ?_
    refine sm_putI (k := 5) (pc' := 38) kX7 (by decide) mw80 rfl rfl dX7_make_35 rfl (fun h8 => ?_)
    refine sm_iconst (v := (0 : Int32)) (pc' := 39) dX7_make_38 rfl (by decide) ?_
    refine sm_istore (i := 4) (lv' := [(4, vI (0 : Int32)), (3, vI x1), (0, vR (some a0)), (1, vI a1), (2, vI a2)]) (pc' := 41) dX7_make_39 rfl (by decide) rfl ?_
    refine sm_lo (lv' := [(0, vR (some a0)), (2, vI a2), (3, vI x1), (4, vI (0 : Int32))]) [2, 4, 1, 0] rfl ?_
    exact sX7_make_41 l D aC B   sm_fuel a0 a2 x1 (0 : Int32) h8
  refine sm_iconst (v := (0 : Int32)) (pc' := 20) dX7_make_19 rfl (by decide) ?_
  exact sm_zret0 rfl dX7_make_20
set_option maxRecDepth 100000 in
theorem mX7_make (l : Launch) (D : va_G) (aC : Nat → ClassId) (B : Nat) (a0 : Nat) (a1 : Int32) (a2 : Int32) (h : sm_H) : sm_M l D vwCl gAts aC B gTs gNs gOs yX7_make cX7_make 7 (some .boolean) 3 61 vlI [vR (some a0), vI a1, vI a2] h (fX7_make a0 a1 a2 h) := sm_meth [vR (some a0), vI a1, vI a2] yY_yX7_make gG gN (Nat.le_of_ble_eq_true rfl) rfl (sX7_make_0 l D aC B a0 a1 a2 h)
