-- M:TreeAgentModel.in(JJJ)Z
noncomputable def fX12_in  (a0 : Int64) (a2 : Int64) (a4 : Int64) (h : sm_H) : Option (Int32 × sm_H) :=
  if (lg_cmp a0 a2) < 0 then (
    some ((0 : Int32), h)
  ) else
  if 0 < (lg_cmp a0 a4) then (
    some ((0 : Int32), h)
  ) else
  some ((1 : Int32), h)
set_option maxRecDepth 100000 in
set_option maxHeartbeats 4000000 in
theorem sX12_in_0 (l : Launch) (D : va_G) (aC : Nat → ClassId) (B : Nat)   (a0 : Int64) (a2 : Int64) (a4 : Int64) (h : sm_H) : zS l D aC B cX12_in 6 RX12 0 0 (some .boolean) "in" vlI (fX12_in a0 a2 a4 h) 0 [(0, vJ a0), (2, vJ a2), (4, vJ a4)] [] h := by
  unfold fX12_in
  refine sm_lload_n (i := 0) (j := 0) (pc' := 1) dX12_in_0 rfl rfl rfl ?_
  refine sm_lload_n (i := 2) (j := 1) (pc' := 2) dX12_in_1 rfl rfl rfl ?_
  refine sm_lcmp (pc' := 3) dX12_in_2 rfl ?_
  refine sm_if_lt (tgt := 17) (pc' := 6) dX12_in_3 (by decide) rfl ?_ ?_
  · refine sm_iconst (v := (0 : Int32)) (pc' := 18) dX12_in_17 rfl (by decide) ?_
    exact sm_zret0 rfl dX12_in_18
  refine sm_lload_n (i := 0) (j := 0) (pc' := 7) dX12_in_6 rfl rfl rfl ?_
  refine sm_lload (i := 4) (j := 2) (pc' := 9) dX12_in_7 rfl rfl ?_
  refine sm_lcmp (pc' := 10) dX12_in_9 rfl ?_
  refine sm_if_gt (tgt := 17) (pc' := 13) dX12_in_10 (by decide) rfl ?_ ?_
  · refine sm_iconst (v := (0 : Int32)) (pc' := 18) dX12_in_17 rfl (by decide) ?_
    exact sm_zret0 rfl dX12_in_18
  refine sm_iconst (v := (1 : Int32)) (pc' := 14) dX12_in_13 rfl (by decide) ?_
  refine sm_goto (pc' := 18) dX12_in_14 (by decide) ?_
  exact sm_zret1 rfl dX12_in_18
set_option maxRecDepth 100000 in
theorem mX12_in (l : Launch) (D : va_G) (aC : Nat → ClassId) (B : Nat) (a0 : Int64) (a2 : Int64) (a4 : Int64) (h : sm_H) : sm_M l D vwCl gAts aC B gTs gNs gOs yX12_in cX12_in 6 (some .boolean) 0 0 vlI [vJ a0, vJ a2, vJ a4] h (fX12_in a0 a2 a4 h) := sm_meth [vJ a0, vJ a2, vJ a4] yY_yX12_in gG gN (Nat.le_of_ble_eq_true rfl) rfl (sX12_in_0 l D aC B a0 a2 a4 h)
-- M:TreeAgentModel.begins([JII[JII)Z
noncomputable def fX12_begins_16  : Nat → Option Nat → Int32 → Option Nat → Int32 → Int32 → Int32 → Int32 → sm_H → Option (Int32 × sm_H)
  | 0 => fun _ _ _ _ _ _ _ _ => none
  | n + 1 => fun a0 a1 a3 a4 a5 a6 a7 h =>
    if a5 ≤ a7 then (
      if a6 = 0 ∨ a6 = 1 then some (a6, h) else none
    ) else
    if a6 = 0 then (
      if a6 = 0 ∨ a6 = 1 then some (a6, h) else none
    ) else
    (sm_aJ h a0 1 (a1 + a7)).bind fun x1 =>
    (sm_aJ h a3 1 (a4 + a7)).bind fun x2 =>
    if (lg_cmp x1 x2) = 0 then (
      sm_let (a7 + (1 : Int32)) fun x4 =>
      (fX12_begins_16 n) a0 a1 a3 a4 a5 (1 : Int32) x4 h
    ) else
    sm_let (a7 + (1 : Int32)) fun x3 =>
    (fX12_begins_16 n) a0 a1 a3 a4 a5 (0 : Int32) x3 h
set_option maxRecDepth 100000 in
set_option maxHeartbeats 4000000 in
theorem sX12_begins_16 (l : Launch) (D : va_G) (aC : Nat → ClassId) (B : Nat)   (n : Nat) : ∀ (a0 : Option Nat) (a1 : Int32) (a3 : Option Nat) (a4 : Int32) (a5 : Int32) (a6 : Int32) (a7 : Int32) (h : sm_H), zS l D aC B cX12_begins 8 RX12 0 0 (some .boolean) "begins" vlI (fX12_begins_16 n a0 a1 a3 a4 a5 a6 a7 h) 16 [(0, vR a0), (1, vI a1), (3, vR a3), (4, vI a4), (5, vI a5), (6, vI a6), (7, vI a7)] [] h := by
  induction n with
  | zero => intro a0 a1 a3 a4 a5 a6 a7 h; exact sm_none
  | succ n ih =>
    intro a0 a1 a3 a4 a5 a6 a7 h
    show zS l D aC B cX12_begins 8 RX12 0 0 (some .boolean) "begins" vlI (fX12_begins_16 (n + 1) a0 a1 a3 a4 a5 a6 a7 h) 16 [(0, vR a0), (1, vI a1), (3, vR a3), (4, vI a4), (5, vI a5), (6, vI a6), (7, vI a7)] [] h
    unfold fX12_begins_16
    refine sm_iload (i := 7) (j := 6) (pc' := 18) dX12_begins_16 rfl rfl ?_
    refine sm_iload (i := 5) (j := 4) (pc' := 20) dX12_begins_18 rfl rfl ?_
    refine sm_icmp_ge (tgt := 58) (pc' := 23) dX12_begins_20 (by decide) rfl ?_ ?_
    · refine sm_iload (i := 6) (j := 5) (pc' := 60) dX12_begins_58 rfl rfl ?_
      exact sm_zret rfl dX12_begins_60
    refine sm_iload (i := 6) (j := 5) (pc' := 25) dX12_begins_23 rfl rfl ?_
    refine sm_if_eq (tgt := 58) (pc' := 28) dX12_begins_25 (by decide) rfl ?_ ?_
    · refine sm_iload (i := 6) (j := 5) (pc' := 60) dX12_begins_58 rfl rfl ?_
      exact sm_zret rfl dX12_begins_60
    refine sm_aload_n (i := 0) (j := 0) (pc' := 29) dX12_begins_28 rfl rfl rfl ?_
    refine sm_iload_n (i := 1) (j := 1) (pc' := 30) dX12_begins_29 rfl rfl rfl ?_
    refine sm_iload (i := 7) (j := 6) (pc' := 32) dX12_begins_30 rfl rfl ?_
    refine sm_iadd (pc' := 33) dX12_begins_32 rfl ?_
    refine sm_lald (t := 1) (pc' := 34) rfl dX12_begins_33 rfl (fun x1 => ?_)
    refine sm_aload_n (i := 3) (j := 2) (pc' := 35) dX12_begins_34 rfl rfl rfl ?_
    refine sm_iload (i := 4) (j := 3) (pc' := 37) dX12_begins_35 rfl rfl ?_
    refine sm_iload (i := 7) (j := 6) (pc' := 39) dX12_begins_37 rfl rfl ?_
    refine sm_iadd (pc' := 40) dX12_begins_39 rfl ?_
    refine sm_lald (t := 1) (pc' := 41) rfl dX12_begins_40 rfl (fun x2 => ?_)
    refine sm_lcmp (pc' := 42) dX12_begins_41 rfl ?_
    refine sm_if_ne (tgt := 49) (pc' := 45) dX12_begins_42 (by decide) rfl ?_ ?_
    · refine sm_iconst (v := (0 : Int32)) (pc' := 50) dX12_begins_49 rfl (by decide) ?_
      refine sm_istore (i := 6) (lv' := [(6, vI (0 : Int32)), (0, vR a0), (1, vI a1), (3, vR a3), (4, vI a4), (5, vI a5), (7, vI a7)]) (pc' := 52) dX12_begins_50 rfl (by decide) rfl ?_
      refine sm_iincL (i := 7) (j := 6) (x := a7) (d := (1 : Int32)) (fun x3 => [(7, vI x3), (6, vI (0 : Int32)), (0, vR a0), (1, vI a1), (3, vR a3), (4, vI a4), (5, vI a5)]) (pc' := 55) dX12_begins_52 rfl rfl (by decide) (by decide) (fun _ => rfl) (fun x3 => ?_)
      refine sm_goto (pc' := 16) dX12_begins_55 (by decide) ?_
      refine sm_lo (lv' := [(0, vR a0), (1, vI a1), (3, vR a3), (4, vI a4), (5, vI a5), (6, vI (0 : Int32)), (7, vI x3)]) [2, 3, 4, 5, 6, 1, 0] rfl ?_
      exact ih a0 a1 a3 a4 a5 (0 : Int32) x3 h
    refine sm_iconst (v := (1 : Int32)) (pc' := 46) dX12_begins_45 rfl (by decide) ?_
    refine sm_goto (pc' := 50) dX12_begins_46 (by decide) ?_
    refine sm_istore (i := 6) (lv' := [(6, vI (1 : Int32)), (0, vR a0), (1, vI a1), (3, vR a3), (4, vI a4), (5, vI a5), (7, vI a7)]) (pc' := 52) dX12_begins_50 rfl (by decide) rfl ?_
    refine sm_iincL (i := 7) (j := 6) (x := a7) (d := (1 : Int32)) (fun x4 => [(7, vI x4), (6, vI (1 : Int32)), (0, vR a0), (1, vI a1), (3, vR a3), (4, vI a4), (5, vI a5)]) (pc' := 55) dX12_begins_52 rfl rfl (by decide) (by decide) (fun _ => rfl) (fun x4 => ?_)
    refine sm_goto (pc' := 16) dX12_begins_55 (by decide) ?_
    refine sm_lo (lv' := [(0, vR a0), (1, vI a1), (3, vR a3), (4, vI a4), (5, vI a5), (6, vI (1 : Int32)), (7, vI x4)]) [2, 3, 4, 5, 6, 1, 0] rfl ?_
    exact ih a0 a1 a3 a4 a5 (1 : Int32) x4 h
noncomputable def fX12_begins  (a0 : Option Nat) (a1 : Int32) (a2 : Int32) (a3 : Option Nat) (a4 : Int32) (a5 : Int32) (h : sm_H) : Option (Int32 × sm_H) :=
  if a2 < a5 then (
    fX12_begins_16 sm_fuel a0 a1 a3 a4 a5 (0 : Int32) (0 : Int32) h
  ) else
  fX12_begins_16 sm_fuel a0 a1 a3 a4 a5 (1 : Int32) (0 : Int32) h
set_option maxRecDepth 100000 in
set_option maxHeartbeats 4000000 in
theorem sX12_begins_0 (l : Launch) (D : va_G) (aC : Nat → ClassId) (B : Nat)   (a0 : Option Nat) (a1 : Int32) (a2 : Int32) (a3 : Option Nat) (a4 : Int32) (a5 : Int32) (h : sm_H) : zS l D aC B cX12_begins 8 RX12 0 0 (some .boolean) "begins" vlI (fX12_begins a0 a1 a2 a3 a4 a5 h) 0 [(0, vR a0), (1, vI a1), (2, vI a2), (3, vR a3), (4, vI a4), (5, vI a5)] [] h := by
  unfold fX12_begins
  refine sm_iload (i := 5) (j := 5) (pc' := 2) dX12_begins_0 rfl rfl ?_
  refine sm_iload_n (i := 2) (j := 2) (pc' := 3) dX12_begins_2 rfl rfl rfl ?_
  refine sm_icmp_gt (tgt := 10) (pc' := 6) dX12_begins_3 (by decide) rfl ?_ ?_
  · refine sm_iconst (v := (0 : Int32)) (pc' := 11) dX12_begins_10 rfl (by decide) ?_
    refine sm_istore (i := 6) (lv' := [(6, vI (0 : Int32)), (0, vR a0), (1, vI a1), (2, vI a2), (3, vR a3), (4, vI a4), (5, vI a5)]) (pc' := 13) dX12_begins_11 rfl (by decide) rfl ?_
    refine sm_iconst (v := (0 : Int32)) (pc' := 14) dX12_begins_13 rfl (by decide) ?_
    refine sm_istore (i := 7) (lv' := [(7, vI (0 : Int32)), (6, vI (0 : Int32)), (0, vR a0), (1, vI a1), (2, vI a2), (3, vR a3), (4, vI a4), (5, vI a5)]) (pc' := 16) dX12_begins_14 rfl (by decide) rfl ?_
    refine sm_lo (lv' := [(0, vR a0), (1, vI a1), (3, vR a3), (4, vI a4), (5, vI a5), (6, vI (0 : Int32)), (7, vI (0 : Int32))]) [2, 3, 5, 6, 7, 1, 0] rfl ?_
    exact sX12_begins_16 l D aC B   sm_fuel a0 a1 a3 a4 a5 (0 : Int32) (0 : Int32) h
  refine sm_iconst (v := (1 : Int32)) (pc' := 7) dX12_begins_6 rfl (by decide) ?_
  refine sm_goto (pc' := 11) dX12_begins_7 (by decide) ?_
  refine sm_istore (i := 6) (lv' := [(6, vI (1 : Int32)), (0, vR a0), (1, vI a1), (2, vI a2), (3, vR a3), (4, vI a4), (5, vI a5)]) (pc' := 13) dX12_begins_11 rfl (by decide) rfl ?_
  refine sm_iconst (v := (0 : Int32)) (pc' := 14) dX12_begins_13 rfl (by decide) ?_
  refine sm_istore (i := 7) (lv' := [(7, vI (0 : Int32)), (6, vI (1 : Int32)), (0, vR a0), (1, vI a1), (2, vI a2), (3, vR a3), (4, vI a4), (5, vI a5)]) (pc' := 16) dX12_begins_14 rfl (by decide) rfl ?_
  refine sm_lo (lv' := [(0, vR a0), (1, vI a1), (3, vR a3), (4, vI a4), (5, vI a5), (6, vI (1 : Int32)), (7, vI (0 : Int32))]) [2, 3, 5, 6, 7, 1, 0] rfl ?_
  exact sX12_begins_16 l D aC B   sm_fuel a0 a1 a3 a4 a5 (1 : Int32) (0 : Int32) h
set_option maxRecDepth 100000 in
theorem mX12_begins (l : Launch) (D : va_G) (aC : Nat → ClassId) (B : Nat) (a0 : Option Nat) (a1 : Int32) (a2 : Int32) (a3 : Option Nat) (a4 : Int32) (a5 : Int32) (h : sm_H) : sm_M l D vwCl gAts aC B gTs gNs gOs yX12_begins cX12_begins 8 (some .boolean) 0 0 vlI [vR a0, vI a1, vI a2, vR a3, vI a4, vI a5] h (fX12_begins a0 a1 a2 a3 a4 a5 h) := sm_meth [vR a0, vI a1, vI a2, vR a3, vI a4, vI a5] yY_yX12_begins gG gN (Nat.le_of_ble_eq_true rfl) rfl (sX12_begins_0 l D aC B a0 a1 a2 a3 a4 a5 h)
-- M:TreeAgentModel.order([JII[JII)I
noncomputable def fX12_order_62  (a2 : Int32) (a5 : Int32) (h : sm_H) : Option (Int32 × sm_H) :=
  if a5 ≤ a2 then (
    if a2 ≤ a5 then (
      some ((0 : Int32), h)
    ) else
    some ((1 : Int32), h)
  ) else
  some ((-1 : Int32), h)
set_option maxRecDepth 100000 in
set_option maxHeartbeats 4000000 in
theorem sX12_order_62 (l : Launch) (D : va_G) (aC : Nat → ClassId) (B : Nat)   (a2 : Int32) (a5 : Int32) (h : sm_H) : zS l D aC B cX12_order 7 RX12 0 0 (some .int) "order" vlI (fX12_order_62 a2 a5 h) 62 [(2, vI a2), (5, vI a5)] [] h := by
  unfold fX12_order_62
  refine sm_iload_n (i := 2) (j := 0) (pc' := 63) dX12_order_62 rfl rfl rfl ?_
  refine sm_iload (i := 5) (j := 1) (pc' := 65) dX12_order_63 rfl rfl ?_
  refine sm_icmp_ge (tgt := 72) (pc' := 68) dX12_order_65 (by decide) rfl ?_ ?_
  · refine sm_iload_n (i := 2) (j := 0) (pc' := 73) dX12_order_72 rfl rfl rfl ?_
    refine sm_iload (i := 5) (j := 1) (pc' := 75) dX12_order_73 rfl rfl ?_
    refine sm_icmp_le (tgt := 82) (pc' := 78) dX12_order_75 (by decide) rfl ?_ ?_
    · refine sm_iconst (v := (0 : Int32)) (pc' := 83) dX12_order_82 rfl (by decide) ?_
      exact sm_iret rfl dX12_order_83
    refine sm_iconst (v := (1 : Int32)) (pc' := 79) dX12_order_78 rfl (by decide) ?_
    refine sm_goto (pc' := 83) dX12_order_79 (by decide) ?_
    exact sm_iret rfl dX12_order_83
  refine sm_iconst (v := (-1 : Int32)) (pc' := 69) dX12_order_68 rfl (by decide) ?_
  refine sm_goto (pc' := 83) dX12_order_69 (by decide) ?_
  exact sm_iret rfl dX12_order_83
noncomputable def fX12_order_3  : Nat → Option Nat → Int32 → Int32 → Option Nat → Int32 → Int32 → Int32 → sm_H → Option (Int32 × sm_H)
  | 0 => fun _ _ _ _ _ _ _ _ => none
  | n + 1 => fun a0 a1 a2 a3 a4 a5 a6 h =>
    if a2 ≤ a6 then (
      fX12_order_62 a2 a5 h
    ) else
    if a5 ≤ a6 then (
      fX12_order_62 a2 a5 h
    ) else
    (sm_aJ h a0 1 (a1 + a6)).bind fun x1 =>
    (sm_aJ h a3 1 (a4 + a6)).bind fun x2 =>
    if (lg_cmp x1 x2) = 0 then (
      sm_let (a6 + (1 : Int32)) fun x3 =>
      (fX12_order_3 n) a0 a1 a2 a3 a4 a5 x3 h
    ) else
    (sm_aJ h a0 1 (a1 + a6)).bind fun x4 =>
    (sm_aJ h a3 1 (a4 + a6)).bind fun x5 =>
    if 0 ≤ (lg_cmp x4 x5) then (
      some ((1 : Int32), h)
    ) else
    some ((-1 : Int32), h)
set_option maxRecDepth 100000 in
set_option maxHeartbeats 4000000 in
theorem sX12_order_3 (l : Launch) (D : va_G) (aC : Nat → ClassId) (B : Nat)   (n : Nat) : ∀ (a0 : Option Nat) (a1 : Int32) (a2 : Int32) (a3 : Option Nat) (a4 : Int32) (a5 : Int32) (a6 : Int32) (h : sm_H), zS l D aC B cX12_order 7 RX12 0 0 (some .int) "order" vlI (fX12_order_3 n a0 a1 a2 a3 a4 a5 a6 h) 3 [(0, vR a0), (1, vI a1), (2, vI a2), (3, vR a3), (4, vI a4), (5, vI a5), (6, vI a6)] [] h := by
  induction n with
  | zero => intro a0 a1 a2 a3 a4 a5 a6 h; exact sm_none
  | succ n ih =>
    intro a0 a1 a2 a3 a4 a5 a6 h
    show zS l D aC B cX12_order 7 RX12 0 0 (some .int) "order" vlI (fX12_order_3 (n + 1) a0 a1 a2 a3 a4 a5 a6 h) 3 [(0, vR a0), (1, vI a1), (2, vI a2), (3, vR a3), (4, vI a4), (5, vI a5), (6, vI a6)] [] h
    unfold fX12_order_3
    refine sm_iload (i := 6) (j := 6) (pc' := 5) dX12_order_3 rfl rfl ?_
    refine sm_iload_n (i := 2) (j := 2) (pc' := 6) dX12_order_5 rfl rfl rfl ?_
    refine sm_icmp_ge (tgt := 62) (pc' := 9) dX12_order_6 (by decide) rfl ?_ ?_
    · refine sm_lo (lv' := [(2, vI a2), (5, vI a5)]) [2, 5] rfl ?_
      exact sX12_order_62 l D aC B  a2 a5 h
    refine sm_iload (i := 6) (j := 6) (pc' := 11) dX12_order_9 rfl rfl ?_
    refine sm_iload (i := 5) (j := 5) (pc' := 13) dX12_order_11 rfl rfl ?_
    refine sm_icmp_ge (tgt := 62) (pc' := 16) dX12_order_13 (by decide) rfl ?_ ?_
    · refine sm_lo (lv' := [(2, vI a2), (5, vI a5)]) [2, 5] rfl ?_
      exact sX12_order_62 l D aC B  a2 a5 h
    refine sm_aload_n (i := 0) (j := 0) (pc' := 17) dX12_order_16 rfl rfl rfl ?_
    refine sm_iload_n (i := 1) (j := 1) (pc' := 18) dX12_order_17 rfl rfl rfl ?_
    refine sm_iload (i := 6) (j := 6) (pc' := 20) dX12_order_18 rfl rfl ?_
    refine sm_iadd (pc' := 21) dX12_order_20 rfl ?_
    refine sm_lald (t := 1) (pc' := 22) rfl dX12_order_21 rfl (fun x1 => ?_)
    refine sm_aload_n (i := 3) (j := 3) (pc' := 23) dX12_order_22 rfl rfl rfl ?_
    refine sm_iload (i := 4) (j := 4) (pc' := 25) dX12_order_23 rfl rfl ?_
    refine sm_iload (i := 6) (j := 6) (pc' := 27) dX12_order_25 rfl rfl ?_
    refine sm_iadd (pc' := 28) dX12_order_27 rfl ?_
    refine sm_lald (t := 1) (pc' := 29) rfl dX12_order_28 rfl (fun x2 => ?_)
    refine sm_lcmp (pc' := 30) dX12_order_29 rfl ?_
    refine sm_if_eq (tgt := 56) (pc' := 33) dX12_order_30 (by decide) rfl ?_ ?_
    · refine sm_iincL (i := 6) (j := 6) (x := a6) (d := (1 : Int32)) (fun x3 => [(6, vI x3), (0, vR a0), (1, vI a1), (2, vI a2), (3, vR a3), (4, vI a4), (5, vI a5)]) (pc' := 59) dX12_order_56 rfl rfl (by decide) (by decide) (fun _ => rfl) (fun x3 => ?_)
      refine sm_goto (pc' := 3) dX12_order_59 (by decide) ?_
      refine sm_lo (lv' := [(0, vR a0), (1, vI a1), (2, vI a2), (3, vR a3), (4, vI a4), (5, vI a5), (6, vI x3)]) [1, 2, 3, 4, 5, 6, 0] rfl ?_
      exact ih a0 a1 a2 a3 a4 a5 x3 h
    refine sm_aload_n (i := 0) (j := 0) (pc' := 34) dX12_order_33 rfl rfl rfl ?_
    refine sm_iload_n (i := 1) (j := 1) (pc' := 35) dX12_order_34 rfl rfl rfl ?_
    refine sm_iload (i := 6) (j := 6) (pc' := 37) dX12_order_35 rfl rfl ?_
    refine sm_iadd (pc' := 38) dX12_order_37 rfl ?_
    refine sm_lald (t := 1) (pc' := 39) rfl dX12_order_38 rfl (fun x4 => ?_)
    refine sm_aload_n (i := 3) (j := 3) (pc' := 40) dX12_order_39 rfl rfl rfl ?_
    refine sm_iload (i := 4) (j := 4) (pc' := 42) dX12_order_40 rfl rfl ?_
    refine sm_iload (i := 6) (j := 6) (pc' := 44) dX12_order_42 rfl rfl ?_
    refine sm_iadd (pc' := 45) dX12_order_44 rfl ?_
    refine sm_lald (t := 1) (pc' := 46) rfl dX12_order_45 rfl (fun x5 => ?_)
    refine sm_lcmp (pc' := 47) dX12_order_46 rfl ?_
    refine sm_if_ge (tgt := 54) (pc' := 50) dX12_order_47 (by decide) rfl ?_ ?_
    · refine sm_iconst (v := (1 : Int32)) (pc' := 55) dX12_order_54 rfl (by decide) ?_
      exact sm_iret rfl dX12_order_55
    refine sm_iconst (v := (-1 : Int32)) (pc' := 51) dX12_order_50 rfl (by decide) ?_
    refine sm_goto (pc' := 55) dX12_order_51 (by decide) ?_
    exact sm_iret rfl dX12_order_55
noncomputable def fX12_order  (a0 : Option Nat) (a1 : Int32) (a2 : Int32) (a3 : Option Nat) (a4 : Int32) (a5 : Int32) (h : sm_H) : Option (Int32 × sm_H) :=
  fX12_order_3 sm_fuel a0 a1 a2 a3 a4 a5 (0 : Int32) h
set_option maxRecDepth 100000 in
set_option maxHeartbeats 4000000 in
theorem sX12_order_0 (l : Launch) (D : va_G) (aC : Nat → ClassId) (B : Nat)   (a0 : Option Nat) (a1 : Int32) (a2 : Int32) (a3 : Option Nat) (a4 : Int32) (a5 : Int32) (h : sm_H) : zS l D aC B cX12_order 7 RX12 0 0 (some .int) "order" vlI (fX12_order a0 a1 a2 a3 a4 a5 h) 0 [(0, vR a0), (1, vI a1), (2, vI a2), (3, vR a3), (4, vI a4), (5, vI a5)] [] h := by
  unfold fX12_order
  refine sm_iconst (v := (0 : Int32)) (pc' := 1) dX12_order_0 rfl (by decide) ?_
  refine sm_istore (i := 6) (lv' := [(6, vI (0 : Int32)), (0, vR a0), (1, vI a1), (2, vI a2), (3, vR a3), (4, vI a4), (5, vI a5)]) (pc' := 3) dX12_order_1 rfl (by decide) rfl ?_
  refine sm_lo (lv' := [(0, vR a0), (1, vI a1), (2, vI a2), (3, vR a3), (4, vI a4), (5, vI a5), (6, vI (0 : Int32))]) [1, 2, 3, 4, 5, 6, 0] rfl ?_
  exact sX12_order_3 l D aC B   sm_fuel a0 a1 a2 a3 a4 a5 (0 : Int32) h
set_option maxRecDepth 100000 in
theorem mX12_order (l : Launch) (D : va_G) (aC : Nat → ClassId) (B : Nat) (a0 : Option Nat) (a1 : Int32) (a2 : Int32) (a3 : Option Nat) (a4 : Int32) (a5 : Int32) (h : sm_H) : sm_M l D vwCl gAts aC B gTs gNs gOs yX12_order cX12_order 7 (some .int) 0 0 vlI [vR a0, vI a1, vI a2, vR a3, vI a4, vI a5] h (fX12_order a0 a1 a2 a3 a4 a5 h) := sm_meth [vR a0, vI a1, vI a2, vR a3, vI a4, vI a5] yY_yX12_order gG gN (Nat.le_of_ble_eq_true rfl) rfl (sX12_order_0 l D aC B a0 a1 a2 a3 a4 a5 h)
-- M:TreeAgentModel.feed(JI)I
noncomputable def fX12_feed_51  : Nat → Nat → Int64 → Int32 → sm_H → Option (Int32 × sm_H)
  | 0 => fun _ _ _ _ => none
  | n + 1 => fun a0 a1 a4 h =>
    if a4 < 0 then (
      (sm_I (sm_get h (some a0) 12 2)).bind fun x1 =>
      some (x1, h)
    ) else
    (sm_R (sm_get h (some a0) 12 1)).bind fun x2 =>
    (sm_I (sm_get h (some a0) 12 2)).bind fun x3 =>
    (sm_sI h x2 3 x3 (vp_nar .byte (((a1 >>> (((8 : Int32) * a4).toInt64 &&& 63)).toInt32).toInt8.toInt32))).bind fun h4 =>
    (sm_I (sm_get h4 (some a0) 12 2)).bind fun x5 =>
    (sm_put h4 (some a0) 12 2 (sm_v (vI (x5 + (1 : Int32))))).bind fun h6 =>
    sm_let (a4 + (-1 : Int32)) fun x7 =>
    (fX12_feed_51 n) a0 a1 x7 h6
set_option maxRecDepth 100000 in
set_option maxHeartbeats 4000000 in
theorem sX12_feed_51 (l : Launch) (D : va_G) (aC : Nat → ClassId) (B : Nat)   (n : Nat) : ∀ (a0 : Nat) (a1 : Int64) (a4 : Int32) (h : sm_H), zS l D aC B cX12_feed 5 RX12 1 25 (some .int) "feed" vlI (fX12_feed_51 n a0 a1 a4 h) 51 [(0, vR (some a0)), (1, vJ a1), (4, vI a4)] [] h := by
  induction n with
  | zero => intro a0 a1 a4 h; exact sm_none
  | succ n ih =>
    intro a0 a1 a4 h
    show zS l D aC B cX12_feed 5 RX12 1 25 (some .int) "feed" vlI (fX12_feed_51 (n + 1) a0 a1 a4 h) 51 [(0, vR (some a0)), (1, vJ a1), (4, vI a4)] [] h
    unfold fX12_feed_51
    refine sm_iload (i := 4) (j := 2) (pc' := 53) dX12_feed_51 rfl rfl ?_
    refine sm_if_lt (tgt := 90) (pc' := 56) dX12_feed_53 (by decide) rfl ?_ ?_
    · refine sm_aload_n (i := 0) (j := 0) (pc' := 91) dX12_feed_90 rfl rfl rfl ?_
      refine sm_getI (k := 2) (pc' := 94) kX12 (by decide) mw698 dX12_feed_91 rfl (fun x1 => ?_)
      exact sm_iret rfl dX12_feed_94
    refine sm_aload_n (i := 0) (j := 0) (pc' := 57) dX12_feed_56 rfl rfl rfl ?_
    refine sm_getR (k := 1) (pc' := 60) kX12 (by decide) mw657 dX12_feed_57 rfl (fun x2 => ?_)
    refine sm_aload_n (i := 0) (j := 0) (pc' := 61) dX12_feed_60 rfl rfl rfl ?_
    refine sm_getI (k := 2) (pc' := 64) kX12 (by decide) mw698 dX12_feed_61 rfl (fun x3 => ?_)
    refine sm_lload_n (i := 1) (j := 1) (pc' := 65) dX12_feed_64 rfl rfl rfl ?_
    refine sm_bipush (v := (8 : Int32)) (pc' := 67) dX12_feed_65 rfl (by decide) ?_
    refine sm_iload (i := 4) (j := 2) (pc' := 69) dX12_feed_67 rfl rfl ?_
    refine sm_imul (pc' := 70) dX12_feed_69 rfl ?_
    refine sm_lshr (pc' := 71) dX12_feed_70 rfl ?_
    refine sm_l2i (pc' := 72) dX12_feed_71 rfl ?_
    refine sm_i2b (pc' := 73) dX12_feed_72 rfl ?_
    refine sm_bast (t := 3) (pc' := 74) rfl dX12_feed_73 rfl (fun h4 => ?_)
    refine sm_aload_n (i := 0) (j := 0) (pc' := 75) dX12_feed_74 rfl rfl rfl ?_
    refine sm_dup (pc' := 76) rfl dX12_feed_75 rfl ?_
    refine sm_getI (k := 2) (pc' := 79) kX12 (by decide) mw698 dX12_feed_76 rfl (fun x5 => ?_)
    refine sm_iconst (v := (1 : Int32)) (pc' := 80) dX12_feed_79 rfl (by decide) ?_
    refine sm_iadd (pc' := 81) dX12_feed_80 rfl ?_
    refine sm_putI (k := 2) (pc' := 84) kX12 (by decide) mw698 rfl rfl dX12_feed_81 rfl (fun h6 => ?_)
    refine sm_iincL (i := 4) (j := 2) (x := a4) (d := (-1 : Int32)) (fun x7 => [(4, vI x7), (0, vR (some a0)), (1, vJ a1)]) (pc' := 87) dX12_feed_84 rfl rfl (by decide) (by decide) (fun _ => rfl) (fun x7 => ?_)
    refine sm_goto (pc' := 51) dX12_feed_87 (by decide) ?_
    refine sm_lo (lv' := [(0, vR (some a0)), (1, vJ a1), (4, vI x7)]) [1, 2, 0] rfl ?_
    exact ih a0 a1 x7 h6
noncomputable def fX12_feed  (a0 : Nat) (a1 : Int64) (a3 : Int32) (h : sm_H) : Option (Int32 × sm_H) :=
  (sm_put h (some a0) 12 0 (sm_v (vI (0 : Int32)))).bind fun h1 =>
  sm_cb (fX12_in (a3.toInt64) (0 : Int64) (8 : Int64) h1) fun x2 h3 =>
  if x2 = 0 then (
    some ((-2 : Int32), h3)
  ) else
  if a3 = 0 then (
    (sm_put h3 (some a0) 12 2 (sm_v (vI (0 : Int32)))).bind fun h6 =>
    some ((0 : Int32), h6)
  ) else
  (sm_I (sm_get h3 (some a0) 12 2)).bind fun x4 =>
  if (x4 + a3) ≤ (1200 : Int32) then (
    sm_let (a3 - (1 : Int32)) fun x5 =>
    fX12_feed_51 sm_fuel a0 a1 x5 h3
  ) else
  some ((-4 : Int32), h3)
set_option maxRecDepth 100000 in
set_option maxHeartbeats 4000000 in
theorem sX12_feed_0 (l : Launch) (D : va_G) (aC : Nat → ClassId) (B : Nat)   (a0 : Nat) (a1 : Int64) (a3 : Int32) (h : sm_H) : zS l D aC B cX12_feed 5 RX12 1 25 (some .int) "feed" vlI (fX12_feed a0 a1 a3 h) 0 [(0, vR (some a0)), (1, vJ a1), (3, vI a3)] [] h := by
  unfold fX12_feed
  refine sm_aload_n (i := 0) (j := 0) (pc' := 1) dX12_feed_0 rfl rfl rfl ?_
  refine sm_iconst (v := (0 : Int32)) (pc' := 2) dX12_feed_1 rfl (by decide) ?_
  refine sm_putI (k := 0) (pc' := 5) kX12 (by decide) mw699 rfl rfl dX12_feed_2 rfl (fun h1 => ?_)
  refine sm_iload_n (i := 3) (j := 2) (pc' := 6) dX12_feed_5 rfl rfl rfl ?_
  refine sm_i2l (pc' := 7) dX12_feed_6 rfl ?_
  refine sm_lconst (v := (0 : Int64)) (pc' := 8) dX12_feed_7 rfl (by decide) ?_
  refine sm_ldc2 (v := (8 : Int64)) (pc' := 11) dX12_feed_8 rfl mw700 ?_
  refine sm_cSI (pc' := 14) (st := []) [vJ (a3.toInt64), vJ (0 : Int64), vJ (8 : Int64)] yY_yX12_in mw701 mw702 (mX12_in l D aC B (a3.toInt64) (0 : Int64) (8 : Int64) h1) rfl (by decide) (by decide) (by exact Nat.le_of_ble_eq_true rfl) rfl dX12_feed_11 rfl (fun x2 h3 => ?_)
  refine sm_if_ne (tgt := 20) (pc' := 17) dX12_feed_14 (by decide) rfl ?_ ?_
  · refine sm_iload_n (i := 3) (j := 2) (pc' := 21) dX12_feed_20 rfl rfl rfl ?_
    refine sm_if_ne (tgt := 31) (pc' := 24) dX12_feed_21 (by decide) rfl ?_ ?_
    · refine sm_aload_n (i := 0) (j := 0) (pc' := 32) dX12_feed_31 rfl rfl rfl ?_
      refine sm_getI (k := 2) (pc' := 35) kX12 (by decide) mw698 dX12_feed_32 rfl (fun x4 => ?_)
      refine sm_iload_n (i := 3) (j := 2) (pc' := 36) dX12_feed_35 rfl rfl rfl ?_
      refine sm_iadd (pc' := 37) dX12_feed_36 rfl ?_
      refine sm_sipush (v := (1200 : Int32)) (pc' := 40) dX12_feed_37 rfl (by decide) ?_
      refine sm_icmp_le (tgt := 46) (pc' := 43) dX12_feed_40 (by decide) rfl ?_ ?_
      · refine sm_iload_n (i := 3) (j := 2) (pc' := 47) dX12_feed_46 rfl rfl rfl ?_
        refine sm_iconst (v := (1 : Int32)) (pc' := 48) dX12_feed_47 rfl (by decide) ?_
        refine sm_isub (pc' := 49) dX12_feed_48 rfl ?_
        refine sm_letIv (fun x5 => ?_)
        refine sm_istore (i := 4) (lv' := [(4, vI x5), (0, vR (some a0)), (1, vJ a1), (3, vI a3)]) (pc' := 51) dX12_feed_49 rfl (by decide) rfl ?_
        refine sm_lo (lv' := [(0, vR (some a0)), (1, vJ a1), (4, vI x5)]) [1, 2, 0] rfl ?_
        exact sX12_feed_51 l D aC B   sm_fuel a0 a1 x5 h3
      refine sm_bipush (v := (-4 : Int32)) (pc' := 45) dX12_feed_43 rfl (by decide) ?_
      exact sm_iret rfl dX12_feed_45
    refine sm_aload_n (i := 0) (j := 0) (pc' := 25) dX12_feed_24 rfl rfl rfl ?_
    refine sm_iconst (v := (0 : Int32)) (pc' := 26) dX12_feed_25 rfl (by decide) ?_
    refine sm_putI (k := 2) (pc' := 29) kX12 (by decide) mw698 rfl rfl dX12_feed_26 rfl (fun h6 => ?_)
    refine sm_iconst (v := (0 : Int32)) (pc' := 30) dX12_feed_29 rfl (by decide) ?_
    exact sm_iret rfl dX12_feed_30
  refine sm_bipush (v := (-2 : Int32)) (pc' := 19) dX12_feed_17 rfl (by decide) ?_
  exact sm_iret rfl dX12_feed_19
set_option maxRecDepth 100000 in
theorem mX12_feed (l : Launch) (D : va_G) (aC : Nat → ClassId) (B : Nat) (a0 : Nat) (a1 : Int64) (a3 : Int32) (h : sm_H) : sm_M l D vwCl gAts aC B gTs gNs gOs yX12_feed cX12_feed 5 (some .int) 1 25 vlI [vR (some a0), vJ a1, vI a3] h (fX12_feed a0 a1 a3 h) := sm_meth [vR (some a0), vJ a1, vI a3] yY_yX12_feed gG gN (Nat.le_of_ble_eq_true rfl) rfl (sX12_feed_0 l D aC B a0 a1 a3 h)
-- M:TreeAgentModel.number(J)I
noncomputable def fX12_number_50  (a0 : Nat) (a1 : Int64) (s0 : Int64) (h : sm_H) : Option (Int32 × sm_H) :=
  sm_cb (fX12_in a1 (0 : Int64) s0 h) fun x1 h2 =>
  if x1 = 0 then (
    some ((-2 : Int32), h2)
  ) else
  (sm_I (sm_get h2 (some a0) 12 4)).bind fun x3 =>
  if x3 = (16 : Int32) then (
    some ((-4 : Int32), h2)
  ) else
  (sm_R (sm_get h2 (some a0) 12 3)).bind fun x4 =>
  (sm_I (sm_get h2 (some a0) 12 4)).bind fun x5 =>
  (sm_sJ h2 x4 1 x5 a1).bind fun h6 =>
  (sm_I (sm_get h6 (some a0) 12 4)).bind fun x7 =>
  (sm_put h6 (some a0) 12 4 (sm_v (vI (x7 + (1 : Int32))))).bind fun h8 =>
  (sm_I (sm_get h8 (some a0) 12 4)).bind fun x9 =>
  some (x9, h8)
set_option maxRecDepth 100000 in
set_option maxHeartbeats 4000000 in
theorem sX12_number_50 (l : Launch) (D : va_G) (aC : Nat → ClassId) (B : Nat)   (a0 : Nat) (a1 : Int64) (s0 : Int64) (h : sm_H) : zS l D aC B cX12_number 5 RX12 1 25 (some .int) "number" vlI (fX12_number_50 a0 a1 s0 h) 50 [(0, vR (some a0)), (1, vJ a1)] [vJ s0] h := by
  unfold fX12_number_50
  refine sm_lstore_n (i := 3) (lv' := [(3, vJ s0), (0, vR (some a0)), (1, vJ a1)]) (pc' := 51) dX12_number_50 rfl rfl (by decide) rfl ?_
  refine sm_lload_n (i := 1) (j := 2) (pc' := 52) dX12_number_51 rfl rfl rfl ?_
  refine sm_lconst (v := (0 : Int64)) (pc' := 53) dX12_number_52 rfl (by decide) ?_
  refine sm_lload_n (i := 3) (j := 0) (pc' := 54) dX12_number_53 rfl rfl rfl ?_
  refine sm_cSI (pc' := 57) (st := []) [vJ a1, vJ (0 : Int64), vJ s0] yY_yX12_in mw701 mw702 (mX12_in l D aC B a1 (0 : Int64) s0 h) rfl (by decide) (by decide) (by exact Nat.le_of_ble_eq_true rfl) rfl dX12_number_54 rfl (fun x1 h2 => ?_)
  refine sm_if_ne (tgt := 63) (pc' := 60) dX12_number_57 (by decide) rfl ?_ ?_
  · refine sm_aload_n (i := 0) (j := 1) (pc' := 64) dX12_number_63 rfl rfl rfl ?_
    refine sm_getI (k := 4) (pc' := 67) kX12 (by decide) mw703 dX12_number_64 rfl (fun x3 => ?_)
    refine sm_bipush (v := (16 : Int32)) (pc' := 69) dX12_number_67 rfl (by decide) ?_
    refine sm_icmp_ne (tgt := 75) (pc' := 72) dX12_number_69 (by decide) rfl ?_ ?_
    · refine sm_aload_n (i := 0) (j := 1) (pc' := 76) dX12_number_75 rfl rfl rfl ?_
      refine sm_getR (k := 3) (pc' := 79) kX12 (by decide) mw658 dX12_number_76 rfl (fun x4 => ?_)
      refine sm_aload_n (i := 0) (j := 1) (pc' := 80) dX12_number_79 rfl rfl rfl ?_
      refine sm_getI (k := 4) (pc' := 83) kX12 (by decide) mw703 dX12_number_80 rfl (fun x5 => ?_)
      refine sm_lload_n (i := 1) (j := 2) (pc' := 84) dX12_number_83 rfl rfl rfl ?_
      refine sm_last (t := 1) (pc' := 85) rfl dX12_number_84 rfl (fun h6 => ?_)
      refine sm_aload_n (i := 0) (j := 1) (pc' := 86) dX12_number_85 rfl rfl rfl ?_
      refine sm_dup (pc' := 87) rfl dX12_number_86 rfl ?_
      refine sm_getI (k := 4) (pc' := 90) kX12 (by decide) mw703 dX12_number_87 rfl (fun x7 => ?_)
      refine sm_iconst (v := (1 : Int32)) (pc' := 91) dX12_number_90 rfl (by decide) ?_
      refine sm_iadd (pc' := 92) dX12_number_91 rfl ?_
      refine sm_putI (k := 4) (pc' := 95) kX12 (by decide) mw703 rfl rfl dX12_number_92 rfl (fun h8 => ?_)
      refine sm_aload_n (i := 0) (j := 1) (pc' := 96) dX12_number_95 rfl rfl rfl ?_
      refine sm_getI (k := 4) (pc' := 99) kX12 (by decide) mw703 dX12_number_96 rfl (fun x9 => ?_)
      exact sm_iret rfl dX12_number_99
    refine sm_bipush (v := (-4 : Int32)) (pc' := 74) dX12_number_72 rfl (by decide) ?_
    exact sm_iret rfl dX12_number_74
  refine sm_bipush (v := (-2 : Int32)) (pc' := 62) dX12_number_60 rfl (by decide) ?_
  exact sm_iret rfl dX12_number_62
noncomputable def fX12_number  (a0 : Nat) (a1 : Int64) (h : sm_H) : Option (Int32 × sm_H) :=
  (sm_put h (some a0) 12 0 (sm_v (vI (0 : Int32)))).bind fun h1 =>
  if (lg_cmp a1 (-1 : Int64)) = 0 then (
    (sm_put h1 (some a0) 12 4 (sm_v (vI (0 : Int32)))).bind fun h4 =>
    some ((0 : Int32), h4)
  ) else
  (sm_I (sm_get h1 (some a0) 12 4)).bind fun x2 =>
  if x2 = 0 then (
    fX12_number_50 a0 a1 (2 : Int64) h1
  ) else
  (sm_I (sm_get h1 (some a0) 12 4)).bind fun x3 =>
  if x3 = (1 : Int32) then (
    fX12_number_50 a0 a1 (39 : Int64) h1
  ) else
  fX12_number_50 a0 a1 (4294967295 : Int64) h1
set_option maxRecDepth 100000 in
set_option maxHeartbeats 4000000 in
theorem sX12_number_0 (l : Launch) (D : va_G) (aC : Nat → ClassId) (B : Nat)   (a0 : Nat) (a1 : Int64) (h : sm_H) : zS l D aC B cX12_number 5 RX12 1 25 (some .int) "number" vlI (fX12_number a0 a1 h) 0 [(0, vR (some a0)), (1, vJ a1)] [] h := by
  unfold fX12_number
  refine sm_aload_n (i := 0) (j := 0) (pc' := 1) dX12_number_0 rfl rfl rfl ?_
  refine sm_iconst (v := (0 : Int32)) (pc' := 2) dX12_number_1 rfl (by decide) ?_
  refine sm_putI (k := 0) (pc' := 5) kX12 (by decide) mw699 rfl rfl dX12_number_2 rfl (fun h1 => ?_)
  refine sm_lload_n (i := 1) (j := 1) (pc' := 6) dX12_number_5 rfl rfl rfl ?_
  refine sm_ldc2 (v := (-1 : Int64)) (pc' := 9) dX12_number_6 rfl mw704 ?_
  refine sm_lcmp (pc' := 10) dX12_number_9 rfl ?_
  refine sm_if_ne (tgt := 20) (pc' := 13) dX12_number_10 (by decide) rfl ?_ ?_
  · refine sm_aload_n (i := 0) (j := 0) (pc' := 21) dX12_number_20 rfl rfl rfl ?_
    refine sm_getI (k := 4) (pc' := 24) kX12 (by decide) mw703 dX12_number_21 rfl (fun x2 => ?_)
    refine sm_if_ne (tgt := 33) (pc' := 27) dX12_number_24 (by decide) rfl ?_ ?_
    · refine sm_aload_n (i := 0) (j := 0) (pc' := 34) dX12_number_33 rfl rfl rfl ?_
      refine sm_getI (k := 4) (pc' := 37) kX12 (by decide) mw703 dX12_number_34 rfl (fun x3 => ?_)
      refine sm_iconst (v := (1 : Int32)) (pc' := 38) dX12_number_37 rfl (by decide) ?_
      refine sm_icmp_ne (tgt := 47) (pc' := 41) dX12_number_38 (by decide) rfl ?_ ?_
      · refine sm_ldc2 (v := (4294967295 : Int64)) (pc' := 50) dX12_number_47 rfl mw705 ?_
        exact sX12_number_50 l D aC B  a0 a1 (4294967295 : Int64) h1
      refine sm_ldc2 (v := (39 : Int64)) (pc' := 44) dX12_number_41 rfl mw706 ?_
      refine sm_goto (pc' := 50) dX12_number_44 (by decide) ?_
      exact sX12_number_50 l D aC B  a0 a1 (39 : Int64) h1
    refine sm_ldc2 (v := (2 : Int64)) (pc' := 30) dX12_number_27 rfl mw707 ?_
    refine sm_goto (pc' := 50) dX12_number_30 (by decide) ?_
    exact sX12_number_50 l D aC B  a0 a1 (2 : Int64) h1
  refine sm_aload_n (i := 0) (j := 0) (pc' := 14) dX12_number_13 rfl rfl rfl ?_
  refine sm_iconst (v := (0 : Int32)) (pc' := 15) dX12_number_14 rfl (by decide) ?_
  refine sm_putI (k := 4) (pc' := 18) kX12 (by decide) mw703 rfl rfl dX12_number_15 rfl (fun h4 => ?_)
  refine sm_iconst (v := (0 : Int32)) (pc' := 19) dX12_number_18 rfl (by decide) ?_
  exact sm_iret rfl dX12_number_19
set_option maxRecDepth 100000 in
theorem mX12_number (l : Launch) (D : va_G) (aC : Nat → ClassId) (B : Nat) (a0 : Nat) (a1 : Int64) (h : sm_H) : sm_M l D vwCl gAts aC B gTs gNs gOs yX12_number cX12_number 5 (some .int) 1 25 vlI [vR (some a0), vJ a1] h (fX12_number a0 a1 h) := sm_meth [vR (some a0), vJ a1] yY_yX12_number gG gN (Nat.le_of_ble_eq_true rfl) rfl (sX12_number_0 l D aC B a0 a1 h)
-- M:TreeAgentModel.clashes(I)Z
noncomputable def fX12_clashes_82  : Nat → Nat → Int32 → Int32 → Int32 → sm_H → Option (Int32 × sm_H)
  | 0 => fun _ _ _ _ _ => none
  | n + 1 => fun a0 a1 a2 a3 h =>
    (sm_I (sm_get h (some a0) 12 22)).bind fun x1 =>
    if x1 ≤ a3 then (
      if a2 = 0 ∨ a2 = 1 then some (a2, h) else none
    ) else
    if a2 = 0 then (
      (sm_R (sm_get h (some a0) 12 3)).bind fun x3 =>
      (sm_R (sm_get h (some a0) 12 23)).bind fun x4 =>
      (sm_R (sm_get h (some a0) 12 24)).bind fun x5 =>
      (sm_aI h x5 0 a3).bind fun x6 =>
      sm_cb (fX12_begins x3 (0 : Int32) a1 x4 ((16 : Int32) * a3) x6 h) fun x7 h8 =>
      if x7 = 0 then (
        (sm_R (sm_get h8 (some a0) 12 23)).bind fun x10 =>
        (sm_R (sm_get h8 (some a0) 12 24)).bind fun x11 =>
        (sm_aI h8 x11 0 a3).bind fun x12 =>
        (sm_R (sm_get h8 (some a0) 12 3)).bind fun x13 =>
        sm_cb (fX12_begins x10 ((16 : Int32) * a3) x12 x13 (0 : Int32) a1 h8) fun x14 h15 =>
        if x14 = 0 then (
          sm_let (a3 + (1 : Int32)) fun x16 =>
          (fX12_clashes_82 n) a0 a1 (0 : Int32) x16 h15
        ) else
        sm_let (a3 + (1 : Int32)) fun x17 =>
        (fX12_clashes_82 n) a0 a1 (1 : Int32) x17 h15
      ) else
      sm_let (a3 + (1 : Int32)) fun x9 =>
      (fX12_clashes_82 n) a0 a1 (1 : Int32) x9 h8
    ) else
    sm_let (a3 + (1 : Int32)) fun x2 =>
    (fX12_clashes_82 n) a0 a1 (1 : Int32) x2 h
set_option maxRecDepth 100000 in
set_option maxHeartbeats 4000000 in
theorem sX12_clashes_82 (l : Launch) (D : va_G) (aC : Nat → ClassId) (B : Nat)   (n : Nat) : ∀ (a0 : Nat) (a1 : Int32) (a2 : Int32) (a3 : Int32) (h : sm_H), zS l D aC B cX12_clashes 4 RX12 1 27 (some .boolean) "clashes" vlI (fX12_clashes_82 n a0 a1 a2 a3 h) 82 [(0, vR (some a0)), (1, vI a1), (2, vI a2), (3, vI a3)] [] h := by
  induction n with
  | zero => intro a0 a1 a2 a3 h; exact sm_none
  | succ n ih =>
    intro a0 a1 a2 a3 h
    show zS l D aC B cX12_clashes 4 RX12 1 27 (some .boolean) "clashes" vlI (fX12_clashes_82 (n + 1) a0 a1 a2 a3 h) 82 [(0, vR (some a0)), (1, vI a1), (2, vI a2), (3, vI a3)] [] h
    unfold fX12_clashes_82
    refine sm_iload_n (i := 3) (j := 3) (pc' := 83) dX12_clashes_82 rfl rfl rfl ?_
    refine sm_aload_n (i := 0) (j := 0) (pc' := 84) dX12_clashes_83 rfl rfl rfl ?_
    refine sm_getI (k := 22) (pc' := 87) kX12 (by decide) mw697 dX12_clashes_84 rfl (fun x1 => ?_)
    refine sm_icmp_ge (tgt := 158) (pc' := 90) dX12_clashes_87 (by decide) rfl ?_ ?_
    · refine sm_iload_n (i := 2) (j := 2) (pc' := 159) dX12_clashes_158 rfl rfl rfl ?_
      exact sm_zret rfl dX12_clashes_159
    refine sm_iload_n (i := 2) (j := 2) (pc' := 91) dX12_clashes_90 rfl rfl rfl ?_
    refine sm_if_ne (tgt := 146) (pc' := 94) dX12_clashes_91 (by decide) rfl ?_ ?_
    · refine sm_iconst (v := (1 : Int32)) (pc' := 147) dX12_clashes_146 rfl (by decide) ?_
      refine sm_goto (pc' := 151) dX12_clashes_147 (by decide) ?_
      refine sm_istore_n (i := 2) (lv' := [(2, vI (1 : Int32)), (0, vR (some a0)), (1, vI a1), (3, vI a3)]) (pc' := 152) dX12_clashes_151 rfl rfl (by decide) rfl ?_
      refine sm_iincL (i := 3) (j := 3) (x := a3) (d := (1 : Int32)) (fun x2 => [(3, vI x2), (2, vI (1 : Int32)), (0, vR (some a0)), (1, vI a1)]) (pc' := 155) dX12_clashes_152 rfl rfl (by decide) (by decide) (fun _ => rfl) (fun x2 => ?_)
      refine sm_goto (pc' := 82) dX12_clashes_155 (by decide) ?_
      refine sm_lo (lv' := [(0, vR (some a0)), (1, vI a1), (2, vI (1 : Int32)), (3, vI x2)]) [2, 3, 1, 0] rfl ?_
      exact ih a0 a1 (1 : Int32) x2 h
    refine sm_aload_n (i := 0) (j := 0) (pc' := 95) dX12_clashes_94 rfl rfl rfl ?_
    refine sm_getR (k := 3) (pc' := 98) kX12 (by decide) mw658 dX12_clashes_95 rfl (fun x3 => ?_)
    refine sm_iconst (v := (0 : Int32)) (pc' := 99) dX12_clashes_98 rfl (by decide) ?_
    refine sm_iload_n (i := 1) (j := 1) (pc' := 100) dX12_clashes_99 rfl rfl rfl ?_
    refine sm_aload_n (i := 0) (j := 0) (pc' := 101) dX12_clashes_100 rfl rfl rfl ?_
    refine sm_getR (k := 23) (pc' := 104) kX12 (by decide) mw674 dX12_clashes_101 rfl (fun x4 => ?_)
    refine sm_bipush (v := (16 : Int32)) (pc' := 106) dX12_clashes_104 rfl (by decide) ?_
    refine sm_iload_n (i := 3) (j := 3) (pc' := 107) dX12_clashes_106 rfl rfl rfl ?_
    refine sm_imul (pc' := 108) dX12_clashes_107 rfl ?_
    refine sm_aload_n (i := 0) (j := 0) (pc' := 109) dX12_clashes_108 rfl rfl rfl ?_
    refine sm_getR (k := 24) (pc' := 112) kX12 (by decide) mw675 dX12_clashes_109 rfl (fun x5 => ?_)
    refine sm_iload_n (i := 3) (j := 3) (pc' := 113) dX12_clashes_112 rfl rfl rfl ?_
    refine sm_iald (t := 0) (pc' := 114) rfl dX12_clashes_113 rfl (fun x6 => ?_)
    refine sm_cSI (pc' := 117) (st := []) [vR x3, vI (0 : Int32), vI a1, vR x4, vI ((16 : Int32) * a3), vI x6] yY_yX12_begins mw708 mw709 (mX12_begins l D aC B x3 (0 : Int32) a1 x4 ((16 : Int32) * a3) x6 h) rfl (by decide) (by decide) (by exact Nat.le_of_ble_eq_true rfl) rfl dX12_clashes_114 rfl (fun x7 h8 => ?_)
    refine sm_if_ne (tgt := 146) (pc' := 120) dX12_clashes_117 (by decide) rfl ?_ ?_
    · refine sm_iconst (v := (1 : Int32)) (pc' := 147) dX12_clashes_146 rfl (by decide) ?_
      refine sm_goto (pc' := 151) dX12_clashes_147 (by decide) ?_
      refine sm_istore_n (i := 2) (lv' := [(2, vI (1 : Int32)), (0, vR (some a0)), (1, vI a1), (3, vI a3)]) (pc' := 152) dX12_clashes_151 rfl rfl (by decide) rfl ?_
      refine sm_iincL (i := 3) (j := 3) (x := a3) (d := (1 : Int32)) (fun x9 => [(3, vI x9), (2, vI (1 : Int32)), (0, vR (some a0)), (1, vI a1)]) (pc' := 155) dX12_clashes_152 rfl rfl (by decide) (by decide) (fun _ => rfl) (fun x9 => ?_)
      refine sm_goto (pc' := 82) dX12_clashes_155 (by decide) ?_
      refine sm_lo (lv' := [(0, vR (some a0)), (1, vI a1), (2, vI (1 : Int32)), (3, vI x9)]) [2, 3, 1, 0] rfl ?_
      exact ih a0 a1 (1 : Int32) x9 h8
    refine sm_aload_n (i := 0) (j := 0) (pc' := 121) dX12_clashes_120 rfl rfl rfl ?_
    refine sm_getR (k := 23) (pc' := 124) kX12 (by decide) mw674 dX12_clashes_121 rfl (fun x10 => ?_)
    refine sm_bipush (v := (16 : Int32)) (pc' := 126) dX12_clashes_124 rfl (by decide) ?_
    refine sm_iload_n (i := 3) (j := 3) (pc' := 127) dX12_clashes_126 rfl rfl rfl ?_
    refine sm_imul (pc' := 128) dX12_clashes_127 rfl ?_
    refine sm_aload_n (i := 0) (j := 0) (pc' := 129) dX12_clashes_128 rfl rfl rfl ?_
    refine sm_getR (k := 24) (pc' := 132) kX12 (by decide) mw675 dX12_clashes_129 rfl (fun x11 => ?_)
    refine sm_iload_n (i := 3) (j := 3) (pc' := 133) dX12_clashes_132 rfl rfl rfl ?_
    refine sm_iald (t := 0) (pc' := 134) rfl dX12_clashes_133 rfl (fun x12 => ?_)
    refine sm_aload_n (i := 0) (j := 0) (pc' := 135) dX12_clashes_134 rfl rfl rfl ?_
    refine sm_getR (k := 3) (pc' := 138) kX12 (by decide) mw658 dX12_clashes_135 rfl (fun x13 => ?_)
    refine sm_iconst (v := (0 : Int32)) (pc' := 139) dX12_clashes_138 rfl (by decide) ?_
    refine sm_iload_n (i := 1) (j := 1) (pc' := 140) dX12_clashes_139 rfl rfl rfl ?_
    refine sm_cSI (pc' := 143) (st := []) [vR x10, vI ((16 : Int32) * a3), vI x12, vR x13, vI (0 : Int32), vI a1] yY_yX12_begins mw708 mw709 (mX12_begins l D aC B x10 ((16 : Int32) * a3) x12 x13 (0 : Int32) a1 h8) rfl (by decide) (by decide) (by exact Nat.le_of_ble_eq_true rfl) rfl dX12_clashes_140 rfl (fun x14 h15 => ?_)
    refine sm_if_eq (tgt := 150) (pc' := 146) dX12_clashes_143 (by decide) rfl ?_ ?_
    · refine sm_iconst (v := (0 : Int32)) (pc' := 151) dX12_clashes_150 rfl (by decide) ?_
      refine sm_istore_n (i := 2) (lv' := [(2, vI (0 : Int32)), (0, vR (some a0)), (1, vI a1), (3, vI a3)]) (pc' := 152) dX12_clashes_151 rfl rfl (by decide) rfl ?_
      refine sm_iincL (i := 3) (j := 3) (x := a3) (d := (1 : Int32)) (fun x16 => [(3, vI x16), (2, vI (0 : Int32)), (0, vR (some a0)), (1, vI a1)]) (pc' := 155) dX12_clashes_152 rfl rfl (by decide) (by decide) (fun _ => rfl) (fun x16 => ?_)
      refine sm_goto (pc' := 82) dX12_clashes_155 (by decide) ?_
      refine sm_lo (lv' := [(0, vR (some a0)), (1, vI a1), (2, vI (0 : Int32)), (3, vI x16)]) [2, 3, 1, 0] rfl ?_
      exact ih a0 a1 (0 : Int32) x16 h15
    refine sm_iconst (v := (1 : Int32)) (pc' := 147) dX12_clashes_146 rfl (by decide) ?_
    refine sm_goto (pc' := 151) dX12_clashes_147 (by decide) ?_
    refine sm_istore_n (i := 2) (lv' := [(2, vI (1 : Int32)), (0, vR (some a0)), (1, vI a1), (3, vI a3)]) (pc' := 152) dX12_clashes_151 rfl rfl (by decide) rfl ?_
    refine sm_iincL (i := 3) (j := 3) (x := a3) (d := (1 : Int32)) (fun x17 => [(3, vI x17), (2, vI (1 : Int32)), (0, vR (some a0)), (1, vI a1)]) (pc' := 155) dX12_clashes_152 rfl rfl (by decide) (by decide) (fun _ => rfl) (fun x17 => ?_)
    refine sm_goto (pc' := 82) dX12_clashes_155 (by decide) ?_
    refine sm_lo (lv' := [(0, vR (some a0)), (1, vI a1), (2, vI (1 : Int32)), (3, vI x17)]) [2, 3, 1, 0] rfl ?_
    exact ih a0 a1 (1 : Int32) x17 h15
noncomputable def fX12_clashes_4  : Nat → Nat → Int32 → Int32 → Int32 → sm_H → Option (Int32 × sm_H)
  | 0 => fun _ _ _ _ _ => none
  | n + 1 => fun a0 a1 a2 a3 h =>
    (sm_I (sm_get h (some a0) 12 8)).bind fun x1 =>
    if x1 ≤ a3 then (
      fX12_clashes_82 sm_fuel a0 a1 a2 (0 : Int32) h
    ) else
    if a2 = 0 then (
      (sm_R (sm_get h (some a0) 12 3)).bind fun x3 =>
      (sm_R (sm_get h (some a0) 12 9)).bind fun x4 =>
      (sm_R (sm_get h (some a0) 12 10)).bind fun x5 =>
      (sm_aI h x5 0 a3).bind fun x6 =>
      sm_cb (fX12_begins x3 (0 : Int32) a1 x4 ((16 : Int32) * a3) x6 h) fun x7 h8 =>
      if x7 = 0 then (
        (sm_R (sm_get h8 (some a0) 12 9)).bind fun x10 =>
        (sm_R (sm_get h8 (some a0) 12 10)).bind fun x11 =>
        (sm_aI h8 x11 0 a3).bind fun x12 =>
        (sm_R (sm_get h8 (some a0) 12 3)).bind fun x13 =>
        sm_cb (fX12_begins x10 ((16 : Int32) * a3) x12 x13 (0 : Int32) a1 h8) fun x14 h15 =>
        if x14 = 0 then (
          sm_let (a3 + (1 : Int32)) fun x16 =>
          (fX12_clashes_4 n) a0 a1 (0 : Int32) x16 h15
        ) else
        sm_let (a3 + (1 : Int32)) fun x17 =>
        (fX12_clashes_4 n) a0 a1 (1 : Int32) x17 h15
      ) else
      sm_let (a3 + (1 : Int32)) fun x9 =>
      (fX12_clashes_4 n) a0 a1 (1 : Int32) x9 h8
    ) else
    sm_let (a3 + (1 : Int32)) fun x2 =>
    (fX12_clashes_4 n) a0 a1 (1 : Int32) x2 h
set_option maxRecDepth 100000 in
set_option maxHeartbeats 4000000 in
theorem sX12_clashes_4 (l : Launch) (D : va_G) (aC : Nat → ClassId) (B : Nat)   (n : Nat) : ∀ (a0 : Nat) (a1 : Int32) (a2 : Int32) (a3 : Int32) (h : sm_H), zS l D aC B cX12_clashes 4 RX12 1 27 (some .boolean) "clashes" vlI (fX12_clashes_4 n a0 a1 a2 a3 h) 4 [(0, vR (some a0)), (1, vI a1), (2, vI a2), (3, vI a3)] [] h := by
  induction n with
  | zero => intro a0 a1 a2 a3 h; exact sm_none
  | succ n ih =>
    intro a0 a1 a2 a3 h
    show zS l D aC B cX12_clashes 4 RX12 1 27 (some .boolean) "clashes" vlI (fX12_clashes_4 (n + 1) a0 a1 a2 a3 h) 4 [(0, vR (some a0)), (1, vI a1), (2, vI a2), (3, vI a3)] [] h
    unfold fX12_clashes_4
    refine sm_iload_n (i := 3) (j := 3) (pc' := 5) dX12_clashes_4 rfl rfl rfl ?_
    refine sm_aload_n (i := 0) (j := 0) (pc' := 6) dX12_clashes_5 rfl rfl rfl ?_
    refine sm_getI (k := 8) (pc' := 9) kX12 (by decide) mw710 dX12_clashes_6 rfl (fun x1 => ?_)
    refine sm_icmp_ge (tgt := 80) (pc' := 12) dX12_clashes_9 (by decide) rfl ?_ ?_
    · refine sm_iconst (v := (0 : Int32)) (pc' := 81) dX12_clashes_80 rfl (by decide) ?_
      refine sm_istore_n (i := 3) (lv' := [(3, vI (0 : Int32)), (0, vR (some a0)), (1, vI a1), (2, vI a2)]) (pc' := 82) dX12_clashes_81 rfl rfl (by decide) rfl ?_
      refine sm_lo (lv' := [(0, vR (some a0)), (1, vI a1), (2, vI a2), (3, vI (0 : Int32))]) [1, 2, 3, 0] rfl ?_
      exact sX12_clashes_82 l D aC B   sm_fuel a0 a1 a2 (0 : Int32) h
    refine sm_iload_n (i := 2) (j := 2) (pc' := 13) dX12_clashes_12 rfl rfl rfl ?_
    refine sm_if_ne (tgt := 68) (pc' := 16) dX12_clashes_13 (by decide) rfl ?_ ?_
    · refine sm_iconst (v := (1 : Int32)) (pc' := 69) dX12_clashes_68 rfl (by decide) ?_
      refine sm_goto (pc' := 73) dX12_clashes_69 (by decide) ?_
      refine sm_istore_n (i := 2) (lv' := [(2, vI (1 : Int32)), (0, vR (some a0)), (1, vI a1), (3, vI a3)]) (pc' := 74) dX12_clashes_73 rfl rfl (by decide) rfl ?_
      refine sm_iincL (i := 3) (j := 3) (x := a3) (d := (1 : Int32)) (fun x2 => [(3, vI x2), (2, vI (1 : Int32)), (0, vR (some a0)), (1, vI a1)]) (pc' := 77) dX12_clashes_74 rfl rfl (by decide) (by decide) (fun _ => rfl) (fun x2 => ?_)
      refine sm_goto (pc' := 4) dX12_clashes_77 (by decide) ?_
      refine sm_lo (lv' := [(0, vR (some a0)), (1, vI a1), (2, vI (1 : Int32)), (3, vI x2)]) [2, 3, 1, 0] rfl ?_
      exact ih a0 a1 (1 : Int32) x2 h
    refine sm_aload_n (i := 0) (j := 0) (pc' := 17) dX12_clashes_16 rfl rfl rfl ?_
    refine sm_getR (k := 3) (pc' := 20) kX12 (by decide) mw658 dX12_clashes_17 rfl (fun x3 => ?_)
    refine sm_iconst (v := (0 : Int32)) (pc' := 21) dX12_clashes_20 rfl (by decide) ?_
    refine sm_iload_n (i := 1) (j := 1) (pc' := 22) dX12_clashes_21 rfl rfl rfl ?_
    refine sm_aload_n (i := 0) (j := 0) (pc' := 23) dX12_clashes_22 rfl rfl rfl ?_
    refine sm_getR (k := 9) (pc' := 26) kX12 (by decide) mw661 dX12_clashes_23 rfl (fun x4 => ?_)
    refine sm_bipush (v := (16 : Int32)) (pc' := 28) dX12_clashes_26 rfl (by decide) ?_
    refine sm_iload_n (i := 3) (j := 3) (pc' := 29) dX12_clashes_28 rfl rfl rfl ?_
    refine sm_imul (pc' := 30) dX12_clashes_29 rfl ?_
    refine sm_aload_n (i := 0) (j := 0) (pc' := 31) dX12_clashes_30 rfl rfl rfl ?_
    refine sm_getR (k := 10) (pc' := 34) kX12 (by decide) mw662 dX12_clashes_31 rfl (fun x5 => ?_)
    refine sm_iload_n (i := 3) (j := 3) (pc' := 35) dX12_clashes_34 rfl rfl rfl ?_
    refine sm_iald (t := 0) (pc' := 36) rfl dX12_clashes_35 rfl (fun x6 => ?_)
    refine sm_cSI (pc' := 39) (st := []) [vR x3, vI (0 : Int32), vI a1, vR x4, vI ((16 : Int32) * a3), vI x6] yY_yX12_begins mw708 mw709 (mX12_begins l D aC B x3 (0 : Int32) a1 x4 ((16 : Int32) * a3) x6 h) rfl (by decide) (by decide) (by exact Nat.le_of_ble_eq_true rfl) rfl dX12_clashes_36 rfl (fun x7 h8 => ?_)
    refine sm_if_ne (tgt := 68) (pc' := 42) dX12_clashes_39 (by decide) rfl ?_ ?_
    · refine sm_iconst (v := (1 : Int32)) (pc' := 69) dX12_clashes_68 rfl (by decide) ?_
      refine sm_goto (pc' := 73) dX12_clashes_69 (by decide) ?_
      refine sm_istore_n (i := 2) (lv' := [(2, vI (1 : Int32)), (0, vR (some a0)), (1, vI a1), (3, vI a3)]) (pc' := 74) dX12_clashes_73 rfl rfl (by decide) rfl ?_
      refine sm_iincL (i := 3) (j := 3) (x := a3) (d := (1 : Int32)) (fun x9 => [(3, vI x9), (2, vI (1 : Int32)), (0, vR (some a0)), (1, vI a1)]) (pc' := 77) dX12_clashes_74 rfl rfl (by decide) (by decide) (fun _ => rfl) (fun x9 => ?_)
      refine sm_goto (pc' := 4) dX12_clashes_77 (by decide) ?_
      refine sm_lo (lv' := [(0, vR (some a0)), (1, vI a1), (2, vI (1 : Int32)), (3, vI x9)]) [2, 3, 1, 0] rfl ?_
      exact ih a0 a1 (1 : Int32) x9 h8
    refine sm_aload_n (i := 0) (j := 0) (pc' := 43) dX12_clashes_42 rfl rfl rfl ?_
    refine sm_getR (k := 9) (pc' := 46) kX12 (by decide) mw661 dX12_clashes_43 rfl (fun x10 => ?_)
    refine sm_bipush (v := (16 : Int32)) (pc' := 48) dX12_clashes_46 rfl (by decide) ?_
    refine sm_iload_n (i := 3) (j := 3) (pc' := 49) dX12_clashes_48 rfl rfl rfl ?_
    refine sm_imul (pc' := 50) dX12_clashes_49 rfl ?_
    refine sm_aload_n (i := 0) (j := 0) (pc' := 51) dX12_clashes_50 rfl rfl rfl ?_
    refine sm_getR (k := 10) (pc' := 54) kX12 (by decide) mw662 dX12_clashes_51 rfl (fun x11 => ?_)
    refine sm_iload_n (i := 3) (j := 3) (pc' := 55) dX12_clashes_54 rfl rfl rfl ?_
    refine sm_iald (t := 0) (pc' := 56) rfl dX12_clashes_55 rfl (fun x12 => ?_)
    refine sm_aload_n (i := 0) (j := 0) (pc' := 57) dX12_clashes_56 rfl rfl rfl ?_
    refine sm_getR (k := 3) (pc' := 60) kX12 (by decide) mw658 dX12_clashes_57 rfl (fun x13 => ?_)
    refine sm_iconst (v := (0 : Int32)) (pc' := 61) dX12_clashes_60 rfl (by decide) ?_
    refine sm_iload_n (i := 1) (j := 1) (pc' := 62) dX12_clashes_61 rfl rfl rfl ?_
    refine sm_cSI (pc' := 65) (st := []) [vR x10, vI ((16 : Int32) * a3), vI x12, vR x13, vI (0 : Int32), vI a1] yY_yX12_begins mw708 mw709 (mX12_begins l D aC B x10 ((16 : Int32) * a3) x12 x13 (0 : Int32) a1 h8) rfl (by decide) (by decide) (by exact Nat.le_of_ble_eq_true rfl) rfl dX12_clashes_62 rfl (fun x14 h15 => ?_)
    refine sm_if_eq (tgt := 72) (pc' := 68) dX12_clashes_65 (by decide) rfl ?_ ?_
    · refine sm_iconst (v := (0 : Int32)) (pc' := 73) dX12_clashes_72 rfl (by decide) ?_
      refine sm_istore_n (i := 2) (lv' := [(2, vI (0 : Int32)), (0, vR (some a0)), (1, vI a1), (3, vI a3)]) (pc' := 74) dX12_clashes_73 rfl rfl (by decide) rfl ?_
      refine sm_iincL (i := 3) (j := 3) (x := a3) (d := (1 : Int32)) (fun x16 => [(3, vI x16), (2, vI (0 : Int32)), (0, vR (some a0)), (1, vI a1)]) (pc' := 77) dX12_clashes_74 rfl rfl (by decide) (by decide) (fun _ => rfl) (fun x16 => ?_)
      refine sm_goto (pc' := 4) dX12_clashes_77 (by decide) ?_
      refine sm_lo (lv' := [(0, vR (some a0)), (1, vI a1), (2, vI (0 : Int32)), (3, vI x16)]) [2, 3, 1, 0] rfl ?_
      exact ih a0 a1 (0 : Int32) x16 h15
    refine sm_iconst (v := (1 : Int32)) (pc' := 69) dX12_clashes_68 rfl (by decide) ?_
    refine sm_goto (pc' := 73) dX12_clashes_69 (by decide) ?_
    refine sm_istore_n (i := 2) (lv' := [(2, vI (1 : Int32)), (0, vR (some a0)), (1, vI a1), (3, vI a3)]) (pc' := 74) dX12_clashes_73 rfl rfl (by decide) rfl ?_
    refine sm_iincL (i := 3) (j := 3) (x := a3) (d := (1 : Int32)) (fun x17 => [(3, vI x17), (2, vI (1 : Int32)), (0, vR (some a0)), (1, vI a1)]) (pc' := 77) dX12_clashes_74 rfl rfl (by decide) (by decide) (fun _ => rfl) (fun x17 => ?_)
    refine sm_goto (pc' := 4) dX12_clashes_77 (by decide) ?_
    refine sm_lo (lv' := [(0, vR (some a0)), (1, vI a1), (2, vI (1 : Int32)), (3, vI x17)]) [2, 3, 1, 0] rfl ?_
    exact ih a0 a1 (1 : Int32) x17 h15
noncomputable def fX12_clashes  (a0 : Nat) (a1 : Int32) (h : sm_H) : Option (Int32 × sm_H) :=
  fX12_clashes_4 sm_fuel a0 a1 (0 : Int32) (0 : Int32) h
set_option maxRecDepth 100000 in
set_option maxHeartbeats 4000000 in
theorem sX12_clashes_0 (l : Launch) (D : va_G) (aC : Nat → ClassId) (B : Nat)   (a0 : Nat) (a1 : Int32) (h : sm_H) : zS l D aC B cX12_clashes 4 RX12 1 27 (some .boolean) "clashes" vlI (fX12_clashes a0 a1 h) 0 [(0, vR (some a0)), (1, vI a1)] [] h := by
  unfold fX12_clashes
  refine sm_iconst (v := (0 : Int32)) (pc' := 1) dX12_clashes_0 rfl (by decide) ?_
  refine sm_istore_n (i := 2) (lv' := [(2, vI (0 : Int32)), (0, vR (some a0)), (1, vI a1)]) (pc' := 2) dX12_clashes_1 rfl rfl (by decide) rfl ?_
  refine sm_iconst (v := (0 : Int32)) (pc' := 3) dX12_clashes_2 rfl (by decide) ?_
  refine sm_istore_n (i := 3) (lv' := [(3, vI (0 : Int32)), (2, vI (0 : Int32)), (0, vR (some a0)), (1, vI a1)]) (pc' := 4) dX12_clashes_3 rfl rfl (by decide) rfl ?_
  refine sm_lo (lv' := [(0, vR (some a0)), (1, vI a1), (2, vI (0 : Int32)), (3, vI (0 : Int32))]) [2, 3, 1, 0] rfl ?_
  exact sX12_clashes_4 l D aC B   sm_fuel a0 a1 (0 : Int32) (0 : Int32) h
set_option maxRecDepth 100000 in
theorem mX12_clashes (l : Launch) (D : va_G) (aC : Nat → ClassId) (B : Nat) (a0 : Nat) (a1 : Int32) (h : sm_H) : sm_M l D vwCl gAts aC B gTs gNs gOs yX12_clashes cX12_clashes 4 (some .boolean) 1 27 vlI [vR (some a0), vI a1] h (fX12_clashes a0 a1 h) := sm_meth [vR (some a0), vI a1] yY_yX12_clashes gG gN (Nat.le_of_ble_eq_true rfl) rfl (sX12_clashes_0 l D aC B a0 a1 h)
-- M:TreeAgentModel.isTag(I)Z
noncomputable def fX12_isTag  (a0 : Int32) (h : sm_H) : Option (Int32 × sm_H) :=
  if a0 = (2 : Int32) then (
    some ((1 : Int32), h)
  ) else
  if a0 = (4 : Int32) then (
    some ((1 : Int32), h)
  ) else
  if a0 = (6 : Int32) then (
    some ((1 : Int32), h)
  ) else
  sm_cb (fX12_in (a0.toInt64) (64 : Int64) (67 : Int64) h) fun x1 h2 =>
  if x1 = 0 then (
    if a0 = (70 : Int32) then (
      some ((1 : Int32), h2)
    ) else
    some ((0 : Int32), h2)
  ) else
  some ((1 : Int32), h2)
set_option maxRecDepth 100000 in
set_option maxHeartbeats 4000000 in
theorem sX12_isTag_0 (l : Launch) (D : va_G) (aC : Nat → ClassId) (B : Nat)   (a0 : Int32) (h : sm_H) : zS l D aC B cX12_isTag 1 RX12 1 25 (some .boolean) "isTag" vlI (fX12_isTag a0 h) 0 [(0, vI a0)] [] h := by
  unfold fX12_isTag
  refine sm_iload_n (i := 0) (j := 0) (pc' := 1) dX12_isTag_0 rfl rfl rfl ?_
  refine sm_iconst (v := (2 : Int32)) (pc' := 2) dX12_isTag_1 rfl (by decide) ?_
  refine sm_icmp_eq (tgt := 36) (pc' := 5) dX12_isTag_2 (by decide) rfl ?_ ?_
  · refine sm_iconst (v := (1 : Int32)) (pc' := 37) dX12_isTag_36 rfl (by decide) ?_
    refine sm_goto (pc' := 41) dX12_isTag_37 (by decide) ?_
    exact sm_zret1 rfl dX12_isTag_41
  refine sm_iload_n (i := 0) (j := 0) (pc' := 6) dX12_isTag_5 rfl rfl rfl ?_
  refine sm_iconst (v := (4 : Int32)) (pc' := 7) dX12_isTag_6 rfl (by decide) ?_
  refine sm_icmp_eq (tgt := 36) (pc' := 10) dX12_isTag_7 (by decide) rfl ?_ ?_
  · refine sm_iconst (v := (1 : Int32)) (pc' := 37) dX12_isTag_36 rfl (by decide) ?_
    refine sm_goto (pc' := 41) dX12_isTag_37 (by decide) ?_
    exact sm_zret1 rfl dX12_isTag_41
  refine sm_iload_n (i := 0) (j := 0) (pc' := 11) dX12_isTag_10 rfl rfl rfl ?_
  refine sm_bipush (v := (6 : Int32)) (pc' := 13) dX12_isTag_11 rfl (by decide) ?_
  refine sm_icmp_eq (tgt := 36) (pc' := 16) dX12_isTag_13 (by decide) rfl ?_ ?_
  · refine sm_iconst (v := (1 : Int32)) (pc' := 37) dX12_isTag_36 rfl (by decide) ?_
    refine sm_goto (pc' := 41) dX12_isTag_37 (by decide) ?_
    exact sm_zret1 rfl dX12_isTag_41
  refine sm_iload_n (i := 0) (j := 0) (pc' := 17) dX12_isTag_16 rfl rfl rfl ?_
  refine sm_i2l (pc' := 18) dX12_isTag_17 rfl ?_
  refine sm_ldc2 (v := (64 : Int64)) (pc' := 21) dX12_isTag_18 rfl mw711 ?_
  refine sm_ldc2 (v := (67 : Int64)) (pc' := 24) dX12_isTag_21 rfl mw712 ?_
  refine sm_cSI (pc' := 27) (st := []) [vJ (a0.toInt64), vJ (64 : Int64), vJ (67 : Int64)] yY_yX12_in mw701 mw702 (mX12_in l D aC B (a0.toInt64) (64 : Int64) (67 : Int64) h) rfl (by decide) (by decide) (by exact Nat.le_of_ble_eq_true rfl) rfl dX12_isTag_24 rfl (fun x1 h2 => ?_)
  refine sm_if_ne (tgt := 36) (pc' := 30) dX12_isTag_27 (by decide) rfl ?_ ?_
  · refine sm_iconst (v := (1 : Int32)) (pc' := 37) dX12_isTag_36 rfl (by decide) ?_
    refine sm_goto (pc' := 41) dX12_isTag_37 (by decide) ?_
    exact sm_zret1 rfl dX12_isTag_41
  refine sm_iload_n (i := 0) (j := 0) (pc' := 31) dX12_isTag_30 rfl rfl rfl ?_
  refine sm_bipush (v := (70 : Int32)) (pc' := 33) dX12_isTag_31 rfl (by decide) ?_
  refine sm_icmp_ne (tgt := 40) (pc' := 36) dX12_isTag_33 (by decide) rfl ?_ ?_
  · refine sm_iconst (v := (0 : Int32)) (pc' := 41) dX12_isTag_40 rfl (by decide) ?_
    exact sm_zret0 rfl dX12_isTag_41
  refine sm_iconst (v := (1 : Int32)) (pc' := 37) dX12_isTag_36 rfl (by decide) ?_
  refine sm_goto (pc' := 41) dX12_isTag_37 (by decide) ?_
  exact sm_zret1 rfl dX12_isTag_41
set_option maxRecDepth 100000 in
theorem mX12_isTag (l : Launch) (D : va_G) (aC : Nat → ClassId) (B : Nat) (a0 : Int32) (h : sm_H) : sm_M l D vwCl gAts aC B gTs gNs gOs yX12_isTag cX12_isTag 1 (some .boolean) 1 25 vlI [vI a0] h (fX12_isTag a0 h) := sm_meth [vI a0] yY_yX12_isTag gG gN (Nat.le_of_ble_eq_true rfl) rfl (sX12_isTag_0 l D aC B a0 h)
-- M:TreeAgentModel.first(II)V
noncomputable def fX12_first  (a0 : Nat) (a1 : Int32) (a2 : Int32) (h : sm_H) : Option (Unit × sm_H) :=
  (sm_R (sm_get h (some a0) 12 17)).bind fun x1 =>
  (sm_sJ h x1 1 (((16 : Int32) * a1) + a2) (0 : Int64)).bind fun h2 =>
  (sm_R (sm_get h2 (some a0) 12 19)).bind fun x3 =>
  (sm_sI h2 x3 0 (((16 : Int32) * a1) + a2) (0 : Int32)).bind fun h4 =>
  (sm_R (sm_get h4 (some a0) 12 21)).bind fun x5 =>
  (sm_sI h4 x5 0 (((16 : Int32) * a1) + a2) (2 : Int32)).bind fun h6 =>
  (sm_R (sm_get h6 (some a0) 12 20)).bind fun x7 =>
  (sm_sJ h6 x7 1 (((256 : Int32) * a1) + ((16 : Int32) * a2)) (0 : Int64)).bind fun h8 =>
  (sm_R (sm_get h8 (some a0) 12 20)).bind fun x9 =>
  (sm_sJ h8 x9 1 ((((256 : Int32) * a1) + ((16 : Int32) * a2)) + (1 : Int32)) (0 : Int64)).bind fun h10 =>
  some ((), h10)
set_option maxRecDepth 100000 in
set_option maxHeartbeats 4000000 in
theorem sX12_first_0 (l : Launch) (D : va_G) (aC : Nat → ClassId) (B : Nat)   (a0 : Nat) (a1 : Int32) (a2 : Int32) (h : sm_H) : zS l D aC B cX12_first 3 RX12 0 0 none "first" vlU (fX12_first a0 a1 a2 h) 0 [(0, vR (some a0)), (1, vI a1), (2, vI a2)] [] h := by
  unfold fX12_first
  refine sm_aload_n (i := 0) (j := 0) (pc' := 1) dX12_first_0 rfl rfl rfl ?_
  refine sm_getR (k := 17) (pc' := 4) kX12 (by decide) mw669 dX12_first_1 rfl (fun x1 => ?_)
  refine sm_bipush (v := (16 : Int32)) (pc' := 6) dX12_first_4 rfl (by decide) ?_
  refine sm_iload_n (i := 1) (j := 1) (pc' := 7) dX12_first_6 rfl rfl rfl ?_
  refine sm_imul (pc' := 8) dX12_first_7 rfl ?_
  refine sm_iload_n (i := 2) (j := 2) (pc' := 9) dX12_first_8 rfl rfl rfl ?_
  refine sm_iadd (pc' := 10) dX12_first_9 rfl ?_
  refine sm_lconst (v := (0 : Int64)) (pc' := 11) dX12_first_10 rfl (by decide) ?_
  refine sm_last (t := 1) (pc' := 12) rfl dX12_first_11 rfl (fun h2 => ?_)
  refine sm_aload_n (i := 0) (j := 0) (pc' := 13) dX12_first_12 rfl rfl rfl ?_
  refine sm_getR (k := 19) (pc' := 16) kX12 (by decide) mw671 dX12_first_13 rfl (fun x3 => ?_)
  refine sm_bipush (v := (16 : Int32)) (pc' := 18) dX12_first_16 rfl (by decide) ?_
  refine sm_iload_n (i := 1) (j := 1) (pc' := 19) dX12_first_18 rfl rfl rfl ?_
  refine sm_imul (pc' := 20) dX12_first_19 rfl ?_
  refine sm_iload_n (i := 2) (j := 2) (pc' := 21) dX12_first_20 rfl rfl rfl ?_
  refine sm_iadd (pc' := 22) dX12_first_21 rfl ?_
  refine sm_iconst (v := (0 : Int32)) (pc' := 23) dX12_first_22 rfl (by decide) ?_
  refine sm_iast (t := 0) (pc' := 24) rfl dX12_first_23 rfl (fun h4 => ?_)
  refine sm_aload_n (i := 0) (j := 0) (pc' := 25) dX12_first_24 rfl rfl rfl ?_
  refine sm_getR (k := 21) (pc' := 28) kX12 (by decide) mw673 dX12_first_25 rfl (fun x5 => ?_)
  refine sm_bipush (v := (16 : Int32)) (pc' := 30) dX12_first_28 rfl (by decide) ?_
  refine sm_iload_n (i := 1) (j := 1) (pc' := 31) dX12_first_30 rfl rfl rfl ?_
  refine sm_imul (pc' := 32) dX12_first_31 rfl ?_
  refine sm_iload_n (i := 2) (j := 2) (pc' := 33) dX12_first_32 rfl rfl rfl ?_
  refine sm_iadd (pc' := 34) dX12_first_33 rfl ?_
  refine sm_iconst (v := (2 : Int32)) (pc' := 35) dX12_first_34 rfl (by decide) ?_
  refine sm_iast (t := 0) (pc' := 36) rfl dX12_first_35 rfl (fun h6 => ?_)
  refine sm_aload_n (i := 0) (j := 0) (pc' := 37) dX12_first_36 rfl rfl rfl ?_
  refine sm_getR (k := 20) (pc' := 40) kX12 (by decide) mw672 dX12_first_37 rfl (fun x7 => ?_)
  refine sm_sipush (v := (256 : Int32)) (pc' := 43) dX12_first_40 rfl (by decide) ?_
  refine sm_iload_n (i := 1) (j := 1) (pc' := 44) dX12_first_43 rfl rfl rfl ?_
  refine sm_imul (pc' := 45) dX12_first_44 rfl ?_
  refine sm_bipush (v := (16 : Int32)) (pc' := 47) dX12_first_45 rfl (by decide) ?_
  refine sm_iload_n (i := 2) (j := 2) (pc' := 48) dX12_first_47 rfl rfl rfl ?_
  refine sm_imul (pc' := 49) dX12_first_48 rfl ?_
  refine sm_iadd (pc' := 50) dX12_first_49 rfl ?_
  refine sm_lconst (v := (0 : Int64)) (pc' := 51) dX12_first_50 rfl (by decide) ?_
  refine sm_last (t := 1) (pc' := 52) rfl dX12_first_51 rfl (fun h8 => ?_)
  refine sm_aload_n (i := 0) (j := 0) (pc' := 53) dX12_first_52 rfl rfl rfl ?_
  refine sm_getR (k := 20) (pc' := 56) kX12 (by decide) mw672 dX12_first_53 rfl (fun x9 => ?_)
  refine sm_sipush (v := (256 : Int32)) (pc' := 59) dX12_first_56 rfl (by decide) ?_
  refine sm_iload_n (i := 1) (j := 1) (pc' := 60) dX12_first_59 rfl rfl rfl ?_
  refine sm_imul (pc' := 61) dX12_first_60 rfl ?_
  refine sm_bipush (v := (16 : Int32)) (pc' := 63) dX12_first_61 rfl (by decide) ?_
  refine sm_iload_n (i := 2) (j := 2) (pc' := 64) dX12_first_63 rfl rfl rfl ?_
  refine sm_imul (pc' := 65) dX12_first_64 rfl ?_
  refine sm_iadd (pc' := 66) dX12_first_65 rfl ?_
  refine sm_iconst (v := (1 : Int32)) (pc' := 67) dX12_first_66 rfl (by decide) ?_
  refine sm_iadd (pc' := 68) dX12_first_67 rfl ?_
  refine sm_lconst (v := (0 : Int64)) (pc' := 69) dX12_first_68 rfl (by decide) ?_
  refine sm_last (t := 1) (pc' := 70) rfl dX12_first_69 rfl (fun h10 => ?_)
  exact sm_vret rfl dX12_first_70
set_option maxRecDepth 100000 in
theorem mX12_first (l : Launch) (D : va_G) (aC : Nat → ClassId) (B : Nat) (a0 : Nat) (a1 : Int32) (a2 : Int32) (h : sm_H) : sm_M l D vwCl gAts aC B gTs gNs gOs yX12_first cX12_first 3 none 0 0 vlU [vR (some a0), vI a1, vI a2] h (fX12_first a0 a1 a2 h) := sm_meth [vR (some a0), vI a1, vI a2] yY_yX12_first gG gN (Nat.le_of_ble_eq_true rfl) rfl (sX12_first_0 l D aC B a0 a1 a2 h)
-- M:TreeAgentModel.newObject(IIJJIZ)I
noncomputable def fX12_newObject_60  : Nat → Nat → Int32 → Int32 → sm_H → Option (Int32 × sm_H)
  | 0 => fun _ _ _ _ => none
  | n + 1 => fun a0 a9 a10 h =>
    if (16 : Int32) ≤ a10 then (
      (sm_I (sm_get h (some a0) 12 8)).bind fun x1 =>
      (sm_put h (some a0) 12 8 (sm_v (vI (x1 + (1 : Int32))))).bind fun h2 =>
      some (a9, h2)
    ) else
    (sm_obj h (some a0) 12).bind fun b5 =>
    sm_cb (fX12_first b5 a9 a10 h) fun _ h3 =>
    sm_let (a10 + (1 : Int32)) fun x4 =>
    (fX12_newObject_60 n) a0 a9 x4 h3
set_option maxRecDepth 100000 in
set_option maxHeartbeats 4000000 in
theorem sX12_newObject_60 (l : Launch) (D : va_G) (aC : Nat → ClassId) (B : Nat)   (n : Nat) : ∀ (a0 : Nat) (a9 : Int32) (a10 : Int32) (h : sm_H), zS l D aC B cX12_newObject 11 RX12 1 22 (some .int) "newObject" vlI (fX12_newObject_60 n a0 a9 a10 h) 60 [(0, vR (some a0)), (9, vI a9), (10, vI a10)] [] h := by
  induction n with
  | zero => intro a0 a9 a10 h; exact sm_none
  | succ n ih =>
    intro a0 a9 a10 h
    show zS l D aC B cX12_newObject 11 RX12 1 22 (some .int) "newObject" vlI (fX12_newObject_60 (n + 1) a0 a9 a10 h) 60 [(0, vR (some a0)), (9, vI a9), (10, vI a10)] [] h
    unfold fX12_newObject_60
    refine sm_iload (i := 10) (j := 2) (pc' := 62) dX12_newObject_60 rfl rfl ?_
    refine sm_bipush (v := (16 : Int32)) (pc' := 64) dX12_newObject_62 rfl (by decide) ?_
    refine sm_icmp_ge (tgt := 81) (pc' := 67) dX12_newObject_64 (by decide) rfl ?_ ?_
    · refine sm_aload_n (i := 0) (j := 0) (pc' := 82) dX12_newObject_81 rfl rfl rfl ?_
      refine sm_dup (pc' := 83) rfl dX12_newObject_82 rfl ?_
      refine sm_getI (k := 8) (pc' := 86) kX12 (by decide) mw710 dX12_newObject_83 rfl (fun x1 => ?_)
      refine sm_iconst (v := (1 : Int32)) (pc' := 87) dX12_newObject_86 rfl (by decide) ?_
      refine sm_iadd (pc' := 88) dX12_newObject_87 rfl ?_
      refine sm_putI (k := 8) (pc' := 91) kX12 (by decide) mw710 rfl rfl dX12_newObject_88 rfl (fun h2 => ?_)
      refine sm_iload (i := 9) (j := 1) (pc' := 93) dX12_newObject_91 rfl rfl ?_
      exact sm_iret rfl dX12_newObject_93
    refine sm_aload_n (i := 0) (j := 0) (pc' := 68) dX12_newObject_67 rfl rfl rfl ?_
    refine sm_iload (i := 9) (j := 1) (pc' := 70) dX12_newObject_68 rfl rfl ?_
    refine sm_iload (i := 10) (j := 2) (pc' := 72) dX12_newObject_70 rfl rfl ?_
    refine sm_cVU (pc' := 75) (ci := 12) (st := []) (F := fun b => fX12_first b a9 a10 h) [vI a9, vI a10] yY_yX12_first rfl mw713 mw714 mw715 (fun b => mX12_first l D aC B b a9 a10 h) rfl (by decide) (by decide) (by exact Nat.le_of_ble_eq_true rfl) rfl dX12_newObject_72 rfl (fun _ h3 => ?_)
    refine sm_iincL (i := 10) (j := 2) (x := a10) (d := (1 : Int32)) (fun x4 => [(10, vI x4), (0, vR (some a0)), (9, vI a9)]) (pc' := 78) dX12_newObject_75 rfl rfl (by decide) (by decide) (fun _ => rfl) (fun x4 => ?_)
    refine sm_goto (pc' := 60) dX12_newObject_78 (by decide) ?_
    refine sm_lo (lv' := [(0, vR (some a0)), (9, vI a9), (10, vI x4)]) [1, 2, 0] rfl ?_
    exact ih a0 a9 x4 h3
noncomputable def fX12_newObject  (a0 : Nat) (a1 : Int32) (a2 : Int32) (a3 : Int64) (a5 : Int64) (a7 : Int32) (a8 : Int32) (h : sm_H) : Option (Int32 × sm_H) :=
  (sm_I (sm_get h (some a0) 12 8)).bind fun x1 =>
  (sm_R (sm_get h (some a0) 12 11)).bind fun x2 =>
  (sm_sI h x2 0 x1 a1).bind fun h3 =>
  (sm_R (sm_get h3 (some a0) 12 12)).bind fun x4 =>
  (sm_sI h3 x4 0 x1 a2).bind fun h5 =>
  (sm_R (sm_get h5 (some a0) 12 13)).bind fun x6 =>
  (sm_sJ h5 x6 1 x1 a3).bind fun h7 =>
  (sm_R (sm_get h7 (some a0) 12 14)).bind fun x8 =>
  (sm_sJ h7 x8 1 x1 a5).bind fun h9 =>
  (sm_R (sm_get h9 (some a0) 12 15)).bind fun x10 =>
  (sm_sI h9 x10 0 x1 a7).bind fun h11 =>
  (sm_R (sm_get h11 (some a0) 12 16)).bind fun x12 =>
  (sm_sI h11 x12 2 x1 (vp_nar .boolean a8)).bind fun h13 =>
  fX12_newObject_60 sm_fuel a0 x1 (0 : Int32) h13
set_option maxRecDepth 100000 in
set_option maxHeartbeats 4000000 in
theorem sX12_newObject_0 (l : Launch) (D : va_G) (aC : Nat → ClassId) (B : Nat)   (a0 : Nat) (a1 : Int32) (a2 : Int32) (a3 : Int64) (a5 : Int64) (a7 : Int32) (a8 : Int32) (h : sm_H) : zS l D aC B cX12_newObject 11 RX12 1 22 (some .int) "newObject" vlI (fX12_newObject a0 a1 a2 a3 a5 a7 a8 h) 0 [(0, vR (some a0)), (1, vI a1), (2, vI a2), (3, vJ a3), (5, vJ a5), (7, vI a7), (8, vI a8)] [] h := by
  unfold fX12_newObject
  refine sm_aload_n (i := 0) (j := 0) (pc' := 1) dX12_newObject_0 rfl rfl rfl ?_
  refine sm_getI (k := 8) (pc' := 4) kX12 (by decide) mw710 dX12_newObject_1 rfl (fun x1 => ?_)
  refine sm_istore (i := 9) (lv' := [(9, vI x1), (0, vR (some a0)), (1, vI a1), (2, vI a2), (3, vJ a3), (5, vJ a5), (7, vI a7), (8, vI a8)]) (pc' := 6) dX12_newObject_4 rfl (by decide) rfl ?_
  refine sm_aload_n (i := 0) (j := 1) (pc' := 7) dX12_newObject_6 rfl rfl rfl ?_
  refine sm_getR (k := 11) (pc' := 10) kX12 (by decide) mw663 dX12_newObject_7 rfl (fun x2 => ?_)
  refine sm_iload (i := 9) (j := 0) (pc' := 12) dX12_newObject_10 rfl rfl ?_
  refine sm_iload_n (i := 1) (j := 2) (pc' := 13) dX12_newObject_12 rfl rfl rfl ?_
  refine sm_iast (t := 0) (pc' := 14) rfl dX12_newObject_13 rfl (fun h3 => ?_)
  refine sm_aload_n (i := 0) (j := 1) (pc' := 15) dX12_newObject_14 rfl rfl rfl ?_
  refine sm_getR (k := 12) (pc' := 18) kX12 (by decide) mw664 dX12_newObject_15 rfl (fun x4 => ?_)
  refine sm_iload (i := 9) (j := 0) (pc' := 20) dX12_newObject_18 rfl rfl ?_
  refine sm_iload_n (i := 2) (j := 3) (pc' := 21) dX12_newObject_20 rfl rfl rfl ?_
  refine sm_iast (t := 0) (pc' := 22) rfl dX12_newObject_21 rfl (fun h5 => ?_)
  refine sm_aload_n (i := 0) (j := 1) (pc' := 23) dX12_newObject_22 rfl rfl rfl ?_
  refine sm_getR (k := 13) (pc' := 26) kX12 (by decide) mw665 dX12_newObject_23 rfl (fun x6 => ?_)
  refine sm_iload (i := 9) (j := 0) (pc' := 28) dX12_newObject_26 rfl rfl ?_
  refine sm_lload_n (i := 3) (j := 4) (pc' := 29) dX12_newObject_28 rfl rfl rfl ?_
  refine sm_last (t := 1) (pc' := 30) rfl dX12_newObject_29 rfl (fun h7 => ?_)
  refine sm_aload_n (i := 0) (j := 1) (pc' := 31) dX12_newObject_30 rfl rfl rfl ?_
  refine sm_getR (k := 14) (pc' := 34) kX12 (by decide) mw666 dX12_newObject_31 rfl (fun x8 => ?_)
  refine sm_iload (i := 9) (j := 0) (pc' := 36) dX12_newObject_34 rfl rfl ?_
  refine sm_lload (i := 5) (j := 5) (pc' := 38) dX12_newObject_36 rfl rfl ?_
  refine sm_last (t := 1) (pc' := 39) rfl dX12_newObject_38 rfl (fun h9 => ?_)
  refine sm_aload_n (i := 0) (j := 1) (pc' := 40) dX12_newObject_39 rfl rfl rfl ?_
  refine sm_getR (k := 15) (pc' := 43) kX12 (by decide) mw667 dX12_newObject_40 rfl (fun x10 => ?_)
  refine sm_iload (i := 9) (j := 0) (pc' := 45) dX12_newObject_43 rfl rfl ?_
  refine sm_iload (i := 7) (j := 6) (pc' := 47) dX12_newObject_45 rfl rfl ?_
  refine sm_iast (t := 0) (pc' := 48) rfl dX12_newObject_47 rfl (fun h11 => ?_)
  refine sm_aload_n (i := 0) (j := 1) (pc' := 49) dX12_newObject_48 rfl rfl rfl ?_
  refine sm_getR (k := 16) (pc' := 52) kX12 (by decide) mw668 dX12_newObject_49 rfl (fun x12 => ?_)
  refine sm_iload (i := 9) (j := 0) (pc' := 54) dX12_newObject_52 rfl rfl ?_
  refine sm_iload (i := 8) (j := 7) (pc' := 56) dX12_newObject_54 rfl rfl ?_
  refine sm_zast (t := 2) (pc' := 57) rfl dX12_newObject_56 rfl (fun h13 => ?_)
  refine sm_iconst (v := (0 : Int32)) (pc' := 58) dX12_newObject_57 rfl (by decide) ?_
  refine sm_istore (i := 10) (lv' := [(10, vI (0 : Int32)), (9, vI x1), (0, vR (some a0)), (1, vI a1), (2, vI a2), (3, vJ a3), (5, vJ a5), (7, vI a7), (8, vI a8)]) (pc' := 60) dX12_newObject_58 rfl (by decide) rfl ?_
  refine sm_lo (lv' := [(0, vR (some a0)), (9, vI x1), (10, vI (0 : Int32))]) [2, 1, 0] rfl ?_
  exact sX12_newObject_60 l D aC B   sm_fuel a0 x1 (0 : Int32) h13
set_option maxRecDepth 100000 in
theorem mX12_newObject (l : Launch) (D : va_G) (aC : Nat → ClassId) (B : Nat) (a0 : Nat) (a1 : Int32) (a2 : Int32) (a3 : Int64) (a5 : Int64) (a7 : Int32) (a8 : Int32) (h : sm_H) : sm_M l D vwCl gAts aC B gTs gNs gOs yX12_newObject cX12_newObject 11 (some .int) 1 22 vlI [vR (some a0), vI a1, vI a2, vJ a3, vJ a5, vI a7, vI a8] h (fX12_newObject a0 a1 a2 a3 a5 a7 a8 h) := sm_meth [vR (some a0), vI a1, vI a2, vJ a3, vJ a5, vI a7, vI a8] yY_yX12_newObject gG gN (Nat.le_of_ble_eq_true rfl) rfl (sX12_newObject_0 l D aC B a0 a1 a2 a3 a5 a7 a8 h)
-- M:TreeAgentModel.scalar(IIJJ)I
noncomputable def fX12_scalar_87  : Nat → Nat → Int32 → Int32 → Int64 → Int64 → Int32 → Int32 → sm_H → Option (Int32 × sm_H)
  | 0 => fun _ _ _ _ _ _ _ _ => none
  | n + 1 => fun a0 a1 a2 a3 a5 a7 a8 h =>
    if a7 ≤ a8 then (
      (sm_R (sm_get h (some a0) 12 10)).bind fun x1 =>
      (sm_I (sm_get h (some a0) 12 8)).bind fun x2 =>
      (sm_sI h x1 0 x2 a7).bind fun h3 =>
      (sm_obj h3 (some a0) 12).bind fun b6 =>
      sm_cb (fX12_newObject b6 a1 a2 a3 a5 (-1 : Int32) (0 : Int32) h3) fun x4 h5 =>
      some (x4, h5)
    ) else
    (sm_R (sm_get h (some a0) 12 9)).bind fun x7 =>
    (sm_I (sm_get h (some a0) 12 8)).bind fun x8 =>
    (sm_R (sm_get h (some a0) 12 3)).bind fun x9 =>
    (sm_aJ h x9 1 a8).bind fun x10 =>
    (sm_sJ h x7 1 (((16 : Int32) * x8) + a8) x10).bind fun h11 =>
    sm_let (a8 + (1 : Int32)) fun x12 =>
    (fX12_scalar_87 n) a0 a1 a2 a3 a5 a7 x12 h11
set_option maxRecDepth 100000 in
set_option maxHeartbeats 4000000 in
theorem sX12_scalar_87 (l : Launch) (D : va_G) (aC : Nat → ClassId) (B : Nat)   (n : Nat) : ∀ (a0 : Nat) (a1 : Int32) (a2 : Int32) (a3 : Int64) (a5 : Int64) (a7 : Int32) (a8 : Int32) (h : sm_H), zS l D aC B cX12_scalar 9 RX12 2 52 (some .int) "scalar" vlI (fX12_scalar_87 n a0 a1 a2 a3 a5 a7 a8 h) 87 [(0, vR (some a0)), (1, vI a1), (2, vI a2), (3, vJ a3), (5, vJ a5), (7, vI a7), (8, vI a8)] [] h := by
  induction n with
  | zero => intro a0 a1 a2 a3 a5 a7 a8 h; exact sm_none
  | succ n ih =>
    intro a0 a1 a2 a3 a5 a7 a8 h
    show zS l D aC B cX12_scalar 9 RX12 2 52 (some .int) "scalar" vlI (fX12_scalar_87 (n + 1) a0 a1 a2 a3 a5 a7 a8 h) 87 [(0, vR (some a0)), (1, vI a1), (2, vI a2), (3, vJ a3), (5, vJ a5), (7, vI a7), (8, vI a8)] [] h
    unfold fX12_scalar_87
    refine sm_iload (i := 8) (j := 6) (pc' := 89) dX12_scalar_87 rfl rfl ?_
    refine sm_iload (i := 7) (j := 5) (pc' := 91) dX12_scalar_89 rfl rfl ?_
    refine sm_icmp_ge (tgt := 122) (pc' := 94) dX12_scalar_91 (by decide) rfl ?_ ?_
    · refine sm_aload_n (i := 0) (j := 0) (pc' := 123) dX12_scalar_122 rfl rfl rfl ?_
      refine sm_getR (k := 10) (pc' := 126) kX12 (by decide) mw662 dX12_scalar_123 rfl (fun x1 => ?_)
      refine sm_aload_n (i := 0) (j := 0) (pc' := 127) dX12_scalar_126 rfl rfl rfl ?_
      refine sm_getI (k := 8) (pc' := 130) kX12 (by decide) mw710 dX12_scalar_127 rfl (fun x2 => ?_)
      refine sm_iload (i := 7) (j := 5) (pc' := 132) dX12_scalar_130 rfl rfl ?_
      refine sm_iast (t := 0) (pc' := 133) rfl dX12_scalar_132 rfl (fun h3 => ?_)
      refine sm_aload_n (i := 0) (j := 0) (pc' := 134) dX12_scalar_133 rfl rfl rfl ?_
      refine sm_iload_n (i := 1) (j := 1) (pc' := 135) dX12_scalar_134 rfl rfl rfl ?_
      refine sm_iload_n (i := 2) (j := 2) (pc' := 136) dX12_scalar_135 rfl rfl rfl ?_
      refine sm_lload_n (i := 3) (j := 3) (pc' := 137) dX12_scalar_136 rfl rfl rfl ?_
      refine sm_lload (i := 5) (j := 4) (pc' := 139) dX12_scalar_137 rfl rfl ?_
      refine sm_iconst (v := (-1 : Int32)) (pc' := 140) dX12_scalar_139 rfl (by decide) ?_
      refine sm_iconst (v := (0 : Int32)) (pc' := 141) dX12_scalar_140 rfl (by decide) ?_
      refine sm_cVI (pc' := 144) (ci := 12) (st := []) (F := fun b => fX12_newObject b a1 a2 a3 a5 (-1 : Int32) (0 : Int32) h3) [vI a1, vI a2, vJ a3, vJ a5, vI (-1 : Int32), vI (0 : Int32)] yY_yX12_newObject rfl mw716 mw717 mw718 (fun b => mX12_newObject l D aC B b a1 a2 a3 a5 (-1 : Int32) (0 : Int32) h3) rfl (by decide) (by decide) (by exact Nat.le_of_ble_eq_true rfl) rfl dX12_scalar_141 rfl (fun x4 h5 => ?_)
      exact sm_iret rfl dX12_scalar_144
    refine sm_aload_n (i := 0) (j := 0) (pc' := 95) dX12_scalar_94 rfl rfl rfl ?_
    refine sm_getR (k := 9) (pc' := 98) kX12 (by decide) mw661 dX12_scalar_95 rfl (fun x7 => ?_)
    refine sm_bipush (v := (16 : Int32)) (pc' := 100) dX12_scalar_98 rfl (by decide) ?_
    refine sm_aload_n (i := 0) (j := 0) (pc' := 101) dX12_scalar_100 rfl rfl rfl ?_
    refine sm_getI (k := 8) (pc' := 104) kX12 (by decide) mw710 dX12_scalar_101 rfl (fun x8 => ?_)
    refine sm_imul (pc' := 105) dX12_scalar_104 rfl ?_
    refine sm_iload (i := 8) (j := 6) (pc' := 107) dX12_scalar_105 rfl rfl ?_
    refine sm_iadd (pc' := 108) dX12_scalar_107 rfl ?_
    refine sm_aload_n (i := 0) (j := 0) (pc' := 109) dX12_scalar_108 rfl rfl rfl ?_
    refine sm_getR (k := 3) (pc' := 112) kX12 (by decide) mw658 dX12_scalar_109 rfl (fun x9 => ?_)
    refine sm_iload (i := 8) (j := 6) (pc' := 114) dX12_scalar_112 rfl rfl ?_
    refine sm_lald (t := 1) (pc' := 115) rfl dX12_scalar_114 rfl (fun x10 => ?_)
    refine sm_last (t := 1) (pc' := 116) rfl dX12_scalar_115 rfl (fun h11 => ?_)
    refine sm_iincL (i := 8) (j := 6) (x := a8) (d := (1 : Int32)) (fun x12 => [(8, vI x12), (0, vR (some a0)), (1, vI a1), (2, vI a2), (3, vJ a3), (5, vJ a5), (7, vI a7)]) (pc' := 119) dX12_scalar_116 rfl rfl (by decide) (by decide) (fun _ => rfl) (fun x12 => ?_)
    refine sm_goto (pc' := 87) dX12_scalar_119 (by decide) ?_
    refine sm_lo (lv' := [(0, vR (some a0)), (1, vI a1), (2, vI a2), (3, vJ a3), (5, vJ a5), (7, vI a7), (8, vI x12)]) [1, 2, 3, 4, 5, 6, 0] rfl ?_
    exact ih a0 a1 a2 a3 a5 a7 x12 h11
noncomputable def fX12_scalar  (a0 : Nat) (a1 : Int32) (a2 : Int32) (a3 : Int64) (a5 : Int64) (h : sm_H) : Option (Int32 × sm_H) :=
  (sm_put h (some a0) 12 0 (sm_v (vI (0 : Int32)))).bind fun h1 =>
  (sm_I (sm_get h1 (some a0) 12 4)).bind fun x2 =>
  (sm_put h1 (some a0) 12 4 (sm_v (vI (0 : Int32)))).bind fun h3 =>
  sm_cb (fX12_isTag a1 h3) fun x4 h5 =>
  if x4 = 0 then (
    some ((-2 : Int32), h5)
  ) else
  sm_cb (fX12_in (a2.toInt64) (0 : Int64) (2 : Int64) h5) fun x6 h7 =>
  if x6 = 0 then (
    some ((-2 : Int32), h7)
  ) else
  if 0 < (lg_cmp a3 a5) then (
    some ((-2 : Int32), h7)
  ) else
  sm_cb (fX12_in (x2.toInt64) (2 : Int64) (15 : Int64) h7) fun x8 h9 =>
  if x8 = 0 then (
    some ((-2 : Int32), h9)
  ) else
  (sm_obj h9 (some a0) 12).bind fun b13 =>
  sm_cb (fX12_clashes b13 x2 h9) fun x10 h11 =>
  if x10 = 0 then (
    (sm_I (sm_get h11 (some a0) 12 8)).bind fun x12 =>
    if x12 = (40 : Int32) then (
      some ((-4 : Int32), h11)
    ) else
    fX12_scalar_87 sm_fuel a0 a1 a2 a3 a5 x2 (0 : Int32) h11
  ) else
  some ((-3 : Int32), h11)
set_option maxRecDepth 100000 in
set_option maxHeartbeats 4000000 in
theorem sX12_scalar_0 (l : Launch) (D : va_G) (aC : Nat → ClassId) (B : Nat)   (a0 : Nat) (a1 : Int32) (a2 : Int32) (a3 : Int64) (a5 : Int64) (h : sm_H) : zS l D aC B cX12_scalar 9 RX12 2 52 (some .int) "scalar" vlI (fX12_scalar a0 a1 a2 a3 a5 h) 0 [(0, vR (some a0)), (1, vI a1), (2, vI a2), (3, vJ a3), (5, vJ a5)] [] h := by
  unfold fX12_scalar
  refine sm_aload_n (i := 0) (j := 0) (pc' := 1) dX12_scalar_0 rfl rfl rfl ?_
  refine sm_iconst (v := (0 : Int32)) (pc' := 2) dX12_scalar_1 rfl (by decide) ?_
  refine sm_putI (k := 0) (pc' := 5) kX12 (by decide) mw699 rfl rfl dX12_scalar_2 rfl (fun h1 => ?_)
  refine sm_aload_n (i := 0) (j := 0) (pc' := 6) dX12_scalar_5 rfl rfl rfl ?_
  refine sm_getI (k := 4) (pc' := 9) kX12 (by decide) mw703 dX12_scalar_6 rfl (fun x2 => ?_)
  refine sm_istore (i := 7) (lv' := [(7, vI x2), (0, vR (some a0)), (1, vI a1), (2, vI a2), (3, vJ a3), (5, vJ a5)]) (pc' := 11) dX12_scalar_9 rfl (by decide) rfl ?_
  refine sm_aload_n (i := 0) (j := 1) (pc' := 12) dX12_scalar_11 rfl rfl rfl ?_
  refine sm_iconst (v := (0 : Int32)) (pc' := 13) dX12_scalar_12 rfl (by decide) ?_
  refine sm_putI (k := 4) (pc' := 16) kX12 (by decide) mw703 rfl rfl dX12_scalar_13 rfl (fun h3 => ?_)
  refine sm_iload_n (i := 1) (j := 2) (pc' := 17) dX12_scalar_16 rfl rfl rfl ?_
  refine sm_cSI (pc' := 20) (st := []) [vI a1] yY_yX12_isTag mw719 mw724 (mX12_isTag l D aC B a1 h3) rfl (by decide) (by decide) (by exact Nat.le_of_ble_eq_true rfl) rfl dX12_scalar_17 rfl (fun x4 h5 => ?_)
  refine sm_if_eq (tgt := 57) (pc' := 23) dX12_scalar_20 (by decide) rfl ?_ ?_
  · refine sm_bipush (v := (-2 : Int32)) (pc' := 59) dX12_scalar_57 rfl (by decide) ?_
    exact sm_iret rfl dX12_scalar_59
  refine sm_iload_n (i := 2) (j := 3) (pc' := 24) dX12_scalar_23 rfl rfl rfl ?_
  refine sm_i2l (pc' := 25) dX12_scalar_24 rfl ?_
  refine sm_lconst (v := (0 : Int64)) (pc' := 26) dX12_scalar_25 rfl (by decide) ?_
  refine sm_ldc2 (v := (2 : Int64)) (pc' := 29) dX12_scalar_26 rfl mw707 ?_
  refine sm_cSI (pc' := 32) (st := []) [vJ (a2.toInt64), vJ (0 : Int64), vJ (2 : Int64)] yY_yX12_in mw701 mw702 (mX12_in l D aC B (a2.toInt64) (0 : Int64) (2 : Int64) h5) rfl (by decide) (by decide) (by exact Nat.le_of_ble_eq_true rfl) rfl dX12_scalar_29 rfl (fun x6 h7 => ?_)
  refine sm_if_eq (tgt := 57) (pc' := 35) dX12_scalar_32 (by decide) rfl ?_ ?_
  · refine sm_bipush (v := (-2 : Int32)) (pc' := 59) dX12_scalar_57 rfl (by decide) ?_
    exact sm_iret rfl dX12_scalar_59
  refine sm_lload_n (i := 3) (j := 4) (pc' := 36) dX12_scalar_35 rfl rfl rfl ?_
  refine sm_lload (i := 5) (j := 5) (pc' := 38) dX12_scalar_36 rfl rfl ?_
  refine sm_lcmp (pc' := 39) dX12_scalar_38 rfl ?_
  refine sm_if_gt (tgt := 57) (pc' := 42) dX12_scalar_39 (by decide) rfl ?_ ?_
  · refine sm_bipush (v := (-2 : Int32)) (pc' := 59) dX12_scalar_57 rfl (by decide) ?_
    exact sm_iret rfl dX12_scalar_59
  refine sm_iload (i := 7) (j := 0) (pc' := 44) dX12_scalar_42 rfl rfl ?_
  refine sm_i2l (pc' := 45) dX12_scalar_44 rfl ?_
  refine sm_ldc2 (v := (2 : Int64)) (pc' := 48) dX12_scalar_45 rfl mw707 ?_
  refine sm_ldc2 (v := (15 : Int64)) (pc' := 51) dX12_scalar_48 rfl mw720 ?_
  refine sm_cSI (pc' := 54) (st := []) [vJ (x2.toInt64), vJ (2 : Int64), vJ (15 : Int64)] yY_yX12_in mw701 mw702 (mX12_in l D aC B (x2.toInt64) (2 : Int64) (15 : Int64) h7) rfl (by decide) (by decide) (by exact Nat.le_of_ble_eq_true rfl) rfl dX12_scalar_51 rfl (fun x8 h9 => ?_)
  refine sm_if_ne (tgt := 60) (pc' := 57) dX12_scalar_54 (by decide) rfl ?_ ?_
  · refine sm_aload_n (i := 0) (j := 1) (pc' := 61) dX12_scalar_60 rfl rfl rfl ?_
    refine sm_iload (i := 7) (j := 0) (pc' := 63) dX12_scalar_61 rfl rfl ?_
    refine sm_cVI (pc' := 66) (ci := 12) (st := []) (F := fun b => fX12_clashes b x2 h9) [vI x2] yY_yX12_clashes rfl mw721 mw722 mw723 (fun b => mX12_clashes l D aC B b x2 h9) rfl (by decide) (by decide) (by exact Nat.le_of_ble_eq_true rfl) rfl dX12_scalar_63 rfl (fun x10 h11 => ?_)
    refine sm_if_eq (tgt := 72) (pc' := 69) dX12_scalar_66 (by decide) rfl ?_ ?_
    · refine sm_aload_n (i := 0) (j := 1) (pc' := 73) dX12_scalar_72 rfl rfl rfl ?_
      refine sm_getI (k := 8) (pc' := 76) kX12 (by decide) mw710 dX12_scalar_73 rfl (fun x12 => ?_)
      refine sm_bipush (v := (40 : Int32)) (pc' := 78) dX12_scalar_76 rfl (by decide) ?_
      refine sm_icmp_ne (tgt := 84) (pc' := 81) dX12_scalar_78 (by decide) rfl ?_ ?_
      · refine sm_iconst (v := (0 : Int32)) (pc' := 85) dX12_scalar_84 rfl (by decide) ?_
        refine sm_istore (i := 8) (lv' := [(8, vI (0 : Int32)), (7, vI x2), (0, vR (some a0)), (1, vI a1), (2, vI a2), (3, vJ a3), (5, vJ a5)]) (pc' := 87) dX12_scalar_85 rfl (by decide) rfl ?_
        refine sm_lo (lv' := [(0, vR (some a0)), (1, vI a1), (2, vI a2), (3, vJ a3), (5, vJ a5), (7, vI x2), (8, vI (0 : Int32))]) [2, 3, 4, 5, 6, 1, 0] rfl ?_
        exact sX12_scalar_87 l D aC B   sm_fuel a0 a1 a2 a3 a5 x2 (0 : Int32) h11
      refine sm_bipush (v := (-4 : Int32)) (pc' := 83) dX12_scalar_81 rfl (by decide) ?_
      exact sm_iret rfl dX12_scalar_83
    refine sm_bipush (v := (-3 : Int32)) (pc' := 71) dX12_scalar_69 rfl (by decide) ?_
    exact sm_iret rfl dX12_scalar_71
  refine sm_bipush (v := (-2 : Int32)) (pc' := 59) dX12_scalar_57 rfl (by decide) ?_
  exact sm_iret rfl dX12_scalar_59
set_option maxRecDepth 100000 in
theorem mX12_scalar (l : Launch) (D : va_G) (aC : Nat → ClassId) (B : Nat) (a0 : Nat) (a1 : Int32) (a2 : Int32) (a3 : Int64) (a5 : Int64) (h : sm_H) : sm_M l D vwCl gAts aC B gTs gNs gOs yX12_scalar cX12_scalar 9 (some .int) 2 52 vlI [vR (some a0), vI a1, vI a2, vJ a3, vJ a5] h (fX12_scalar a0 a1 a2 a3 a5 h) := sm_meth [vR (some a0), vI a1, vI a2, vJ a3, vJ a5] yY_yX12_scalar gG gN (Nat.le_of_ble_eq_true rfl) rfl (sX12_scalar_0 l D aC B a0 a1 a2 a3 a5 h)
