-- M:TreeAgentModel.isThere(II)Z
noncomputable def fX12_isThere  (a0 : Nat) (a1 : Int32) (a2 : Int32) (h : sm_H) : Option (Int32 × sm_H) :=
  (sm_R (sm_get h (some a0) 12 15)).bind fun x1 =>
  (sm_aI h x1 0 a1).bind fun x2 =>
  if 0 ≤ x2 then (
    (sm_R (sm_get h (some a0) 12 27)).bind fun x3 =>
    (sm_R (sm_get h (some a0) 12 15)).bind fun x4 =>
    (sm_aI h x4 0 a1).bind fun x5 =>
    (sm_aI h x3 0 (((16 : Int32) * x5) + a2)).bind fun x6 =>
    if x6 ≤ 0 then (
      some ((0 : Int32), h)
    ) else
    some ((1 : Int32), h)
  ) else
  if a2 = 0 then (
    some ((1 : Int32), h)
  ) else
  some ((0 : Int32), h)
set_option maxRecDepth 100000 in
set_option maxHeartbeats 4000000 in
theorem sX12_isThere_0 (l : Launch) (D : va_G) (aC : Nat → ClassId) (B : Nat)   (a0 : Nat) (a1 : Int32) (a2 : Int32) (h : sm_H) : zS l D aC B cX12_isThere 3 RX12 0 0 (some .boolean) "isThere" vlI (fX12_isThere a0 a1 a2 h) 0 [(0, vR (some a0)), (1, vI a1), (2, vI a2)] [] h := by
  unfold fX12_isThere
  refine sm_aload_n (i := 0) (j := 0) (pc' := 1) dX12_isThere_0 rfl rfl rfl ?_
  refine sm_getR (k := 15) (pc' := 4) kX12 (by decide) mw667 dX12_isThere_1 rfl (fun x1 => ?_)
  refine sm_iload_n (i := 1) (j := 1) (pc' := 5) dX12_isThere_4 rfl rfl rfl ?_
  refine sm_iald (t := 0) (pc' := 6) rfl dX12_isThere_5 rfl (fun x2 => ?_)
  refine sm_if_ge (tgt := 21) (pc' := 9) dX12_isThere_6 (by decide) rfl ?_ ?_
  · refine sm_aload_n (i := 0) (j := 0) (pc' := 22) dX12_isThere_21 rfl rfl rfl ?_
    refine sm_getR (k := 27) (pc' := 25) kX12 (by decide) mw678 dX12_isThere_22 rfl (fun x3 => ?_)
    refine sm_bipush (v := (16 : Int32)) (pc' := 27) dX12_isThere_25 rfl (by decide) ?_
    refine sm_aload_n (i := 0) (j := 0) (pc' := 28) dX12_isThere_27 rfl rfl rfl ?_
    refine sm_getR (k := 15) (pc' := 31) kX12 (by decide) mw667 dX12_isThere_28 rfl (fun x4 => ?_)
    refine sm_iload_n (i := 1) (j := 1) (pc' := 32) dX12_isThere_31 rfl rfl rfl ?_
    refine sm_iald (t := 0) (pc' := 33) rfl dX12_isThere_32 rfl (fun x5 => ?_)
    refine sm_imul (pc' := 34) dX12_isThere_33 rfl ?_
    refine sm_iload_n (i := 2) (j := 2) (pc' := 35) dX12_isThere_34 rfl rfl rfl ?_
    refine sm_iadd (pc' := 36) dX12_isThere_35 rfl ?_
    refine sm_iald (t := 0) (pc' := 37) rfl dX12_isThere_36 rfl (fun x6 => ?_)
    refine sm_if_le (tgt := 44) (pc' := 40) dX12_isThere_37 (by decide) rfl ?_ ?_
    · refine sm_iconst (v := (0 : Int32)) (pc' := 45) dX12_isThere_44 rfl (by decide) ?_
      exact sm_zret0 rfl dX12_isThere_45
    refine sm_iconst (v := (1 : Int32)) (pc' := 41) dX12_isThere_40 rfl (by decide) ?_
    refine sm_goto (pc' := 45) dX12_isThere_41 (by decide) ?_
    exact sm_zret1 rfl dX12_isThere_45
  refine sm_iload_n (i := 2) (j := 2) (pc' := 10) dX12_isThere_9 rfl rfl rfl ?_
  refine sm_if_ne (tgt := 17) (pc' := 13) dX12_isThere_10 (by decide) rfl ?_ ?_
  · refine sm_iconst (v := (0 : Int32)) (pc' := 18) dX12_isThere_17 rfl (by decide) ?_
    refine sm_goto (pc' := 45) dX12_isThere_18 (by decide) ?_
    exact sm_zret0 rfl dX12_isThere_45
  refine sm_iconst (v := (1 : Int32)) (pc' := 14) dX12_isThere_13 rfl (by decide) ?_
  refine sm_goto (pc' := 45) dX12_isThere_14 (by decide) ?_
  exact sm_zret1 rfl dX12_isThere_45
set_option maxRecDepth 100000 in
theorem mX12_isThere (l : Launch) (D : va_G) (aC : Nat → ClassId) (B : Nat) (a0 : Nat) (a1 : Int32) (a2 : Int32) (h : sm_H) : sm_M l D vwCl gAts aC B gTs gNs gOs yX12_isThere cX12_isThere 3 (some .boolean) 0 0 vlI [vR (some a0), vI a1, vI a2] h (fX12_isThere a0 a1 a2 h) := sm_meth [vR (some a0), vI a1, vI a2] yY_yX12_isThere gG gN (Nat.le_of_ble_eq_true rfl) rfl (sX12_isThere_0 l D aC B a0 a1 a2 h)
-- M:TreeAgentModel.objectOf([JIII)I
noncomputable def fX12_objectOf_3  : Nat → Nat → Option Nat → Int32 → Int32 → Int32 → Int32 → sm_H → Option (Int32 × sm_H)
  | 0 => fun _ _ _ _ _ _ _ => none
  | n + 1 => fun a0 a1 a2 a3 a4 a5 h =>
    (sm_I (sm_get h (some a0) 12 8)).bind fun x1 =>
    if x1 ≤ a5 then (
      some ((-1 : Int32), h)
    ) else
    (sm_R (sm_get h (some a0) 12 12)).bind fun x2 =>
    (sm_aI h x2 0 a5).bind fun x3 =>
    if x3 < a4 then (
      sm_let (a5 + (1 : Int32)) fun x4 =>
      (fX12_objectOf_3 n) a0 a1 a2 a3 a4 x4 h
    ) else
    (sm_R (sm_get h (some a0) 12 9)).bind fun x5 =>
    (sm_R (sm_get h (some a0) 12 10)).bind fun x6 =>
    (sm_aI h x6 0 a5).bind fun x7 =>
    sm_cb (fX12_begins a1 a2 a3 x5 ((16 : Int32) * a5) x7 h) fun x8 h9 =>
    if x8 = 0 then (
      sm_let (a5 + (1 : Int32)) fun x10 =>
      (fX12_objectOf_3 n) a0 a1 a2 a3 a4 x10 h9
    ) else
    some (a5, h9)
set_option maxRecDepth 100000 in
set_option maxHeartbeats 4000000 in
theorem sX12_objectOf_3 (l : Launch) (D : va_G) (aC : Nat → ClassId) (B : Nat)   (n : Nat) : ∀ (a0 : Nat) (a1 : Option Nat) (a2 : Int32) (a3 : Int32) (a4 : Int32) (a5 : Int32) (h : sm_H), zS l D aC B cX12_objectOf 6 RX12 1 27 (some .int) "objectOf" vlI (fX12_objectOf_3 n a0 a1 a2 a3 a4 a5 h) 3 [(0, vR (some a0)), (1, vR a1), (2, vI a2), (3, vI a3), (4, vI a4), (5, vI a5)] [] h := by
  induction n with
  | zero => intro a0 a1 a2 a3 a4 a5 h; exact sm_none
  | succ n ih =>
    intro a0 a1 a2 a3 a4 a5 h
    show zS l D aC B cX12_objectOf 6 RX12 1 27 (some .int) "objectOf" vlI (fX12_objectOf_3 (n + 1) a0 a1 a2 a3 a4 a5 h) 3 [(0, vR (some a0)), (1, vR a1), (2, vI a2), (3, vI a3), (4, vI a4), (5, vI a5)] [] h
    unfold fX12_objectOf_3
    refine sm_iload (i := 5) (j := 5) (pc' := 5) dX12_objectOf_3 rfl rfl ?_
    refine sm_aload_n (i := 0) (j := 0) (pc' := 6) dX12_objectOf_5 rfl rfl rfl ?_
    refine sm_getI (k := 8) (pc' := 9) kX12 (by decide) mw710 dX12_objectOf_6 rfl (fun x1 => ?_)
    refine sm_icmp_ge (tgt := 58) (pc' := 12) dX12_objectOf_9 (by decide) rfl ?_ ?_
    · refine sm_iconst (v := (-1 : Int32)) (pc' := 59) dX12_objectOf_58 rfl (by decide) ?_
      exact sm_iret rfl dX12_objectOf_59
    refine sm_aload_n (i := 0) (j := 0) (pc' := 13) dX12_objectOf_12 rfl rfl rfl ?_
    refine sm_getR (k := 12) (pc' := 16) kX12 (by decide) mw664 dX12_objectOf_13 rfl (fun x2 => ?_)
    refine sm_iload (i := 5) (j := 5) (pc' := 18) dX12_objectOf_16 rfl rfl ?_
    refine sm_iald (t := 0) (pc' := 19) rfl dX12_objectOf_18 rfl (fun x3 => ?_)
    refine sm_iload (i := 4) (j := 4) (pc' := 21) dX12_objectOf_19 rfl rfl ?_
    refine sm_icmp_lt (tgt := 52) (pc' := 24) dX12_objectOf_21 (by decide) rfl ?_ ?_
    · refine sm_iincL (i := 5) (j := 5) (x := a5) (d := (1 : Int32)) (fun x4 => [(5, vI x4), (0, vR (some a0)), (1, vR a1), (2, vI a2), (3, vI a3), (4, vI a4)]) (pc' := 55) dX12_objectOf_52 rfl rfl (by decide) (by decide) (fun _ => rfl) (fun x4 => ?_)
      refine sm_goto (pc' := 3) dX12_objectOf_55 (by decide) ?_
      refine sm_lo (lv' := [(0, vR (some a0)), (1, vR a1), (2, vI a2), (3, vI a3), (4, vI a4), (5, vI x4)]) [1, 2, 3, 4, 5, 0] rfl ?_
      exact ih a0 a1 a2 a3 a4 x4 h
    refine sm_aload_n (i := 1) (j := 1) (pc' := 25) dX12_objectOf_24 rfl rfl rfl ?_
    refine sm_iload_n (i := 2) (j := 2) (pc' := 26) dX12_objectOf_25 rfl rfl rfl ?_
    refine sm_iload_n (i := 3) (j := 3) (pc' := 27) dX12_objectOf_26 rfl rfl rfl ?_
    refine sm_aload_n (i := 0) (j := 0) (pc' := 28) dX12_objectOf_27 rfl rfl rfl ?_
    refine sm_getR (k := 9) (pc' := 31) kX12 (by decide) mw661 dX12_objectOf_28 rfl (fun x5 => ?_)
    refine sm_bipush (v := (16 : Int32)) (pc' := 33) dX12_objectOf_31 rfl (by decide) ?_
    refine sm_iload (i := 5) (j := 5) (pc' := 35) dX12_objectOf_33 rfl rfl ?_
    refine sm_imul (pc' := 36) dX12_objectOf_35 rfl ?_
    refine sm_aload_n (i := 0) (j := 0) (pc' := 37) dX12_objectOf_36 rfl rfl rfl ?_
    refine sm_getR (k := 10) (pc' := 40) kX12 (by decide) mw662 dX12_objectOf_37 rfl (fun x6 => ?_)
    refine sm_iload (i := 5) (j := 5) (pc' := 42) dX12_objectOf_40 rfl rfl ?_
    refine sm_iald (t := 0) (pc' := 43) rfl dX12_objectOf_42 rfl (fun x7 => ?_)
    refine sm_cSI (pc' := 46) (st := []) [vR a1, vI a2, vI a3, vR x5, vI ((16 : Int32) * a5), vI x7] yY_yX12_begins mw708 mw709 (mX12_begins l D aC B a1 a2 a3 x5 ((16 : Int32) * a5) x7 h) rfl (by decide) (by decide) (by exact Nat.le_of_ble_eq_true rfl) rfl dX12_objectOf_43 rfl (fun x8 h9 => ?_)
    refine sm_if_eq (tgt := 52) (pc' := 49) dX12_objectOf_46 (by decide) rfl ?_ ?_
    · refine sm_iincL (i := 5) (j := 5) (x := a5) (d := (1 : Int32)) (fun x10 => [(5, vI x10), (0, vR (some a0)), (1, vR a1), (2, vI a2), (3, vI a3), (4, vI a4)]) (pc' := 55) dX12_objectOf_52 rfl rfl (by decide) (by decide) (fun _ => rfl) (fun x10 => ?_)
      refine sm_goto (pc' := 3) dX12_objectOf_55 (by decide) ?_
      refine sm_lo (lv' := [(0, vR (some a0)), (1, vR a1), (2, vI a2), (3, vI a3), (4, vI a4), (5, vI x10)]) [1, 2, 3, 4, 5, 0] rfl ?_
      exact ih a0 a1 a2 a3 a4 x10 h9
    refine sm_iload (i := 5) (j := 5) (pc' := 51) dX12_objectOf_49 rfl rfl ?_
    exact sm_iret rfl dX12_objectOf_51
noncomputable def fX12_objectOf  (a0 : Nat) (a1 : Option Nat) (a2 : Int32) (a3 : Int32) (a4 : Int32) (h : sm_H) : Option (Int32 × sm_H) :=
  fX12_objectOf_3 sm_fuel a0 a1 a2 a3 a4 (0 : Int32) h
set_option maxRecDepth 100000 in
set_option maxHeartbeats 4000000 in
theorem sX12_objectOf_0 (l : Launch) (D : va_G) (aC : Nat → ClassId) (B : Nat)   (a0 : Nat) (a1 : Option Nat) (a2 : Int32) (a3 : Int32) (a4 : Int32) (h : sm_H) : zS l D aC B cX12_objectOf 6 RX12 1 27 (some .int) "objectOf" vlI (fX12_objectOf a0 a1 a2 a3 a4 h) 0 [(0, vR (some a0)), (1, vR a1), (2, vI a2), (3, vI a3), (4, vI a4)] [] h := by
  unfold fX12_objectOf
  refine sm_iconst (v := (0 : Int32)) (pc' := 1) dX12_objectOf_0 rfl (by decide) ?_
  refine sm_istore (i := 5) (lv' := [(5, vI (0 : Int32)), (0, vR (some a0)), (1, vR a1), (2, vI a2), (3, vI a3), (4, vI a4)]) (pc' := 3) dX12_objectOf_1 rfl (by decide) rfl ?_
  refine sm_lo (lv' := [(0, vR (some a0)), (1, vR a1), (2, vI a2), (3, vI a3), (4, vI a4), (5, vI (0 : Int32))]) [1, 2, 3, 4, 5, 0] rfl ?_
  exact sX12_objectOf_3 l D aC B   sm_fuel a0 a1 a2 a3 a4 (0 : Int32) h
set_option maxRecDepth 100000 in
theorem mX12_objectOf (l : Launch) (D : va_G) (aC : Nat → ClassId) (B : Nat) (a0 : Nat) (a1 : Option Nat) (a2 : Int32) (a3 : Int32) (a4 : Int32) (h : sm_H) : sm_M l D vwCl gAts aC B gTs gNs gOs yX12_objectOf cX12_objectOf 6 (some .int) 1 27 vlI [vR (some a0), vR a1, vI a2, vI a3, vI a4] h (fX12_objectOf a0 a1 a2 a3 a4 h) := sm_meth [vR (some a0), vR a1, vI a2, vI a3, vI a4] yY_yX12_objectOf gG gN (Nat.le_of_ble_eq_true rfl) rfl (sX12_objectOf_0 l D aC B a0 a1 a2 a3 a4 h)
-- M:TreeAgentModel.copyName(II)V
noncomputable def fX12_copyName_2  : Nat → Nat → Int32 → Int32 → Int32 → sm_H → Option (Unit × sm_H)
  | 0 => fun _ _ _ _ _ => none
  | n + 1 => fun a0 a1 a2 a3 h =>
    (sm_R (sm_get h (some a0) 12 37)).bind fun x1 =>
    (sm_aI h x1 0 a1).bind fun x2 =>
    if x2 ≤ a3 then (
      (sm_R (sm_get h (some a0) 12 37)).bind fun x3 =>
      (sm_R (sm_get h (some a0) 12 37)).bind fun x4 =>
      (sm_aI h x4 0 a1).bind fun x5 =>
      (sm_sI h x3 0 a2 x5).bind fun h6 =>
      some ((), h6)
    ) else
    (sm_R (sm_get h (some a0) 12 36)).bind fun x7 =>
    (sm_R (sm_get h (some a0) 12 36)).bind fun x8 =>
    (sm_aJ h x8 1 (((16 : Int32) * a1) + a3)).bind fun x9 =>
    (sm_sJ h x7 1 (((16 : Int32) * a2) + a3) x9).bind fun h10 =>
    sm_let (a3 + (1 : Int32)) fun x11 =>
    (fX12_copyName_2 n) a0 a1 a2 x11 h10
set_option maxRecDepth 100000 in
set_option maxHeartbeats 4000000 in
theorem sX12_copyName_2 (l : Launch) (D : va_G) (aC : Nat → ClassId) (B : Nat)   (n : Nat) : ∀ (a0 : Nat) (a1 : Int32) (a2 : Int32) (a3 : Int32) (h : sm_H), zS l D aC B cX12_copyName 4 RX12 0 0 none "copyName" vlU (fX12_copyName_2 n a0 a1 a2 a3 h) 2 [(0, vR (some a0)), (1, vI a1), (2, vI a2), (3, vI a3)] [] h := by
  induction n with
  | zero => intro a0 a1 a2 a3 h; exact sm_none
  | succ n ih =>
    intro a0 a1 a2 a3 h
    show zS l D aC B cX12_copyName 4 RX12 0 0 none "copyName" vlU (fX12_copyName_2 (n + 1) a0 a1 a2 a3 h) 2 [(0, vR (some a0)), (1, vI a1), (2, vI a2), (3, vI a3)] [] h
    unfold fX12_copyName_2
    refine sm_iload_n (i := 3) (j := 3) (pc' := 3) dX12_copyName_2 rfl rfl rfl ?_
    refine sm_aload_n (i := 0) (j := 0) (pc' := 4) dX12_copyName_3 rfl rfl rfl ?_
    refine sm_getR (k := 37) (pc' := 7) kX12 (by decide) mw687 dX12_copyName_4 rfl (fun x1 => ?_)
    refine sm_iload_n (i := 1) (j := 1) (pc' := 8) dX12_copyName_7 rfl rfl rfl ?_
    refine sm_iald (t := 0) (pc' := 9) rfl dX12_copyName_8 rfl (fun x2 => ?_)
    refine sm_icmp_ge (tgt := 40) (pc' := 12) dX12_copyName_9 (by decide) rfl ?_ ?_
    · refine sm_aload_n (i := 0) (j := 0) (pc' := 41) dX12_copyName_40 rfl rfl rfl ?_
      refine sm_getR (k := 37) (pc' := 44) kX12 (by decide) mw687 dX12_copyName_41 rfl (fun x3 => ?_)
      refine sm_iload_n (i := 2) (j := 2) (pc' := 45) dX12_copyName_44 rfl rfl rfl ?_
      refine sm_aload_n (i := 0) (j := 0) (pc' := 46) dX12_copyName_45 rfl rfl rfl ?_
      refine sm_getR (k := 37) (pc' := 49) kX12 (by decide) mw687 dX12_copyName_46 rfl (fun x4 => ?_)
      refine sm_iload_n (i := 1) (j := 1) (pc' := 50) dX12_copyName_49 rfl rfl rfl ?_
      refine sm_iald (t := 0) (pc' := 51) rfl dX12_copyName_50 rfl (fun x5 => ?_)
      refine sm_iast (t := 0) (pc' := 52) rfl dX12_copyName_51 rfl (fun h6 => ?_)
      exact sm_vret rfl dX12_copyName_52
    refine sm_aload_n (i := 0) (j := 0) (pc' := 13) dX12_copyName_12 rfl rfl rfl ?_
    refine sm_getR (k := 36) (pc' := 16) kX12 (by decide) mw686 dX12_copyName_13 rfl (fun x7 => ?_)
    refine sm_bipush (v := (16 : Int32)) (pc' := 18) dX12_copyName_16 rfl (by decide) ?_
    refine sm_iload_n (i := 2) (j := 2) (pc' := 19) dX12_copyName_18 rfl rfl rfl ?_
    refine sm_imul (pc' := 20) dX12_copyName_19 rfl ?_
    refine sm_iload_n (i := 3) (j := 3) (pc' := 21) dX12_copyName_20 rfl rfl rfl ?_
    refine sm_iadd (pc' := 22) dX12_copyName_21 rfl ?_
    refine sm_aload_n (i := 0) (j := 0) (pc' := 23) dX12_copyName_22 rfl rfl rfl ?_
    refine sm_getR (k := 36) (pc' := 26) kX12 (by decide) mw686 dX12_copyName_23 rfl (fun x8 => ?_)
    refine sm_bipush (v := (16 : Int32)) (pc' := 28) dX12_copyName_26 rfl (by decide) ?_
    refine sm_iload_n (i := 1) (j := 1) (pc' := 29) dX12_copyName_28 rfl rfl rfl ?_
    refine sm_imul (pc' := 30) dX12_copyName_29 rfl ?_
    refine sm_iload_n (i := 3) (j := 3) (pc' := 31) dX12_copyName_30 rfl rfl rfl ?_
    refine sm_iadd (pc' := 32) dX12_copyName_31 rfl ?_
    refine sm_lald (t := 1) (pc' := 33) rfl dX12_copyName_32 rfl (fun x9 => ?_)
    refine sm_last (t := 1) (pc' := 34) rfl dX12_copyName_33 rfl (fun h10 => ?_)
    refine sm_iincL (i := 3) (j := 3) (x := a3) (d := (1 : Int32)) (fun x11 => [(3, vI x11), (0, vR (some a0)), (1, vI a1), (2, vI a2)]) (pc' := 37) dX12_copyName_34 rfl rfl (by decide) (by decide) (fun _ => rfl) (fun x11 => ?_)
    refine sm_goto (pc' := 2) dX12_copyName_37 (by decide) ?_
    refine sm_lo (lv' := [(0, vR (some a0)), (1, vI a1), (2, vI a2), (3, vI x11)]) [1, 2, 3, 0] rfl ?_
    exact ih a0 a1 a2 x11 h10
noncomputable def fX12_copyName  (a0 : Nat) (a1 : Int32) (a2 : Int32) (h : sm_H) : Option (Unit × sm_H) :=
  fX12_copyName_2 sm_fuel a0 a1 a2 (0 : Int32) h
set_option maxRecDepth 100000 in
set_option maxHeartbeats 4000000 in
theorem sX12_copyName_0 (l : Launch) (D : va_G) (aC : Nat → ClassId) (B : Nat)   (a0 : Nat) (a1 : Int32) (a2 : Int32) (h : sm_H) : zS l D aC B cX12_copyName 4 RX12 0 0 none "copyName" vlU (fX12_copyName a0 a1 a2 h) 0 [(0, vR (some a0)), (1, vI a1), (2, vI a2)] [] h := by
  unfold fX12_copyName
  refine sm_iconst (v := (0 : Int32)) (pc' := 1) dX12_copyName_0 rfl (by decide) ?_
  refine sm_istore_n (i := 3) (lv' := [(3, vI (0 : Int32)), (0, vR (some a0)), (1, vI a1), (2, vI a2)]) (pc' := 2) dX12_copyName_1 rfl rfl (by decide) rfl ?_
  refine sm_lo (lv' := [(0, vR (some a0)), (1, vI a1), (2, vI a2), (3, vI (0 : Int32))]) [1, 2, 3, 0] rfl ?_
  exact sX12_copyName_2 l D aC B   sm_fuel a0 a1 a2 (0 : Int32) h
set_option maxRecDepth 100000 in
theorem mX12_copyName (l : Launch) (D : va_G) (aC : Nat → ClassId) (B : Nat) (a0 : Nat) (a1 : Int32) (a2 : Int32) (h : sm_H) : sm_M l D vwCl gAts aC B gTs gNs gOs yX12_copyName cX12_copyName 4 none 0 0 vlU [vR (some a0), vI a1, vI a2] h (fX12_copyName a0 a1 a2 h) := sm_meth [vR (some a0), vI a1, vI a2] yY_yX12_copyName gG gN (Nat.le_of_ble_eq_true rfl) rfl (sX12_copyName_0 l D aC B a0 a1 a2 h)
-- M:TreeAgentModel.numberOf(II)J
noncomputable def fX12_numberOf  (a0 : Nat) (a1 : Int32) (a2 : Int32) (h : sm_H) : Option (Int64 × sm_H) :=
  (sm_R (sm_get h (some a0) 12 11)).bind fun x1 =>
  (sm_aI h x1 0 a1).bind fun x2 =>
  if x2 = (67 : Int32) then (
    (sm_R (sm_get h (some a0) 12 12)).bind fun x5 =>
    (sm_aI h x5 0 a1).bind fun x6 =>
    if x6 = (1 : Int32) then (
      (sm_R (sm_get h (some a0) 12 15)).bind fun x9 =>
      (sm_aI h x9 0 a1).bind fun x10 =>
      if 0 ≤ x10 then (
        (sm_R (sm_get h (some a0) 12 17)).bind fun x11 =>
        (sm_aJ h x11 1 a2).bind fun x12 =>
        some (x12, h)
      ) else
      (sm_J (sm_get h (some a0) 12 6)).bind fun x13 =>
      some (x13 &&& (4294967295 : Int64), h)
    ) else
    (sm_R (sm_get h (some a0) 12 17)).bind fun x7 =>
    (sm_aJ h x7 1 a2).bind fun x8 =>
    some (x8, h)
  ) else
  (sm_R (sm_get h (some a0) 12 17)).bind fun x3 =>
  (sm_aJ h x3 1 a2).bind fun x4 =>
  some (x4, h)
set_option maxRecDepth 100000 in
set_option maxHeartbeats 4000000 in
theorem sX12_numberOf_0 (l : Launch) (D : va_G) (aC : Nat → ClassId) (B : Nat)   (a0 : Nat) (a1 : Int32) (a2 : Int32) (h : sm_H) : zS l D aC B cX12_numberOf 3 RX12 0 0 (some .long) "numberOf" vlJ (fX12_numberOf a0 a1 a2 h) 0 [(0, vR (some a0)), (1, vI a1), (2, vI a2)] [] h := by
  unfold fX12_numberOf
  refine sm_aload_n (i := 0) (j := 0) (pc' := 1) dX12_numberOf_0 rfl rfl rfl ?_
  refine sm_getR (k := 11) (pc' := 4) kX12 (by decide) mw663 dX12_numberOf_1 rfl (fun x1 => ?_)
  refine sm_iload_n (i := 1) (j := 1) (pc' := 5) dX12_numberOf_4 rfl rfl rfl ?_
  refine sm_iald (t := 0) (pc' := 6) rfl dX12_numberOf_5 rfl (fun x2 => ?_)
  refine sm_bipush (v := (67 : Int32)) (pc' := 8) dX12_numberOf_6 rfl (by decide) ?_
  refine sm_icmp_ne (tgt := 41) (pc' := 11) dX12_numberOf_8 (by decide) rfl ?_ ?_
  · refine sm_aload_n (i := 0) (j := 0) (pc' := 42) dX12_numberOf_41 rfl rfl rfl ?_
    refine sm_getR (k := 17) (pc' := 45) kX12 (by decide) mw669 dX12_numberOf_42 rfl (fun x3 => ?_)
    refine sm_iload_n (i := 2) (j := 2) (pc' := 46) dX12_numberOf_45 rfl rfl rfl ?_
    refine sm_lald (t := 1) (pc' := 47) rfl dX12_numberOf_46 rfl (fun x4 => ?_)
    exact sm_lret rfl dX12_numberOf_47
  refine sm_aload_n (i := 0) (j := 0) (pc' := 12) dX12_numberOf_11 rfl rfl rfl ?_
  refine sm_getR (k := 12) (pc' := 15) kX12 (by decide) mw664 dX12_numberOf_12 rfl (fun x5 => ?_)
  refine sm_iload_n (i := 1) (j := 1) (pc' := 16) dX12_numberOf_15 rfl rfl rfl ?_
  refine sm_iald (t := 0) (pc' := 17) rfl dX12_numberOf_16 rfl (fun x6 => ?_)
  refine sm_iconst (v := (1 : Int32)) (pc' := 18) dX12_numberOf_17 rfl (by decide) ?_
  refine sm_icmp_ne (tgt := 41) (pc' := 21) dX12_numberOf_18 (by decide) rfl ?_ ?_
  · refine sm_aload_n (i := 0) (j := 0) (pc' := 42) dX12_numberOf_41 rfl rfl rfl ?_
    refine sm_getR (k := 17) (pc' := 45) kX12 (by decide) mw669 dX12_numberOf_42 rfl (fun x7 => ?_)
    refine sm_iload_n (i := 2) (j := 2) (pc' := 46) dX12_numberOf_45 rfl rfl rfl ?_
    refine sm_lald (t := 1) (pc' := 47) rfl dX12_numberOf_46 rfl (fun x8 => ?_)
    exact sm_lret rfl dX12_numberOf_47
  refine sm_aload_n (i := 0) (j := 0) (pc' := 22) dX12_numberOf_21 rfl rfl rfl ?_
  refine sm_getR (k := 15) (pc' := 25) kX12 (by decide) mw667 dX12_numberOf_22 rfl (fun x9 => ?_)
  refine sm_iload_n (i := 1) (j := 1) (pc' := 26) dX12_numberOf_25 rfl rfl rfl ?_
  refine sm_iald (t := 0) (pc' := 27) rfl dX12_numberOf_26 rfl (fun x10 => ?_)
  refine sm_if_ge (tgt := 41) (pc' := 30) dX12_numberOf_27 (by decide) rfl ?_ ?_
  · refine sm_aload_n (i := 0) (j := 0) (pc' := 42) dX12_numberOf_41 rfl rfl rfl ?_
    refine sm_getR (k := 17) (pc' := 45) kX12 (by decide) mw669 dX12_numberOf_42 rfl (fun x11 => ?_)
    refine sm_iload_n (i := 2) (j := 2) (pc' := 46) dX12_numberOf_45 rfl rfl rfl ?_
    refine sm_lald (t := 1) (pc' := 47) rfl dX12_numberOf_46 rfl (fun x12 => ?_)
    exact sm_lret rfl dX12_numberOf_47
  refine sm_aload_n (i := 0) (j := 0) (pc' := 31) dX12_numberOf_30 rfl rfl rfl ?_
  refine sm_getJ (k := 6) (pc' := 34) kX12 (by decide) mw754 dX12_numberOf_31 rfl (fun x13 => ?_)
  refine sm_ldc2 (v := (4294967295 : Int64)) (pc' := 37) dX12_numberOf_34 rfl mw705 ?_
  refine sm_land (pc' := 38) dX12_numberOf_37 rfl ?_
  refine sm_goto (pc' := 47) dX12_numberOf_38 (by decide) ?_
  exact sm_lret rfl dX12_numberOf_47
set_option maxRecDepth 100000 in
theorem mX12_numberOf (l : Launch) (D : va_G) (aC : Nat → ClassId) (B : Nat) (a0 : Nat) (a1 : Int32) (a2 : Int32) (h : sm_H) : sm_M l D vwCl gAts aC B gTs gNs gOs yX12_numberOf cX12_numberOf 3 (some .long) 0 0 vlJ [vR (some a0), vI a1, vI a2] h (fX12_numberOf a0 a1 a2 h) := sm_meth [vR (some a0), vI a1, vI a2] yY_yX12_numberOf gG gN (Nat.le_of_ble_eq_true rfl) rfl (sX12_numberOf_0 l D aC B a0 a1 a2 h)
-- M:TreeAgentModel.tell(III)V
noncomputable def fX12_tell_108  : Nat → Nat → Int32 → Int32 → Int32 → sm_H → Option (Unit × sm_H)
  | 0 => fun _ _ _ _ _ => none
  | n + 1 => fun a0 a1 a4 a5 h =>
    (sm_R (sm_get h (some a0) 12 21)).bind fun x1 =>
    (sm_aI h x1 0 a4).bind fun x2 =>
    if x2 ≤ a5 then (
      some ((), h)
    ) else
    (sm_R (sm_get h (some a0) 12 42)).bind fun x3 =>
    (sm_R (sm_get h (some a0) 12 20)).bind fun x4 =>
    (sm_aJ h x4 1 (((16 : Int32) * a4) + a5)).bind fun x5 =>
    (sm_sJ h x3 1 (((16 : Int32) * a1) + a5) x5).bind fun h6 =>
    sm_let (a5 + (1 : Int32)) fun x7 =>
    (fX12_tell_108 n) a0 a1 a4 x7 h6
set_option maxRecDepth 100000 in
set_option maxHeartbeats 4000000 in
theorem sX12_tell_108 (l : Launch) (D : va_G) (aC : Nat → ClassId) (B : Nat)   (n : Nat) : ∀ (a0 : Nat) (a1 : Int32) (a4 : Int32) (a5 : Int32) (h : sm_H), zS l D aC B cX12_tell 6 RX12 1 22 none "tell" vlU (fX12_tell_108 n a0 a1 a4 a5 h) 108 [(0, vR (some a0)), (1, vI a1), (4, vI a4), (5, vI a5)] [] h := by
  induction n with
  | zero => intro a0 a1 a4 a5 h; exact sm_none
  | succ n ih =>
    intro a0 a1 a4 a5 h
    show zS l D aC B cX12_tell 6 RX12 1 22 none "tell" vlU (fX12_tell_108 (n + 1) a0 a1 a4 a5 h) 108 [(0, vR (some a0)), (1, vI a1), (4, vI a4), (5, vI a5)] [] h
    unfold fX12_tell_108
    refine sm_iload (i := 5) (j := 3) (pc' := 110) dX12_tell_108 rfl rfl ?_
    refine sm_aload_n (i := 0) (j := 0) (pc' := 111) dX12_tell_110 rfl rfl rfl ?_
    refine sm_getR (k := 21) (pc' := 114) kX12 (by decide) mw673 dX12_tell_111 rfl (fun x1 => ?_)
    refine sm_iload (i := 4) (j := 2) (pc' := 116) dX12_tell_114 rfl rfl ?_
    refine sm_iald (t := 0) (pc' := 117) rfl dX12_tell_116 rfl (fun x2 => ?_)
    refine sm_icmp_ge (tgt := 151) (pc' := 120) dX12_tell_117 (by decide) rfl ?_ ?_
    · exact sm_vret rfl dX12_tell_151
    refine sm_aload_n (i := 0) (j := 0) (pc' := 121) dX12_tell_120 rfl rfl rfl ?_
    refine sm_getR (k := 42) (pc' := 124) kX12 (by decide) mw692 dX12_tell_121 rfl (fun x3 => ?_)
    refine sm_bipush (v := (16 : Int32)) (pc' := 126) dX12_tell_124 rfl (by decide) ?_
    refine sm_iload_n (i := 1) (j := 1) (pc' := 127) dX12_tell_126 rfl rfl rfl ?_
    refine sm_imul (pc' := 128) dX12_tell_127 rfl ?_
    refine sm_iload (i := 5) (j := 3) (pc' := 130) dX12_tell_128 rfl rfl ?_
    refine sm_iadd (pc' := 131) dX12_tell_130 rfl ?_
    refine sm_aload_n (i := 0) (j := 0) (pc' := 132) dX12_tell_131 rfl rfl rfl ?_
    refine sm_getR (k := 20) (pc' := 135) kX12 (by decide) mw672 dX12_tell_132 rfl (fun x4 => ?_)
    refine sm_bipush (v := (16 : Int32)) (pc' := 137) dX12_tell_135 rfl (by decide) ?_
    refine sm_iload (i := 4) (j := 2) (pc' := 139) dX12_tell_137 rfl rfl ?_
    refine sm_imul (pc' := 140) dX12_tell_139 rfl ?_
    refine sm_iload (i := 5) (j := 3) (pc' := 142) dX12_tell_140 rfl rfl ?_
    refine sm_iadd (pc' := 143) dX12_tell_142 rfl ?_
    refine sm_lald (t := 1) (pc' := 144) rfl dX12_tell_143 rfl (fun x5 => ?_)
    refine sm_last (t := 1) (pc' := 145) rfl dX12_tell_144 rfl (fun h6 => ?_)
    refine sm_iincL (i := 5) (j := 3) (x := a5) (d := (1 : Int32)) (fun x7 => [(5, vI x7), (0, vR (some a0)), (1, vI a1), (4, vI a4)]) (pc' := 148) dX12_tell_145 rfl rfl (by decide) (by decide) (fun _ => rfl) (fun x7 => ?_)
    refine sm_goto (pc' := 108) dX12_tell_148 (by decide) ?_
    refine sm_lo (lv' := [(0, vR (some a0)), (1, vI a1), (4, vI a4), (5, vI x7)]) [1, 2, 3, 0] rfl ?_
    exact ih a0 a1 a4 x7 h6
noncomputable def fX12_tell_49  : Nat → Nat → Int32 → Int32 → Int32 → sm_H → Option (Unit × sm_H)
  | 0 => fun _ _ _ _ _ => none
  | n + 1 => fun a0 a1 a4 a5 h =>
    (sm_R (sm_get h (some a0) 12 19)).bind fun x1 =>
    (sm_aI h x1 0 a4).bind fun x2 =>
    if x2 ≤ a5 then (
      (sm_R (sm_get h (some a0) 12 43)).bind fun x3 =>
      (sm_R (sm_get h (some a0) 12 21)).bind fun x4 =>
      (sm_aI h x4 0 a4).bind fun x5 =>
      (sm_sI h x3 0 a1 x5).bind fun h6 =>
      fX12_tell_108 sm_fuel a0 a1 a4 (0 : Int32) h6
    ) else
    (sm_R (sm_get h (some a0) 12 40)).bind fun x7 =>
    (sm_R (sm_get h (some a0) 12 18)).bind fun x8 =>
    (sm_aI h x8 3 (((40 : Int32) * a4) + a5)).bind fun x9 =>
    (sm_sI h x7 3 (((40 : Int32) * a1) + a5) (vp_nar .byte x9)).bind fun h10 =>
    sm_let (a5 + (1 : Int32)) fun x11 =>
    (fX12_tell_49 n) a0 a1 a4 x11 h10
set_option maxRecDepth 100000 in
set_option maxHeartbeats 4000000 in
theorem sX12_tell_49 (l : Launch) (D : va_G) (aC : Nat → ClassId) (B : Nat)   (n : Nat) : ∀ (a0 : Nat) (a1 : Int32) (a4 : Int32) (a5 : Int32) (h : sm_H), zS l D aC B cX12_tell 6 RX12 1 22 none "tell" vlU (fX12_tell_49 n a0 a1 a4 a5 h) 49 [(0, vR (some a0)), (1, vI a1), (4, vI a4), (5, vI a5)] [] h := by
  induction n with
  | zero => intro a0 a1 a4 a5 h; exact sm_none
  | succ n ih =>
    intro a0 a1 a4 a5 h
    show zS l D aC B cX12_tell 6 RX12 1 22 none "tell" vlU (fX12_tell_49 (n + 1) a0 a1 a4 a5 h) 49 [(0, vR (some a0)), (1, vI a1), (4, vI a4), (5, vI a5)] [] h
    unfold fX12_tell_49
    refine sm_iload (i := 5) (j := 3) (pc' := 51) dX12_tell_49 rfl rfl ?_
    refine sm_aload_n (i := 0) (j := 0) (pc' := 52) dX12_tell_51 rfl rfl rfl ?_
    refine sm_getR (k := 19) (pc' := 55) kX12 (by decide) mw671 dX12_tell_52 rfl (fun x1 => ?_)
    refine sm_iload (i := 4) (j := 2) (pc' := 57) dX12_tell_55 rfl rfl ?_
    refine sm_iald (t := 0) (pc' := 58) rfl dX12_tell_57 rfl (fun x2 => ?_)
    refine sm_icmp_ge (tgt := 92) (pc' := 61) dX12_tell_58 (by decide) rfl ?_ ?_
    · refine sm_aload_n (i := 0) (j := 0) (pc' := 93) dX12_tell_92 rfl rfl rfl ?_
      refine sm_getR (k := 43) (pc' := 96) kX12 (by decide) mw693 dX12_tell_93 rfl (fun x3 => ?_)
      refine sm_iload_n (i := 1) (j := 1) (pc' := 97) dX12_tell_96 rfl rfl rfl ?_
      refine sm_aload_n (i := 0) (j := 0) (pc' := 98) dX12_tell_97 rfl rfl rfl ?_
      refine sm_getR (k := 21) (pc' := 101) kX12 (by decide) mw673 dX12_tell_98 rfl (fun x4 => ?_)
      refine sm_iload (i := 4) (j := 2) (pc' := 103) dX12_tell_101 rfl rfl ?_
      refine sm_iald (t := 0) (pc' := 104) rfl dX12_tell_103 rfl (fun x5 => ?_)
      refine sm_iast (t := 0) (pc' := 105) rfl dX12_tell_104 rfl (fun h6 => ?_)
      refine sm_iconst (v := (0 : Int32)) (pc' := 106) dX12_tell_105 rfl (by decide) ?_
      refine sm_istore (i := 5) (lv' := [(5, vI (0 : Int32)), (0, vR (some a0)), (1, vI a1), (4, vI a4)]) (pc' := 108) dX12_tell_106 rfl (by decide) rfl ?_
      refine sm_lo (lv' := [(0, vR (some a0)), (1, vI a1), (4, vI a4), (5, vI (0 : Int32))]) [1, 2, 3, 0] rfl ?_
      exact sX12_tell_108 l D aC B   sm_fuel a0 a1 a4 (0 : Int32) h6
    refine sm_aload_n (i := 0) (j := 0) (pc' := 62) dX12_tell_61 rfl rfl rfl ?_
    refine sm_getR (k := 40) (pc' := 65) kX12 (by decide) mw690 dX12_tell_62 rfl (fun x7 => ?_)
    refine sm_bipush (v := (40 : Int32)) (pc' := 67) dX12_tell_65 rfl (by decide) ?_
    refine sm_iload_n (i := 1) (j := 1) (pc' := 68) dX12_tell_67 rfl rfl rfl ?_
    refine sm_imul (pc' := 69) dX12_tell_68 rfl ?_
    refine sm_iload (i := 5) (j := 3) (pc' := 71) dX12_tell_69 rfl rfl ?_
    refine sm_iadd (pc' := 72) dX12_tell_71 rfl ?_
    refine sm_aload_n (i := 0) (j := 0) (pc' := 73) dX12_tell_72 rfl rfl rfl ?_
    refine sm_getR (k := 18) (pc' := 76) kX12 (by decide) mw670 dX12_tell_73 rfl (fun x8 => ?_)
    refine sm_bipush (v := (40 : Int32)) (pc' := 78) dX12_tell_76 rfl (by decide) ?_
    refine sm_iload (i := 4) (j := 2) (pc' := 80) dX12_tell_78 rfl rfl ?_
    refine sm_imul (pc' := 81) dX12_tell_80 rfl ?_
    refine sm_iload (i := 5) (j := 3) (pc' := 83) dX12_tell_81 rfl rfl ?_
    refine sm_iadd (pc' := 84) dX12_tell_83 rfl ?_
    refine sm_bald (t := 3) (pc' := 85) rfl dX12_tell_84 rfl (fun x9 => ?_)
    refine sm_bast (t := 3) (pc' := 86) rfl dX12_tell_85 rfl (fun h10 => ?_)
    refine sm_iincL (i := 5) (j := 3) (x := a5) (d := (1 : Int32)) (fun x11 => [(5, vI x11), (0, vR (some a0)), (1, vI a1), (4, vI a4)]) (pc' := 89) dX12_tell_86 rfl rfl (by decide) (by decide) (fun _ => rfl) (fun x11 => ?_)
    refine sm_goto (pc' := 49) dX12_tell_89 (by decide) ?_
    refine sm_lo (lv' := [(0, vR (some a0)), (1, vI a1), (4, vI a4), (5, vI x11)]) [1, 2, 3, 0] rfl ?_
    exact ih a0 a1 a4 x11 h10
noncomputable def fX12_tell  (a0 : Nat) (a1 : Int32) (a2 : Int32) (a3 : Int32) (h : sm_H) : Option (Unit × sm_H) :=
  sm_let (((16 : Int32) * a2) + a3) fun x1 =>
  (sm_R (sm_get h (some a0) 12 38)).bind fun x2 =>
  (sm_R (sm_get h (some a0) 12 11)).bind fun x3 =>
  (sm_aI h x3 0 a2).bind fun x4 =>
  (sm_sI h x2 0 a1 x4).bind fun h5 =>
  (sm_R (sm_get h5 (some a0) 12 39)).bind fun x6 =>
  (sm_obj h5 (some a0) 12).bind fun b14 =>
  sm_cb (fX12_numberOf b14 a2 x1 h5) fun x7 h8 =>
  (sm_sJ h8 x6 1 a1 x7).bind fun h9 =>
  (sm_R (sm_get h9 (some a0) 12 41)).bind fun x10 =>
  (sm_R (sm_get h9 (some a0) 12 19)).bind fun x11 =>
  (sm_aI h9 x11 0 x1).bind fun x12 =>
  (sm_sI h9 x10 0 a1 x12).bind fun h13 =>
  fX12_tell_49 sm_fuel a0 a1 x1 (0 : Int32) h13
set_option maxRecDepth 100000 in
set_option maxHeartbeats 4000000 in
theorem sX12_tell_0 (l : Launch) (D : va_G) (aC : Nat → ClassId) (B : Nat)   (a0 : Nat) (a1 : Int32) (a2 : Int32) (a3 : Int32) (h : sm_H) : zS l D aC B cX12_tell 6 RX12 1 22 none "tell" vlU (fX12_tell a0 a1 a2 a3 h) 0 [(0, vR (some a0)), (1, vI a1), (2, vI a2), (3, vI a3)] [] h := by
  unfold fX12_tell
  refine sm_bipush (v := (16 : Int32)) (pc' := 2) dX12_tell_0 rfl (by decide) ?_
  refine sm_iload_n (i := 2) (j := 2) (pc' := 3) dX12_tell_2 rfl rfl rfl ?_
  refine sm_imul (pc' := 4) dX12_tell_3 rfl ?_
  refine sm_iload_n (i := 3) (j := 3) (pc' := 5) dX12_tell_4 rfl rfl rfl ?_
  refine sm_iadd (pc' := 6) dX12_tell_5 rfl ?_
  refine sm_letIv (fun x1 => ?_)
  refine sm_istore (i := 4) (lv' := [(4, vI x1), (0, vR (some a0)), (1, vI a1), (2, vI a2), (3, vI a3)]) (pc' := 8) dX12_tell_6 rfl (by decide) rfl ?_
  refine sm_aload_n (i := 0) (j := 1) (pc' := 9) dX12_tell_8 rfl rfl rfl ?_
  refine sm_getR (k := 38) (pc' := 12) kX12 (by decide) mw688 dX12_tell_9 rfl (fun x2 => ?_)
  refine sm_iload_n (i := 1) (j := 2) (pc' := 13) dX12_tell_12 rfl rfl rfl ?_
  refine sm_aload_n (i := 0) (j := 1) (pc' := 14) dX12_tell_13 rfl rfl rfl ?_
  refine sm_getR (k := 11) (pc' := 17) kX12 (by decide) mw663 dX12_tell_14 rfl (fun x3 => ?_)
  refine sm_iload_n (i := 2) (j := 3) (pc' := 18) dX12_tell_17 rfl rfl rfl ?_
  refine sm_iald (t := 0) (pc' := 19) rfl dX12_tell_18 rfl (fun x4 => ?_)
  refine sm_iast (t := 0) (pc' := 20) rfl dX12_tell_19 rfl (fun h5 => ?_)
  refine sm_aload_n (i := 0) (j := 1) (pc' := 21) dX12_tell_20 rfl rfl rfl ?_
  refine sm_getR (k := 39) (pc' := 24) kX12 (by decide) mw689 dX12_tell_21 rfl (fun x6 => ?_)
  refine sm_iload_n (i := 1) (j := 2) (pc' := 25) dX12_tell_24 rfl rfl rfl ?_
  refine sm_aload_n (i := 0) (j := 1) (pc' := 26) dX12_tell_25 rfl rfl rfl ?_
  refine sm_iload_n (i := 2) (j := 3) (pc' := 27) dX12_tell_26 rfl rfl rfl ?_
  refine sm_iload (i := 4) (j := 0) (pc' := 29) dX12_tell_27 rfl rfl ?_
  refine sm_cVJ (pc' := 32) (ci := 12) (st := [vI a1, vR x6]) (F := fun b => fX12_numberOf b a2 x1 h5) [vI a2, vI x1] yY_yX12_numberOf rfl mw797 mw798 mw799 (fun b => mX12_numberOf l D aC B b a2 x1 h5) rfl (by decide) (by decide) (by exact Nat.le_of_ble_eq_true rfl) rfl dX12_tell_29 rfl (fun x7 h8 => ?_)
  refine sm_last (t := 1) (pc' := 33) rfl dX12_tell_32 rfl (fun h9 => ?_)
  refine sm_aload_n (i := 0) (j := 1) (pc' := 34) dX12_tell_33 rfl rfl rfl ?_
  refine sm_getR (k := 41) (pc' := 37) kX12 (by decide) mw691 dX12_tell_34 rfl (fun x10 => ?_)
  refine sm_iload_n (i := 1) (j := 2) (pc' := 38) dX12_tell_37 rfl rfl rfl ?_
  refine sm_aload_n (i := 0) (j := 1) (pc' := 39) dX12_tell_38 rfl rfl rfl ?_
  refine sm_getR (k := 19) (pc' := 42) kX12 (by decide) mw671 dX12_tell_39 rfl (fun x11 => ?_)
  refine sm_iload (i := 4) (j := 0) (pc' := 44) dX12_tell_42 rfl rfl ?_
  refine sm_iald (t := 0) (pc' := 45) rfl dX12_tell_44 rfl (fun x12 => ?_)
  refine sm_iast (t := 0) (pc' := 46) rfl dX12_tell_45 rfl (fun h13 => ?_)
  refine sm_iconst (v := (0 : Int32)) (pc' := 47) dX12_tell_46 rfl (by decide) ?_
  refine sm_istore (i := 5) (lv' := [(5, vI (0 : Int32)), (4, vI x1), (0, vR (some a0)), (1, vI a1), (2, vI a2), (3, vI a3)]) (pc' := 49) dX12_tell_47 rfl (by decide) rfl ?_
  refine sm_lo (lv' := [(0, vR (some a0)), (1, vI a1), (4, vI x1), (5, vI (0 : Int32))]) [2, 3, 1, 0] rfl ?_
  exact sX12_tell_49 l D aC B   sm_fuel a0 a1 x1 (0 : Int32) h13
set_option maxRecDepth 100000 in
theorem mX12_tell (l : Launch) (D : va_G) (aC : Nat → ClassId) (B : Nat) (a0 : Nat) (a1 : Int32) (a2 : Int32) (a3 : Int32) (h : sm_H) : sm_M l D vwCl gAts aC B gTs gNs gOs yX12_tell cX12_tell 6 none 1 22 vlU [vR (some a0), vI a1, vI a2, vI a3] h (fX12_tell a0 a1 a2 a3 h) := sm_meth [vR (some a0), vI a1, vI a2, vI a3] yY_yX12_tell gG gN (Nat.le_of_ble_eq_true rfl) rfl (sX12_tell_0 l D aC B a0 a1 a2 a3 h)
-- M:TreeAgentModel.get(II)V
noncomputable def fX12_get_155  (a0 : Nat) (a2 : Int32) (a3 : Int32) (a4 : Int32) (h : sm_H) : Option (Unit × sm_H) :=
  (sm_R (sm_get h (some a0) 12 38)).bind fun x1 =>
  if a3 < 0 then (
    (sm_sI h x1 0 a2 (128 : Int32)).bind fun h2 =>
    some ((), h2)
  ) else
  if a4 = 0 then (
    (sm_sI h x1 0 a2 (128 : Int32)).bind fun h3 =>
    some ((), h3)
  ) else
  (sm_sI h x1 0 a2 (129 : Int32)).bind fun h4 =>
  some ((), h4)
set_option maxRecDepth 100000 in
set_option maxHeartbeats 4000000 in
theorem sX12_get_155 (l : Launch) (D : va_G) (aC : Nat → ClassId) (B : Nat)   (a0 : Nat) (a2 : Int32) (a3 : Int32) (a4 : Int32) (h : sm_H) : zS l D aC B cX12_get 8 RX12 2 53 none "get" vlU (fX12_get_155 a0 a2 a3 a4 h) 155 [(0, vR (some a0)), (2, vI a2), (3, vI a3), (4, vI a4)] [] h := by
  unfold fX12_get_155
  refine sm_aload_n (i := 0) (j := 0) (pc' := 156) dX12_get_155 rfl rfl rfl ?_
  refine sm_getR (k := 38) (pc' := 159) kX12 (by decide) mw688 dX12_get_156 rfl (fun x1 => ?_)
  refine sm_iload_n (i := 2) (j := 1) (pc' := 160) dX12_get_159 rfl rfl rfl ?_
  refine sm_iload_n (i := 3) (j := 2) (pc' := 161) dX12_get_160 rfl rfl rfl ?_
  refine sm_if_lt (tgt := 175) (pc' := 164) dX12_get_161 (by decide) rfl ?_ ?_
  · refine sm_sipush (v := (128 : Int32)) (pc' := 178) dX12_get_175 rfl (by decide) ?_
    refine sm_iast (t := 0) (pc' := 179) rfl dX12_get_178 rfl (fun h2 => ?_)
    exact sm_vret rfl dX12_get_179
  refine sm_iload (i := 4) (j := 3) (pc' := 166) dX12_get_164 rfl rfl ?_
  refine sm_if_eq (tgt := 175) (pc' := 169) dX12_get_166 (by decide) rfl ?_ ?_
  · refine sm_sipush (v := (128 : Int32)) (pc' := 178) dX12_get_175 rfl (by decide) ?_
    refine sm_iast (t := 0) (pc' := 179) rfl dX12_get_178 rfl (fun h3 => ?_)
    exact sm_vret rfl dX12_get_179
  refine sm_sipush (v := (129 : Int32)) (pc' := 172) dX12_get_169 rfl (by decide) ?_
  refine sm_goto (pc' := 178) dX12_get_172 (by decide) ?_
  refine sm_iast (t := 0) (pc' := 179) rfl dX12_get_178 rfl (fun h4 => ?_)
  exact sm_vret rfl dX12_get_179
noncomputable def fX12_get_139  (a0 : Nat) (a2 : Int32) (a3 : Int32) (a4 : Int32) (s0 : Int32) (h : sm_H) : Option (Unit × sm_H) :=
  if s0 < 0 then (
    fX12_get_155 a0 a2 a3 a4 h
  ) else
  (sm_obj h (some a0) 12).bind fun b2 =>
  sm_cb (fX12_tell b2 a2 a3 s0 h) fun _ h1 =>
  some ((), h1)
set_option maxRecDepth 100000 in
set_option maxHeartbeats 4000000 in
theorem sX12_get_139 (l : Launch) (D : va_G) (aC : Nat → ClassId) (B : Nat)   (a0 : Nat) (a2 : Int32) (a3 : Int32) (a4 : Int32) (s0 : Int32) (h : sm_H) : zS l D aC B cX12_get 8 RX12 2 53 none "get" vlU (fX12_get_139 a0 a2 a3 a4 s0 h) 139 [(0, vR (some a0)), (2, vI a2), (3, vI a3), (4, vI a4)] [vI s0] h := by
  unfold fX12_get_139
  refine sm_istore (i := 7) (lv' := [(7, vI s0), (0, vR (some a0)), (2, vI a2), (3, vI a3), (4, vI a4)]) (pc' := 141) dX12_get_139 rfl (by decide) rfl ?_
  refine sm_iload (i := 7) (j := 0) (pc' := 143) dX12_get_141 rfl rfl ?_
  refine sm_if_lt (tgt := 155) (pc' := 146) dX12_get_143 (by decide) rfl ?_ ?_
  · refine sm_lo (lv' := [(0, vR (some a0)), (2, vI a2), (3, vI a3), (4, vI a4)]) [1, 2, 3, 4] rfl ?_
    exact sX12_get_155 l D aC B  a0 a2 a3 a4 h
  refine sm_aload_n (i := 0) (j := 1) (pc' := 147) dX12_get_146 rfl rfl rfl ?_
  refine sm_iload_n (i := 2) (j := 2) (pc' := 148) dX12_get_147 rfl rfl rfl ?_
  refine sm_iload_n (i := 3) (j := 3) (pc' := 149) dX12_get_148 rfl rfl rfl ?_
  refine sm_iload (i := 7) (j := 0) (pc' := 151) dX12_get_149 rfl rfl ?_
  refine sm_cVU (pc' := 154) (ci := 12) (st := []) (F := fun b => fX12_tell b a2 a3 s0 h) [vI a2, vI a3, vI s0] yY_yX12_tell rfl mw800 mw801 mw802 (fun b => mX12_tell l D aC B b a2 a3 s0 h) rfl (by decide) (by decide) (by exact Nat.le_of_ble_eq_true rfl) rfl dX12_get_151 rfl (fun _ h1 => ?_)
  exact sm_vret rfl dX12_get_154
noncomputable def fX12_get  (a0 : Nat) (a1 : Int32) (a2 : Int32) (h : sm_H) : Option (Unit × sm_H) :=
  (sm_obj h (some a0) 12).bind fun b29 =>
  sm_cb (fX12_copyName b29 a1 a2 h) fun _ h1 =>
  (sm_R (sm_get h1 (some a0) 12 36)).bind fun x2 =>
  (sm_R (sm_get h1 (some a0) 12 37)).bind fun x3 =>
  (sm_aI h1 x3 0 a1).bind fun x4 =>
  (sm_obj h1 (some a0) 12).bind fun b28 =>
  sm_cb (fX12_objectOf b28 x2 ((16 : Int32) * a1) x4 (1 : Int32) h1) fun x5 h6 =>
  (sm_R (sm_get h6 (some a0) 12 36)).bind fun x7 =>
  (sm_R (sm_get h6 (some a0) 12 37)).bind fun x8 =>
  (sm_aI h6 x8 0 a1).bind fun x9 =>
  (sm_obj h6 (some a0) 12).bind fun b27 =>
  sm_cb (fX12_inView b27 x7 ((16 : Int32) * a1) x9 h6) fun x10 h11 =>
  if x5 < 0 then (
    fX12_get_155 a0 a2 x5 x10 h11
  ) else
  if x10 = 0 then (
    fX12_get_155 a0 a2 x5 x10 h11
  ) else
  (sm_R (sm_get h11 (some a0) 12 37)).bind fun x12 =>
  (sm_aI h11 x12 0 a1).bind fun x13 =>
  (sm_R (sm_get h11 (some a0) 12 10)).bind fun x14 =>
  (sm_aI h11 x14 0 x5).bind fun x15 =>
  if x13 = (x15 + (1 : Int32)) then (
    (sm_R (sm_get h11 (some a0) 12 36)).bind fun x16 =>
    (sm_R (sm_get h11 (some a0) 12 10)).bind fun x17 =>
    (sm_aI h11 x17 0 x5).bind fun x18 =>
    (sm_aJ h11 x16 1 (((16 : Int32) * a1) + x18)).bind fun x19 =>
    (sm_R (sm_get h11 (some a0) 12 15)).bind fun x20 =>
    (sm_aI h11 x20 0 x5).bind fun x21 =>
    if 0 ≤ x21 then (
      if (lg_cmp x19 (2147483647 : Int64)) ≤ 0 then (
        (sm_R (sm_get h11 (some a0) 12 15)).bind fun x22 =>
        (sm_aI h11 x22 0 x5).bind fun x23 =>
        (sm_obj h11 (some a0) 12).bind fun b26 =>
        sm_cb (fX12_placeOf b26 x23 x19 h11) fun x24 h25 =>
        fX12_get_139 a0 a2 x5 x10 x24 h25
      ) else
      fX12_get_139 a0 a2 x5 x10 (-1 : Int32) h11
    ) else
    if (lg_cmp x19 (0 : Int64)) = 0 then (
      fX12_get_139 a0 a2 x5 x10 (0 : Int32) h11
    ) else
    fX12_get_139 a0 a2 x5 x10 (-1 : Int32) h11
  ) else
  fX12_get_155 a0 a2 x5 x10 h11
set_option maxRecDepth 100000 in
set_option maxHeartbeats 4000000 in
theorem sX12_get_0 (l : Launch) (D : va_G) (aC : Nat → ClassId) (B : Nat)   (a0 : Nat) (a1 : Int32) (a2 : Int32) (h : sm_H) : zS l D aC B cX12_get 8 RX12 2 53 none "get" vlU (fX12_get a0 a1 a2 h) 0 [(0, vR (some a0)), (1, vI a1), (2, vI a2)] [] h := by
  unfold fX12_get
  refine sm_aload_n (i := 0) (j := 0) (pc' := 1) dX12_get_0 rfl rfl rfl ?_
  refine sm_iload_n (i := 1) (j := 1) (pc' := 2) dX12_get_1 rfl rfl rfl ?_
  refine sm_iload_n (i := 2) (j := 2) (pc' := 3) dX12_get_2 rfl rfl rfl ?_
  refine sm_cVU (pc' := 6) (ci := 12) (st := []) (F := fun b => fX12_copyName b a1 a2 h) [vI a1, vI a2] yY_yX12_copyName rfl mw803 mw810 mw811 (fun b => mX12_copyName l D aC B b a1 a2 h) rfl (by decide) (by decide) (by exact Nat.le_of_ble_eq_true rfl) rfl dX12_get_3 rfl (fun _ h1 => ?_)
  refine sm_aload_n (i := 0) (j := 0) (pc' := 7) dX12_get_6 rfl rfl rfl ?_
  refine sm_aload_n (i := 0) (j := 0) (pc' := 8) dX12_get_7 rfl rfl rfl ?_
  refine sm_getR (k := 36) (pc' := 11) kX12 (by decide) mw686 dX12_get_8 rfl (fun x2 => ?_)
  refine sm_bipush (v := (16 : Int32)) (pc' := 13) dX12_get_11 rfl (by decide) ?_
  refine sm_iload_n (i := 1) (j := 1) (pc' := 14) dX12_get_13 rfl rfl rfl ?_
  refine sm_imul (pc' := 15) dX12_get_14 rfl ?_
  refine sm_aload_n (i := 0) (j := 0) (pc' := 16) dX12_get_15 rfl rfl rfl ?_
  refine sm_getR (k := 37) (pc' := 19) kX12 (by decide) mw687 dX12_get_16 rfl (fun x3 => ?_)
  refine sm_iload_n (i := 1) (j := 1) (pc' := 20) dX12_get_19 rfl rfl rfl ?_
  refine sm_iald (t := 0) (pc' := 21) rfl dX12_get_20 rfl (fun x4 => ?_)
  refine sm_iconst (v := (1 : Int32)) (pc' := 22) dX12_get_21 rfl (by decide) ?_
  refine sm_cVI (pc' := 25) (ci := 12) (st := []) (F := fun b => fX12_objectOf b x2 ((16 : Int32) * a1) x4 (1 : Int32) h1) [vR x2, vI ((16 : Int32) * a1), vI x4, vI (1 : Int32)] yY_yX12_objectOf rfl mw804 mw808 mw809 (fun b => mX12_objectOf l D aC B b x2 ((16 : Int32) * a1) x4 (1 : Int32) h1) rfl (by decide) (by decide) (by exact Nat.le_of_ble_eq_true rfl) rfl dX12_get_22 rfl (fun x5 h6 => ?_)
  refine sm_istore_n (i := 3) (lv' := [(3, vI x5), (0, vR (some a0)), (1, vI a1), (2, vI a2)]) (pc' := 26) dX12_get_25 rfl rfl (by decide) rfl ?_
  refine sm_aload_n (i := 0) (j := 1) (pc' := 27) dX12_get_26 rfl rfl rfl ?_
  refine sm_aload_n (i := 0) (j := 1) (pc' := 28) dX12_get_27 rfl rfl rfl ?_
  refine sm_getR (k := 36) (pc' := 31) kX12 (by decide) mw686 dX12_get_28 rfl (fun x7 => ?_)
  refine sm_bipush (v := (16 : Int32)) (pc' := 33) dX12_get_31 rfl (by decide) ?_
  refine sm_iload_n (i := 1) (j := 2) (pc' := 34) dX12_get_33 rfl rfl rfl ?_
  refine sm_imul (pc' := 35) dX12_get_34 rfl ?_
  refine sm_aload_n (i := 0) (j := 1) (pc' := 36) dX12_get_35 rfl rfl rfl ?_
  refine sm_getR (k := 37) (pc' := 39) kX12 (by decide) mw687 dX12_get_36 rfl (fun x8 => ?_)
  refine sm_iload_n (i := 1) (j := 2) (pc' := 40) dX12_get_39 rfl rfl rfl ?_
  refine sm_iald (t := 0) (pc' := 41) rfl dX12_get_40 rfl (fun x9 => ?_)
  refine sm_cVI (pc' := 44) (ci := 12) (st := []) (F := fun b => fX12_inView b x7 ((16 : Int32) * a1) x9 h6) [vR x7, vI ((16 : Int32) * a1), vI x9] yY_yX12_inView rfl mw805 mw806 mw807 (fun b => mX12_inView l D aC B b x7 ((16 : Int32) * a1) x9 h6) rfl (by decide) (by decide) (by exact Nat.le_of_ble_eq_true rfl) rfl dX12_get_41 rfl (fun x10 h11 => ?_)
  refine sm_istore (i := 4) (lv' := [(4, vI x10), (3, vI x5), (0, vR (some a0)), (1, vI a1), (2, vI a2)]) (pc' := 46) dX12_get_44 rfl (by decide) rfl ?_
  refine sm_iload_n (i := 3) (j := 1) (pc' := 47) dX12_get_46 rfl rfl rfl ?_
  refine sm_if_lt (tgt := 155) (pc' := 50) dX12_get_47 (by decide) rfl ?_ ?_
  · refine sm_lo (lv' := [(0, vR (some a0)), (2, vI a2), (3, vI x5), (4, vI x10)]) [2, 4, 1, 0] rfl ?_
    exact sX12_get_155 l D aC B  a0 a2 x5 x10 h11
  refine sm_iload (i := 4) (j := 0) (pc' := 52) dX12_get_50 rfl rfl ?_
  refine sm_if_eq (tgt := 155) (pc' := 55) dX12_get_52 (by decide) rfl ?_ ?_
  · refine sm_lo (lv' := [(0, vR (some a0)), (2, vI a2), (3, vI x5), (4, vI x10)]) [2, 4, 1, 0] rfl ?_
    exact sX12_get_155 l D aC B  a0 a2 x5 x10 h11
  refine sm_aload_n (i := 0) (j := 2) (pc' := 56) dX12_get_55 rfl rfl rfl ?_
  refine sm_getR (k := 37) (pc' := 59) kX12 (by decide) mw687 dX12_get_56 rfl (fun x12 => ?_)
  refine sm_iload_n (i := 1) (j := 3) (pc' := 60) dX12_get_59 rfl rfl rfl ?_
  refine sm_iald (t := 0) (pc' := 61) rfl dX12_get_60 rfl (fun x13 => ?_)
  refine sm_aload_n (i := 0) (j := 2) (pc' := 62) dX12_get_61 rfl rfl rfl ?_
  refine sm_getR (k := 10) (pc' := 65) kX12 (by decide) mw662 dX12_get_62 rfl (fun x14 => ?_)
  refine sm_iload_n (i := 3) (j := 1) (pc' := 66) dX12_get_65 rfl rfl rfl ?_
  refine sm_iald (t := 0) (pc' := 67) rfl dX12_get_66 rfl (fun x15 => ?_)
  refine sm_iconst (v := (1 : Int32)) (pc' := 68) dX12_get_67 rfl (by decide) ?_
  refine sm_iadd (pc' := 69) dX12_get_68 rfl ?_
  refine sm_icmp_ne (tgt := 155) (pc' := 72) dX12_get_69 (by decide) rfl ?_ ?_
  · refine sm_lo (lv' := [(0, vR (some a0)), (2, vI a2), (3, vI x5), (4, vI x10)]) [2, 4, 1, 0] rfl ?_
    exact sX12_get_155 l D aC B  a0 a2 x5 x10 h11
  refine sm_aload_n (i := 0) (j := 2) (pc' := 73) dX12_get_72 rfl rfl rfl ?_
  refine sm_getR (k := 36) (pc' := 76) kX12 (by decide) mw686 dX12_get_73 rfl (fun x16 => ?_)
  refine sm_bipush (v := (16 : Int32)) (pc' := 78) dX12_get_76 rfl (by decide) ?_
  refine sm_iload_n (i := 1) (j := 3) (pc' := 79) dX12_get_78 rfl rfl rfl ?_
  refine sm_imul (pc' := 80) dX12_get_79 rfl ?_
  refine sm_aload_n (i := 0) (j := 2) (pc' := 81) dX12_get_80 rfl rfl rfl ?_
  refine sm_getR (k := 10) (pc' := 84) kX12 (by decide) mw662 dX12_get_81 rfl (fun x17 => ?_)
  refine sm_iload_n (i := 3) (j := 1) (pc' := 85) dX12_get_84 rfl rfl rfl ?_
  refine sm_iald (t := 0) (pc' := 86) rfl dX12_get_85 rfl (fun x18 => ?_)
  refine sm_iadd (pc' := 87) dX12_get_86 rfl ?_
  refine sm_lald (t := 1) (pc' := 88) rfl dX12_get_87 rfl (fun x19 => ?_)
  refine sm_lstore (i := 5) (lv' := [(5, vJ x19), (4, vI x10), (3, vI x5), (0, vR (some a0)), (1, vI a1), (2, vI a2)]) (pc' := 90) dX12_get_88 rfl (by decide) rfl ?_
  refine sm_aload_n (i := 0) (j := 3) (pc' := 91) dX12_get_90 rfl rfl rfl ?_
  refine sm_getR (k := 15) (pc' := 94) kX12 (by decide) mw667 dX12_get_91 rfl (fun x20 => ?_)
  refine sm_iload_n (i := 3) (j := 2) (pc' := 95) dX12_get_94 rfl rfl rfl ?_
  refine sm_iald (t := 0) (pc' := 96) rfl dX12_get_95 rfl (fun x21 => ?_)
  refine sm_if_ge (tgt := 114) (pc' := 99) dX12_get_96 (by decide) rfl ?_ ?_
  · refine sm_lload (i := 5) (j := 0) (pc' := 116) dX12_get_114 rfl rfl ?_
    refine sm_ldc2 (v := (2147483647 : Int64)) (pc' := 119) dX12_get_116 rfl mw742 ?_
    refine sm_lcmp (pc' := 120) dX12_get_119 rfl ?_
    refine sm_if_le (tgt := 127) (pc' := 123) dX12_get_120 (by decide) rfl ?_ ?_
    · refine sm_aload_n (i := 0) (j := 3) (pc' := 128) dX12_get_127 rfl rfl rfl ?_
      refine sm_aload_n (i := 0) (j := 3) (pc' := 129) dX12_get_128 rfl rfl rfl ?_
      refine sm_getR (k := 15) (pc' := 132) kX12 (by decide) mw667 dX12_get_129 rfl (fun x22 => ?_)
      refine sm_iload_n (i := 3) (j := 2) (pc' := 133) dX12_get_132 rfl rfl rfl ?_
      refine sm_iald (t := 0) (pc' := 134) rfl dX12_get_133 rfl (fun x23 => ?_)
      refine sm_lload (i := 5) (j := 0) (pc' := 136) dX12_get_134 rfl rfl ?_
      refine sm_cVI (pc' := 139) (ci := 12) (st := []) (F := fun b => fX12_placeOf b x23 x19 h11) [vI x23, vJ x19] yY_yX12_placeOf rfl mw736 mw737 mw738 (fun b => mX12_placeOf l D aC B b x23 x19 h11) rfl (by decide) (by decide) (by exact Nat.le_of_ble_eq_true rfl) rfl dX12_get_136 rfl (fun x24 h25 => ?_)
      refine sm_lo (lv' := [(0, vR (some a0)), (2, vI a2), (3, vI x5), (4, vI x10)]) [3, 5, 2, 1] rfl ?_
      exact sX12_get_139 l D aC B  a0 a2 x5 x10 x24 h25
    refine sm_iconst (v := (-1 : Int32)) (pc' := 124) dX12_get_123 rfl (by decide) ?_
    refine sm_goto (pc' := 139) dX12_get_124 (by decide) ?_
    refine sm_lo (lv' := [(0, vR (some a0)), (2, vI a2), (3, vI x5), (4, vI x10)]) [3, 5, 2, 1] rfl ?_
    exact sX12_get_139 l D aC B  a0 a2 x5 x10 (-1 : Int32) h11
  refine sm_lload (i := 5) (j := 0) (pc' := 101) dX12_get_99 rfl rfl ?_
  refine sm_lconst (v := (0 : Int64)) (pc' := 102) dX12_get_101 rfl (by decide) ?_
  refine sm_lcmp (pc' := 103) dX12_get_102 rfl ?_
  refine sm_if_ne (tgt := 110) (pc' := 106) dX12_get_103 (by decide) rfl ?_ ?_
  · refine sm_iconst (v := (-1 : Int32)) (pc' := 111) dX12_get_110 rfl (by decide) ?_
    refine sm_goto (pc' := 139) dX12_get_111 (by decide) ?_
    refine sm_lo (lv' := [(0, vR (some a0)), (2, vI a2), (3, vI x5), (4, vI x10)]) [3, 5, 2, 1] rfl ?_
    exact sX12_get_139 l D aC B  a0 a2 x5 x10 (-1 : Int32) h11
  refine sm_iconst (v := (0 : Int32)) (pc' := 107) dX12_get_106 rfl (by decide) ?_
  refine sm_goto (pc' := 139) dX12_get_107 (by decide) ?_
  refine sm_lo (lv' := [(0, vR (some a0)), (2, vI a2), (3, vI x5), (4, vI x10)]) [3, 5, 2, 1] rfl ?_
  exact sX12_get_139 l D aC B  a0 a2 x5 x10 (0 : Int32) h11
set_option maxRecDepth 100000 in
theorem mX12_get (l : Launch) (D : va_G) (aC : Nat → ClassId) (B : Nat) (a0 : Nat) (a1 : Int32) (a2 : Int32) (h : sm_H) : sm_M l D vwCl gAts aC B gTs gNs gOs yX12_get cX12_get 8 none 2 53 vlU [vR (some a0), vI a1, vI a2] h (fX12_get a0 a1 a2 h) := sm_meth [vR (some a0), vI a1, vI a2] yY_yX12_get gG gN (Nat.le_of_ble_eq_true rfl) rfl (sX12_get_0 l D aC B a0 a1 a2 h)
-- M:TreeAgentModel.next(II)V
noncomputable def fX12_next_228  : Nat → Nat → Int32 → Int32 → Int32 → Option Nat → Int32 → sm_H → Option (Unit × sm_H)
  | 0 => fun _ _ _ _ _ _ _ => none
  | n + 1 => fun a0 a2 a3 a4 a5 a6 h =>
    (sm_I (sm_get h (some a0) 12 62)).bind fun x1 =>
    if x1 ≤ a6 then (
      (sm_R (sm_get h (some a0) 12 37)).bind fun x2 =>
      (sm_I (sm_get h (some a0) 12 62)).bind fun x3 =>
      (sm_sI h x2 0 a2 x3).bind fun h4 =>
      (sm_obj h4 (some a0) 12).bind fun b6 =>
      sm_cb (fX12_tell b6 a2 a3 a4 h4) fun _ h5 =>
      some ((), h5)
    ) else
    (sm_R (sm_get h (some a0) 12 36)).bind fun x7 =>
    (sm_aJ h a5 1 a6).bind fun x8 =>
    (sm_sJ h x7 1 (((16 : Int32) * a2) + a6) x8).bind fun h9 =>
    sm_let (a6 + (1 : Int32)) fun x10 =>
    (fX12_next_228 n) a0 a2 a3 a4 a5 x10 h9
set_option maxRecDepth 100000 in
set_option maxHeartbeats 4000000 in
theorem sX12_next_228 (l : Launch) (D : va_G) (aC : Nat → ClassId) (B : Nat)   (n : Nat) : ∀ (a0 : Nat) (a2 : Int32) (a3 : Int32) (a4 : Int32) (a5 : Option Nat) (a6 : Int32) (h : sm_H), zS l D aC B cX12_next 10 RX12 2 53 none "next" vlU (fX12_next_228 n a0 a2 a3 a4 a5 a6 h) 228 [(0, vR (some a0)), (2, vI a2), (3, vI a3), (4, vI a4), (5, vR a5), (6, vI a6)] [] h := by
  induction n with
  | zero => intro a0 a2 a3 a4 a5 a6 h; exact sm_none
  | succ n ih =>
    intro a0 a2 a3 a4 a5 a6 h
    show zS l D aC B cX12_next 10 RX12 2 53 none "next" vlU (fX12_next_228 (n + 1) a0 a2 a3 a4 a5 a6 h) 228 [(0, vR (some a0)), (2, vI a2), (3, vI a3), (4, vI a4), (5, vR a5), (6, vI a6)] [] h
    unfold fX12_next_228
    refine sm_iload (i := 6) (j := 5) (pc' := 230) dX12_next_228 rfl rfl ?_
    refine sm_aload_n (i := 0) (j := 0) (pc' := 231) dX12_next_230 rfl rfl rfl ?_
    refine sm_getI (k := 62) (pc' := 234) kX12 (by decide) mw812 dX12_next_231 rfl (fun x1 => ?_)
    refine sm_icmp_ge (tgt := 260) (pc' := 237) dX12_next_234 (by decide) rfl ?_ ?_
    · refine sm_aload_n (i := 0) (j := 0) (pc' := 261) dX12_next_260 rfl rfl rfl ?_
      refine sm_getR (k := 37) (pc' := 264) kX12 (by decide) mw687 dX12_next_261 rfl (fun x2 => ?_)
      refine sm_iload_n (i := 2) (j := 1) (pc' := 265) dX12_next_264 rfl rfl rfl ?_
      refine sm_aload_n (i := 0) (j := 0) (pc' := 266) dX12_next_265 rfl rfl rfl ?_
      refine sm_getI (k := 62) (pc' := 269) kX12 (by decide) mw812 dX12_next_266 rfl (fun x3 => ?_)
      refine sm_iast (t := 0) (pc' := 270) rfl dX12_next_269 rfl (fun h4 => ?_)
      refine sm_aload_n (i := 0) (j := 0) (pc' := 271) dX12_next_270 rfl rfl rfl ?_
      refine sm_iload_n (i := 2) (j := 1) (pc' := 272) dX12_next_271 rfl rfl rfl ?_
      refine sm_iload_n (i := 3) (j := 2) (pc' := 273) dX12_next_272 rfl rfl rfl ?_
      refine sm_iload (i := 4) (j := 3) (pc' := 275) dX12_next_273 rfl rfl ?_
      refine sm_cVU (pc' := 278) (ci := 12) (st := []) (F := fun b => fX12_tell b a2 a3 a4 h4) [vI a2, vI a3, vI a4] yY_yX12_tell rfl mw800 mw801 mw802 (fun b => mX12_tell l D aC B b a2 a3 a4 h4) rfl (by decide) (by decide) (by exact Nat.le_of_ble_eq_true rfl) rfl dX12_next_275 rfl (fun _ h5 => ?_)
      exact sm_vret rfl dX12_next_278
    refine sm_aload_n (i := 0) (j := 0) (pc' := 238) dX12_next_237 rfl rfl rfl ?_
    refine sm_getR (k := 36) (pc' := 241) kX12 (by decide) mw686 dX12_next_238 rfl (fun x7 => ?_)
    refine sm_bipush (v := (16 : Int32)) (pc' := 243) dX12_next_241 rfl (by decide) ?_
    refine sm_iload_n (i := 2) (j := 1) (pc' := 244) dX12_next_243 rfl rfl rfl ?_
    refine sm_imul (pc' := 245) dX12_next_244 rfl ?_
    refine sm_iload (i := 6) (j := 5) (pc' := 247) dX12_next_245 rfl rfl ?_
    refine sm_iadd (pc' := 248) dX12_next_247 rfl ?_
    refine sm_aload (i := 5) (j := 4) (pc' := 250) dX12_next_248 rfl rfl ?_
    refine sm_iload (i := 6) (j := 5) (pc' := 252) dX12_next_250 rfl rfl ?_
    refine sm_lald (t := 1) (pc' := 253) rfl dX12_next_252 rfl (fun x8 => ?_)
    refine sm_last (t := 1) (pc' := 254) rfl dX12_next_253 rfl (fun h9 => ?_)
    refine sm_iincL (i := 6) (j := 5) (x := a6) (d := (1 : Int32)) (fun x10 => [(6, vI x10), (0, vR (some a0)), (2, vI a2), (3, vI a3), (4, vI a4), (5, vR a5)]) (pc' := 257) dX12_next_254 rfl rfl (by decide) (by decide) (fun _ => rfl) (fun x10 => ?_)
    refine sm_goto (pc' := 228) dX12_next_257 (by decide) ?_
    refine sm_lo (lv' := [(0, vR (some a0)), (2, vI a2), (3, vI a3), (4, vI a4), (5, vR a5), (6, vI x10)]) [1, 2, 3, 4, 5, 0] rfl ?_
    exact ih a0 a2 a3 a4 a5 x10 h9
noncomputable def fX12_next_166 (K14 : Nat → Int32 → Int32 → Int32 → Int32 → Option Nat → Int32 → sm_H → Option (Unit × sm_H)) (K26 : Nat → Int32 → Int32 → Int32 → Int32 → Option Nat → Int32 → Int32 → sm_H → Option (Unit × sm_H)) : Nat → Nat → Int32 → Int32 → Int32 → Int32 → Option Nat → Int32 → Int32 → Int32 → sm_H → Option (Unit × sm_H)
  | 0 => fun _ _ _ _ _ _ _ _ _ _ => none
  | n + 1 => fun a0 a1 a2 a3 a4 a5 a6 a7 a9 h =>
    (sm_I (sm_get h (some a0) 12 60)).bind fun x1 =>
    if x1 ≤ a9 then (
      sm_let (a7 + (1 : Int32)) fun x2 =>
      K26 a0 a1 a2 a3 a4 a5 a6 x2 h
    ) else
    (sm_R (sm_get h (some a0) 12 59)).bind fun x3 =>
    (sm_aJ h x3 1 a9).bind fun x4 =>
    (sm_sJ h a5 1 a9 x4).bind fun h5 =>
    sm_let (a9 + (1 : Int32)) fun x6 =>
    (fX12_next_166 K14 K26 n) a0 a1 a2 a3 a4 a5 a6 a7 x6 h5
set_option maxRecDepth 100000 in
set_option maxHeartbeats 4000000 in
theorem sX12_next_166 (l : Launch) (D : va_G) (aC : Nat → ClassId) (B : Nat) (K14 : Nat → Int32 → Int32 → Int32 → Int32 → Option Nat → Int32 → sm_H → Option (Unit × sm_H)) (K26 : Nat → Int32 → Int32 → Int32 → Int32 → Option Nat → Int32 → Int32 → sm_H → Option (Unit × sm_H)) (hK14 : ∀ (a0 : Nat) (a1 : Int32) (a2 : Int32) (a3 : Int32) (a4 : Int32) (a5 : Option Nat) (a6 : Int32) (h : sm_H), zS l D aC B cX12_next 10 RX12 2 53 none "next" vlU (K14 a0 a1 a2 a3 a4 a5 a6 h) 14 [(0, vR (some a0)), (1, vI a1), (2, vI a2), (3, vI a3), (4, vI a4), (5, vR a5), (6, vI a6)] [] h) (hK26 : ∀ (a0 : Nat) (a1 : Int32) (a2 : Int32) (a3 : Int32) (a4 : Int32) (a5 : Option Nat) (a6 : Int32) (a7 : Int32) (h : sm_H), zS l D aC B cX12_next 10 RX12 2 53 none "next" vlU (K26 a0 a1 a2 a3 a4 a5 a6 a7 h) 26 [(0, vR (some a0)), (1, vI a1), (2, vI a2), (3, vI a3), (4, vI a4), (5, vR a5), (6, vI a6), (7, vI a7)] [] h) (n : Nat) : ∀ (a0 : Nat) (a1 : Int32) (a2 : Int32) (a3 : Int32) (a4 : Int32) (a5 : Option Nat) (a6 : Int32) (a7 : Int32) (a9 : Int32) (h : sm_H), zS l D aC B cX12_next 10 RX12 2 53 none "next" vlU (fX12_next_166 K14 K26 n a0 a1 a2 a3 a4 a5 a6 a7 a9 h) 166 [(0, vR (some a0)), (1, vI a1), (2, vI a2), (3, vI a3), (4, vI a4), (5, vR a5), (6, vI a6), (7, vI a7), (9, vI a9)] [] h := by
  induction n with
  | zero => intro a0 a1 a2 a3 a4 a5 a6 a7 a9 h; exact sm_none
  | succ n ih =>
    intro a0 a1 a2 a3 a4 a5 a6 a7 a9 h
    show zS l D aC B cX12_next 10 RX12 2 53 none "next" vlU (fX12_next_166 K14 K26 (n + 1) a0 a1 a2 a3 a4 a5 a6 a7 a9 h) 166 [(0, vR (some a0)), (1, vI a1), (2, vI a2), (3, vI a3), (4, vI a4), (5, vR a5), (6, vI a6), (7, vI a7), (9, vI a9)] [] h
    unfold fX12_next_166
    refine sm_iload (i := 9) (j := 8) (pc' := 168) dX12_next_166 rfl rfl ?_
    refine sm_aload_n (i := 0) (j := 0) (pc' := 169) dX12_next_168 rfl rfl rfl ?_
    refine sm_getI (k := 60) (pc' := 172) kX12 (by decide) mw796 dX12_next_169 rfl (fun x1 => ?_)
    refine sm_icmp_ge (tgt := 193) (pc' := 175) dX12_next_172 (by decide) rfl ?_ ?_
    · refine sm_iincL (i := 7) (j := 7) (x := a7) (d := (1 : Int32)) (fun x2 => [(7, vI x2), (0, vR (some a0)), (1, vI a1), (2, vI a2), (3, vI a3), (4, vI a4), (5, vR a5), (6, vI a6), (9, vI a9)]) (pc' := 196) dX12_next_193 rfl rfl (by decide) (by decide) (fun _ => rfl) (fun x2 => ?_)
      refine sm_goto (pc' := 26) dX12_next_196 (by decide) ?_
      refine sm_lo (lv' := [(0, vR (some a0)), (1, vI a1), (2, vI a2), (3, vI a3), (4, vI a4), (5, vR a5), (6, vI a6), (7, vI x2)]) [1, 2, 3, 4, 5, 6, 7, 0] rfl ?_
      exact hK26 a0 a1 a2 a3 a4 a5 a6 x2 h
    refine sm_aload (i := 5) (j := 5) (pc' := 177) dX12_next_175 rfl rfl ?_
    refine sm_iload (i := 9) (j := 8) (pc' := 179) dX12_next_177 rfl rfl ?_
    refine sm_aload_n (i := 0) (j := 0) (pc' := 180) dX12_next_179 rfl rfl rfl ?_
    refine sm_getR (k := 59) (pc' := 183) kX12 (by decide) mw694 dX12_next_180 rfl (fun x3 => ?_)
    refine sm_iload (i := 9) (j := 8) (pc' := 185) dX12_next_183 rfl rfl ?_
    refine sm_lald (t := 1) (pc' := 186) rfl dX12_next_185 rfl (fun x4 => ?_)
    refine sm_last (t := 1) (pc' := 187) rfl dX12_next_186 rfl (fun h5 => ?_)
    refine sm_iincL (i := 9) (j := 8) (x := a9) (d := (1 : Int32)) (fun x6 => [(9, vI x6), (0, vR (some a0)), (1, vI a1), (2, vI a2), (3, vI a3), (4, vI a4), (5, vR a5), (6, vI a6), (7, vI a7)]) (pc' := 190) dX12_next_187 rfl rfl (by decide) (by decide) (fun _ => rfl) (fun x6 => ?_)
    refine sm_goto (pc' := 166) dX12_next_190 (by decide) ?_
    refine sm_lo (lv' := [(0, vR (some a0)), (1, vI a1), (2, vI a2), (3, vI a3), (4, vI a4), (5, vR a5), (6, vI a6), (7, vI a7), (9, vI x6)]) [1, 2, 3, 4, 5, 6, 7, 8, 0] rfl ?_
    exact ih a0 a1 a2 a3 a4 a5 a6 a7 x6 h5
noncomputable def fX12_next_132 (K14 : Nat → Int32 → Int32 → Int32 → Int32 → Option Nat → Int32 → sm_H → Option (Unit × sm_H)) (K26 : Nat → Int32 → Int32 → Int32 → Int32 → Option Nat → Int32 → Int32 → sm_H → Option (Unit × sm_H)) (a0 : Nat) (a1 : Int32) (a2 : Int32) (a3 : Int32) (a4 : Int32) (a5 : Option Nat) (a6 : Int32) (a7 : Int32) (h : sm_H) : Option (Unit × sm_H) :=
  (sm_R (sm_get h (some a0) 12 59)).bind fun x1 =>
  (sm_I (sm_get h (some a0) 12 60)).bind fun x2 =>
  (sm_obj h (some a0) 12).bind fun b8 =>
  sm_cb (fX12_inView b8 x1 (0 : Int32) x2 h) fun x3 h4 =>
  if x3 = 0 then (
    sm_let (a7 + (1 : Int32)) fun x5 =>
    K26 a0 a1 a2 a3 a4 a5 a6 x5 h4
  ) else
  (sm_I (sm_get h4 (some a0) 12 60)).bind fun x6 =>
  (sm_put h4 (some a0) 12 62 (sm_v (vI x6))).bind fun h7 =>
  fX12_next_166 K14 K26 sm_fuel a0 a1 a2 a6 a7 a5 a6 a7 (0 : Int32) h7
set_option maxRecDepth 100000 in
set_option maxHeartbeats 4000000 in
theorem sX12_next_132 (l : Launch) (D : va_G) (aC : Nat → ClassId) (B : Nat) (K14 : Nat → Int32 → Int32 → Int32 → Int32 → Option Nat → Int32 → sm_H → Option (Unit × sm_H)) (K26 : Nat → Int32 → Int32 → Int32 → Int32 → Option Nat → Int32 → Int32 → sm_H → Option (Unit × sm_H)) (hK14 : ∀ (a0 : Nat) (a1 : Int32) (a2 : Int32) (a3 : Int32) (a4 : Int32) (a5 : Option Nat) (a6 : Int32) (h : sm_H), zS l D aC B cX12_next 10 RX12 2 53 none "next" vlU (K14 a0 a1 a2 a3 a4 a5 a6 h) 14 [(0, vR (some a0)), (1, vI a1), (2, vI a2), (3, vI a3), (4, vI a4), (5, vR a5), (6, vI a6)] [] h) (hK26 : ∀ (a0 : Nat) (a1 : Int32) (a2 : Int32) (a3 : Int32) (a4 : Int32) (a5 : Option Nat) (a6 : Int32) (a7 : Int32) (h : sm_H), zS l D aC B cX12_next 10 RX12 2 53 none "next" vlU (K26 a0 a1 a2 a3 a4 a5 a6 a7 h) 26 [(0, vR (some a0)), (1, vI a1), (2, vI a2), (3, vI a3), (4, vI a4), (5, vR a5), (6, vI a6), (7, vI a7)] [] h) (a0 : Nat) (a1 : Int32) (a2 : Int32) (a3 : Int32) (a4 : Int32) (a5 : Option Nat) (a6 : Int32) (a7 : Int32) (h : sm_H) : zS l D aC B cX12_next 10 RX12 2 53 none "next" vlU (fX12_next_132 K14 K26 a0 a1 a2 a3 a4 a5 a6 a7 h) 132 [(0, vR (some a0)), (1, vI a1), (2, vI a2), (3, vI a3), (4, vI a4), (5, vR a5), (6, vI a6), (7, vI a7)] [] h := by
  unfold fX12_next_132
  refine sm_aload_n (i := 0) (j := 0) (pc' := 133) dX12_next_132 rfl rfl rfl ?_
  refine sm_aload_n (i := 0) (j := 0) (pc' := 134) dX12_next_133 rfl rfl rfl ?_
  refine sm_getR (k := 59) (pc' := 137) kX12 (by decide) mw694 dX12_next_134 rfl (fun x1 => ?_)
  refine sm_iconst (v := (0 : Int32)) (pc' := 138) dX12_next_137 rfl (by decide) ?_
  refine sm_aload_n (i := 0) (j := 0) (pc' := 139) dX12_next_138 rfl rfl rfl ?_
  refine sm_getI (k := 60) (pc' := 142) kX12 (by decide) mw796 dX12_next_139 rfl (fun x2 => ?_)
  refine sm_cVI (pc' := 145) (ci := 12) (st := []) (F := fun b => fX12_inView b x1 (0 : Int32) x2 h) [vR x1, vI (0 : Int32), vI x2] yY_yX12_inView rfl mw805 mw806 mw807 (fun b => mX12_inView l D aC B b x1 (0 : Int32) x2 h) rfl (by decide) (by decide) (by exact Nat.le_of_ble_eq_true rfl) rfl dX12_next_142 rfl (fun x3 h4 => ?_)
  refine sm_if_eq (tgt := 193) (pc' := 148) dX12_next_145 (by decide) rfl ?_ ?_
  · refine sm_iincL (i := 7) (j := 7) (x := a7) (d := (1 : Int32)) (fun x5 => [(7, vI x5), (0, vR (some a0)), (1, vI a1), (2, vI a2), (3, vI a3), (4, vI a4), (5, vR a5), (6, vI a6)]) (pc' := 196) dX12_next_193 rfl rfl (by decide) (by decide) (fun _ => rfl) (fun x5 => ?_)
    refine sm_goto (pc' := 26) dX12_next_196 (by decide) ?_
    refine sm_lo (lv' := [(0, vR (some a0)), (1, vI a1), (2, vI a2), (3, vI a3), (4, vI a4), (5, vR a5), (6, vI a6), (7, vI x5)]) [1, 2, 3, 4, 5, 6, 7, 0] rfl ?_
    exact hK26 a0 a1 a2 a3 a4 a5 a6 x5 h4
  refine sm_iload (i := 6) (j := 6) (pc' := 150) dX12_next_148 rfl rfl ?_
  refine sm_istore_n (i := 3) (lv' := [(3, vI a6), (0, vR (some a0)), (1, vI a1), (2, vI a2), (4, vI a4), (5, vR a5), (6, vI a6), (7, vI a7)]) (pc' := 151) dX12_next_150 rfl rfl (by decide) rfl ?_
  refine sm_iload (i := 7) (j := 7) (pc' := 153) dX12_next_151 rfl rfl ?_
  refine sm_istore (i := 4) (lv' := [(4, vI a7), (3, vI a6), (0, vR (some a0)), (1, vI a1), (2, vI a2), (5, vR a5), (6, vI a6), (7, vI a7)]) (pc' := 155) dX12_next_153 rfl (by decide) rfl ?_
  refine sm_aload_n (i := 0) (j := 2) (pc' := 156) dX12_next_155 rfl rfl rfl ?_
  refine sm_aload_n (i := 0) (j := 2) (pc' := 157) dX12_next_156 rfl rfl rfl ?_
  refine sm_getI (k := 60) (pc' := 160) kX12 (by decide) mw796 dX12_next_157 rfl (fun x6 => ?_)
  refine sm_putI (k := 62) (pc' := 163) kX12 (by decide) mw812 rfl rfl dX12_next_160 rfl (fun h7 => ?_)
  refine sm_iconst (v := (0 : Int32)) (pc' := 164) dX12_next_163 rfl (by decide) ?_
  refine sm_istore (i := 9) (lv' := [(9, vI (0 : Int32)), (4, vI a7), (3, vI a6), (0, vR (some a0)), (1, vI a1), (2, vI a2), (5, vR a5), (6, vI a6), (7, vI a7)]) (pc' := 166) dX12_next_164 rfl (by decide) rfl ?_
  refine sm_lo (lv' := [(0, vR (some a0)), (1, vI a1), (2, vI a2), (3, vI a6), (4, vI a7), (5, vR a5), (6, vI a6), (7, vI a7), (9, vI (0 : Int32))]) [3, 4, 5, 2, 1, 6, 7, 8, 0] rfl ?_
  exact sX12_next_166 l D aC B  K14 K26 hK14 hK26 sm_fuel a0 a1 a2 a6 a7 a5 a6 a7 (0 : Int32) h7
noncomputable def fX12_next_99 (K14 : Nat → Int32 → Int32 → Int32 → Int32 → Option Nat → Int32 → sm_H → Option (Unit × sm_H)) (K26 : Nat → Int32 → Int32 → Int32 → Int32 → Option Nat → Int32 → Int32 → sm_H → Option (Unit × sm_H)) (a0 : Nat) (a1 : Int32) (a2 : Int32) (a3 : Int32) (a4 : Int32) (a5 : Option Nat) (a6 : Int32) (a7 : Int32) (s0 : Int32) (h : sm_H) : Option (Unit × sm_H) :=
  if s0 = 0 then (
    sm_let (a7 + (1 : Int32)) fun x1 =>
    K26 a0 a1 a2 a3 a4 a5 a6 x1 h
  ) else
  if a3 < 0 then (
    fX12_next_132 K14 K26 a0 a1 a2 a3 a4 a5 a6 a7 h
  ) else
  (sm_R (sm_get h (some a0) 12 59)).bind fun x2 =>
  (sm_I (sm_get h (some a0) 12 60)).bind fun x3 =>
  (sm_I (sm_get h (some a0) 12 62)).bind fun x4 =>
  sm_cb (fX12_order x2 (0 : Int32) x3 a5 (0 : Int32) x4 h) fun x5 h6 =>
  if 0 ≤ x5 then (
    sm_let (a7 + (1 : Int32)) fun x7 =>
    K26 a0 a1 a2 a3 a4 a5 a6 x7 h6
  ) else
  fX12_next_132 K14 K26 a0 a1 a2 a3 a4 a5 a6 a7 h6
set_option maxRecDepth 100000 in
set_option maxHeartbeats 4000000 in
theorem sX12_next_99 (l : Launch) (D : va_G) (aC : Nat → ClassId) (B : Nat) (K14 : Nat → Int32 → Int32 → Int32 → Int32 → Option Nat → Int32 → sm_H → Option (Unit × sm_H)) (K26 : Nat → Int32 → Int32 → Int32 → Int32 → Option Nat → Int32 → Int32 → sm_H → Option (Unit × sm_H)) (hK14 : ∀ (a0 : Nat) (a1 : Int32) (a2 : Int32) (a3 : Int32) (a4 : Int32) (a5 : Option Nat) (a6 : Int32) (h : sm_H), zS l D aC B cX12_next 10 RX12 2 53 none "next" vlU (K14 a0 a1 a2 a3 a4 a5 a6 h) 14 [(0, vR (some a0)), (1, vI a1), (2, vI a2), (3, vI a3), (4, vI a4), (5, vR a5), (6, vI a6)] [] h) (hK26 : ∀ (a0 : Nat) (a1 : Int32) (a2 : Int32) (a3 : Int32) (a4 : Int32) (a5 : Option Nat) (a6 : Int32) (a7 : Int32) (h : sm_H), zS l D aC B cX12_next 10 RX12 2 53 none "next" vlU (K26 a0 a1 a2 a3 a4 a5 a6 a7 h) 26 [(0, vR (some a0)), (1, vI a1), (2, vI a2), (3, vI a3), (4, vI a4), (5, vR a5), (6, vI a6), (7, vI a7)] [] h) (a0 : Nat) (a1 : Int32) (a2 : Int32) (a3 : Int32) (a4 : Int32) (a5 : Option Nat) (a6 : Int32) (a7 : Int32) (s0 : Int32) (h : sm_H) : zS l D aC B cX12_next 10 RX12 2 53 none "next" vlU (fX12_next_99 K14 K26 a0 a1 a2 a3 a4 a5 a6 a7 s0 h) 99 [(0, vR (some a0)), (1, vI a1), (2, vI a2), (3, vI a3), (4, vI a4), (5, vR a5), (6, vI a6), (7, vI a7)] [vI s0] h := by
  unfold fX12_next_99
  refine sm_istore (i := 8) (lv' := [(8, vI s0), (0, vR (some a0)), (1, vI a1), (2, vI a2), (3, vI a3), (4, vI a4), (5, vR a5), (6, vI a6), (7, vI a7)]) (pc' := 101) dX12_next_99 rfl (by decide) rfl ?_
  refine sm_iload (i := 8) (j := 0) (pc' := 103) dX12_next_101 rfl rfl ?_
  refine sm_if_eq (tgt := 193) (pc' := 106) dX12_next_103 (by decide) rfl ?_ ?_
  · refine sm_iincL (i := 7) (j := 8) (x := a7) (d := (1 : Int32)) (fun x1 => [(7, vI x1), (8, vI s0), (0, vR (some a0)), (1, vI a1), (2, vI a2), (3, vI a3), (4, vI a4), (5, vR a5), (6, vI a6)]) (pc' := 196) dX12_next_193 rfl rfl (by decide) (by decide) (fun _ => rfl) (fun x1 => ?_)
    refine sm_goto (pc' := 26) dX12_next_196 (by decide) ?_
    refine sm_lo (lv' := [(0, vR (some a0)), (1, vI a1), (2, vI a2), (3, vI a3), (4, vI a4), (5, vR a5), (6, vI a6), (7, vI x1)]) [2, 3, 4, 5, 6, 7, 8, 0] rfl ?_
    exact hK26 a0 a1 a2 a3 a4 a5 a6 x1 h
  refine sm_iload_n (i := 3) (j := 4) (pc' := 107) dX12_next_106 rfl rfl rfl ?_
  refine sm_if_lt (tgt := 132) (pc' := 110) dX12_next_107 (by decide) rfl ?_ ?_
  · refine sm_lo (lv' := [(0, vR (some a0)), (1, vI a1), (2, vI a2), (3, vI a3), (4, vI a4), (5, vR a5), (6, vI a6), (7, vI a7)]) [1, 2, 3, 4, 5, 6, 7, 8] rfl ?_
    exact sX12_next_132 l D aC B  K14 K26 hK14 hK26 a0 a1 a2 a3 a4 a5 a6 a7 h
  refine sm_aload_n (i := 0) (j := 1) (pc' := 111) dX12_next_110 rfl rfl rfl ?_
  refine sm_getR (k := 59) (pc' := 114) kX12 (by decide) mw694 dX12_next_111 rfl (fun x2 => ?_)
  refine sm_iconst (v := (0 : Int32)) (pc' := 115) dX12_next_114 rfl (by decide) ?_
  refine sm_aload_n (i := 0) (j := 1) (pc' := 116) dX12_next_115 rfl rfl rfl ?_
  refine sm_getI (k := 60) (pc' := 119) kX12 (by decide) mw796 dX12_next_116 rfl (fun x3 => ?_)
  refine sm_aload (i := 5) (j := 6) (pc' := 121) dX12_next_119 rfl rfl ?_
  refine sm_iconst (v := (0 : Int32)) (pc' := 122) dX12_next_121 rfl (by decide) ?_
  refine sm_aload_n (i := 0) (j := 1) (pc' := 123) dX12_next_122 rfl rfl rfl ?_
  refine sm_getI (k := 62) (pc' := 126) kX12 (by decide) mw812 dX12_next_123 rfl (fun x4 => ?_)
  refine sm_cSI (pc' := 129) (st := []) [vR x2, vI (0 : Int32), vI x3, vR a5, vI (0 : Int32), vI x4] yY_yX12_order mw813 mw814 (mX12_order l D aC B x2 (0 : Int32) x3 a5 (0 : Int32) x4 h) rfl (by decide) (by decide) (by exact Nat.le_of_ble_eq_true rfl) rfl dX12_next_126 rfl (fun x5 h6 => ?_)
  refine sm_if_ge (tgt := 193) (pc' := 132) dX12_next_129 (by decide) rfl ?_ ?_
  · refine sm_iincL (i := 7) (j := 8) (x := a7) (d := (1 : Int32)) (fun x7 => [(7, vI x7), (8, vI s0), (0, vR (some a0)), (1, vI a1), (2, vI a2), (3, vI a3), (4, vI a4), (5, vR a5), (6, vI a6)]) (pc' := 196) dX12_next_193 rfl rfl (by decide) (by decide) (fun _ => rfl) (fun x7 => ?_)
    refine sm_goto (pc' := 26) dX12_next_196 (by decide) ?_
    refine sm_lo (lv' := [(0, vR (some a0)), (1, vI a1), (2, vI a2), (3, vI a3), (4, vI a4), (5, vR a5), (6, vI a6), (7, vI x7)]) [2, 3, 4, 5, 6, 7, 8, 0] rfl ?_
    exact hK26 a0 a1 a2 a3 a4 a5 a6 x7 h6
  refine sm_lo (lv' := [(0, vR (some a0)), (1, vI a1), (2, vI a2), (3, vI a3), (4, vI a4), (5, vR a5), (6, vI a6), (7, vI a7)]) [1, 2, 3, 4, 5, 6, 7, 8] rfl ?_
  exact sX12_next_132 l D aC B  K14 K26 hK14 hK26 a0 a1 a2 a3 a4 a5 a6 a7 h6
noncomputable def fX12_next_26 (K14 : Nat → Int32 → Int32 → Int32 → Int32 → Option Nat → Int32 → sm_H → Option (Unit × sm_H)) : Nat → Nat → Int32 → Int32 → Int32 → Int32 → Option Nat → Int32 → Int32 → sm_H → Option (Unit × sm_H)
  | 0 => fun _ _ _ _ _ _ _ _ _ => none
  | n + 1 => fun a0 a1 a2 a3 a4 a5 a6 a7 h =>
    if (16 : Int32) ≤ a7 then (
      sm_let (a6 + (1 : Int32)) fun x1 =>
      K14 a0 a1 a2 a3 a4 a5 x1 h
    ) else
    (sm_R (sm_get h (some a0) 12 12)).bind fun x2 =>
    (sm_aI h x2 0 a6).bind fun x3 =>
    if x3 ≤ 0 then (
      sm_let (a6 + (1 : Int32)) fun x4 =>
      K14 a0 a1 a2 a3 a4 a5 x4 h
    ) else
    (sm_obj h (some a0) 12).bind fun b17 =>
    sm_cb (fX12_isThere b17 a6 a7 h) fun x5 h6 =>
    if x5 = 0 then (
      sm_let (a7 + (1 : Int32)) fun x16 =>
      (fX12_next_26 K14 n) a0 a1 a2 a3 a4 a5 a6 x16 h6
    ) else
    (sm_obj h6 (some a0) 12).bind fun b15 =>
    sm_cb (fX12_nameOf b15 a6 a7 h6) fun _ h7 =>
    (sm_R (sm_get h7 (some a0) 12 59)).bind fun x8 =>
    (sm_I (sm_get h7 (some a0) 12 60)).bind fun x9 =>
    (sm_R (sm_get h7 (some a0) 12 36)).bind fun x10 =>
    (sm_R (sm_get h7 (some a0) 12 37)).bind fun x11 =>
    (sm_aI h7 x11 0 a1).bind fun x12 =>
    sm_cb (fX12_order x8 (0 : Int32) x9 x10 ((16 : Int32) * a1) x12 h7) fun x13 h14 =>
    if x13 ≤ 0 then (
      fX12_next_99 K14 (fX12_next_26 K14 n) a0 a1 a2 a3 a4 a5 a6 a7 (0 : Int32) h14
    ) else
    fX12_next_99 K14 (fX12_next_26 K14 n) a0 a1 a2 a3 a4 a5 a6 a7 (1 : Int32) h14
set_option maxRecDepth 100000 in
set_option maxHeartbeats 4000000 in
theorem sX12_next_26 (l : Launch) (D : va_G) (aC : Nat → ClassId) (B : Nat) (K14 : Nat → Int32 → Int32 → Int32 → Int32 → Option Nat → Int32 → sm_H → Option (Unit × sm_H)) (hK14 : ∀ (a0 : Nat) (a1 : Int32) (a2 : Int32) (a3 : Int32) (a4 : Int32) (a5 : Option Nat) (a6 : Int32) (h : sm_H), zS l D aC B cX12_next 10 RX12 2 53 none "next" vlU (K14 a0 a1 a2 a3 a4 a5 a6 h) 14 [(0, vR (some a0)), (1, vI a1), (2, vI a2), (3, vI a3), (4, vI a4), (5, vR a5), (6, vI a6)] [] h) (n : Nat) : ∀ (a0 : Nat) (a1 : Int32) (a2 : Int32) (a3 : Int32) (a4 : Int32) (a5 : Option Nat) (a6 : Int32) (a7 : Int32) (h : sm_H), zS l D aC B cX12_next 10 RX12 2 53 none "next" vlU (fX12_next_26 K14 n a0 a1 a2 a3 a4 a5 a6 a7 h) 26 [(0, vR (some a0)), (1, vI a1), (2, vI a2), (3, vI a3), (4, vI a4), (5, vR a5), (6, vI a6), (7, vI a7)] [] h := by
  induction n with
  | zero => intro a0 a1 a2 a3 a4 a5 a6 a7 h; exact sm_none
  | succ n ih =>
    intro a0 a1 a2 a3 a4 a5 a6 a7 h
    show zS l D aC B cX12_next 10 RX12 2 53 none "next" vlU (fX12_next_26 K14 (n + 1) a0 a1 a2 a3 a4 a5 a6 a7 h) 26 [(0, vR (some a0)), (1, vI a1), (2, vI a2), (3, vI a3), (4, vI a4), (5, vR a5), (6, vI a6), (7, vI a7)] [] h
    unfold fX12_next_26
    refine sm_iload (i := 7) (j := 7) (pc' := 28) dX12_next_26 rfl rfl ?_
    refine sm_bipush (v := (16 : Int32)) (pc' := 30) dX12_next_28 rfl (by decide) ?_
    refine sm_icmp_ge (tgt := 199) (pc' := 33) dX12_next_30 (by decide) rfl ?_ ?_
    · refine sm_iincL (i := 6) (j := 6) (x := a6) (d := (1 : Int32)) (fun x1 => [(6, vI x1), (0, vR (some a0)), (1, vI a1), (2, vI a2), (3, vI a3), (4, vI a4), (5, vR a5), (7, vI a7)]) (pc' := 202) dX12_next_199 rfl rfl (by decide) (by decide) (fun _ => rfl) (fun x1 => ?_)
      refine sm_goto (pc' := 14) dX12_next_202 (by decide) ?_
      refine sm_lo (lv' := [(0, vR (some a0)), (1, vI a1), (2, vI a2), (3, vI a3), (4, vI a4), (5, vR a5), (6, vI x1)]) [1, 2, 3, 4, 5, 6, 0] rfl ?_
      exact hK14 a0 a1 a2 a3 a4 a5 x1 h
    refine sm_aload_n (i := 0) (j := 0) (pc' := 34) dX12_next_33 rfl rfl rfl ?_
    refine sm_getR (k := 12) (pc' := 37) kX12 (by decide) mw664 dX12_next_34 rfl (fun x2 => ?_)
    refine sm_iload (i := 6) (j := 6) (pc' := 39) dX12_next_37 rfl rfl ?_
    refine sm_iald (t := 0) (pc' := 40) rfl dX12_next_39 rfl (fun x3 => ?_)
    refine sm_if_le (tgt := 199) (pc' := 43) dX12_next_40 (by decide) rfl ?_ ?_
    · refine sm_iincL (i := 6) (j := 6) (x := a6) (d := (1 : Int32)) (fun x4 => [(6, vI x4), (0, vR (some a0)), (1, vI a1), (2, vI a2), (3, vI a3), (4, vI a4), (5, vR a5), (7, vI a7)]) (pc' := 202) dX12_next_199 rfl rfl (by decide) (by decide) (fun _ => rfl) (fun x4 => ?_)
      refine sm_goto (pc' := 14) dX12_next_202 (by decide) ?_
      refine sm_lo (lv' := [(0, vR (some a0)), (1, vI a1), (2, vI a2), (3, vI a3), (4, vI a4), (5, vR a5), (6, vI x4)]) [1, 2, 3, 4, 5, 6, 0] rfl ?_
      exact hK14 a0 a1 a2 a3 a4 a5 x4 h
    refine sm_aload_n (i := 0) (j := 0) (pc' := 44) dX12_next_43 rfl rfl rfl ?_
    refine sm_iload (i := 6) (j := 6) (pc' := 46) dX12_next_44 rfl rfl ?_
    refine sm_iload (i := 7) (j := 7) (pc' := 48) dX12_next_46 rfl rfl ?_
    refine sm_cVI (pc' := 51) (ci := 12) (st := []) (F := fun b => fX12_isThere b a6 a7 h) [vI a6, vI a7] yY_yX12_isThere rfl mw815 mw819 mw820 (fun b => mX12_isThere l D aC B b a6 a7 h) rfl (by decide) (by decide) (by exact Nat.le_of_ble_eq_true rfl) rfl dX12_next_48 rfl (fun x5 h6 => ?_)
    refine sm_if_ne (tgt := 57) (pc' := 54) dX12_next_51 (by decide) rfl ?_ ?_
    · refine sm_aload_n (i := 0) (j := 0) (pc' := 58) dX12_next_57 rfl rfl rfl ?_
      refine sm_iload (i := 6) (j := 6) (pc' := 60) dX12_next_58 rfl rfl ?_
      refine sm_iload (i := 7) (j := 7) (pc' := 62) dX12_next_60 rfl rfl ?_
      refine sm_cVU (pc' := 65) (ci := 12) (st := []) (F := fun b => fX12_nameOf b a6 a7 h6) [vI a6, vI a7] yY_yX12_nameOf rfl mw816 mw817 mw818 (fun b => mX12_nameOf l D aC B b a6 a7 h6) rfl (by decide) (by decide) (by exact Nat.le_of_ble_eq_true rfl) rfl dX12_next_62 rfl (fun _ h7 => ?_)
      refine sm_aload_n (i := 0) (j := 0) (pc' := 66) dX12_next_65 rfl rfl rfl ?_
      refine sm_getR (k := 59) (pc' := 69) kX12 (by decide) mw694 dX12_next_66 rfl (fun x8 => ?_)
      refine sm_iconst (v := (0 : Int32)) (pc' := 70) dX12_next_69 rfl (by decide) ?_
      refine sm_aload_n (i := 0) (j := 0) (pc' := 71) dX12_next_70 rfl rfl rfl ?_
      refine sm_getI (k := 60) (pc' := 74) kX12 (by decide) mw796 dX12_next_71 rfl (fun x9 => ?_)
      refine sm_aload_n (i := 0) (j := 0) (pc' := 75) dX12_next_74 rfl rfl rfl ?_
      refine sm_getR (k := 36) (pc' := 78) kX12 (by decide) mw686 dX12_next_75 rfl (fun x10 => ?_)
      refine sm_bipush (v := (16 : Int32)) (pc' := 80) dX12_next_78 rfl (by decide) ?_
      refine sm_iload_n (i := 1) (j := 1) (pc' := 81) dX12_next_80 rfl rfl rfl ?_
      refine sm_imul (pc' := 82) dX12_next_81 rfl ?_
      refine sm_aload_n (i := 0) (j := 0) (pc' := 83) dX12_next_82 rfl rfl rfl ?_
      refine sm_getR (k := 37) (pc' := 86) kX12 (by decide) mw687 dX12_next_83 rfl (fun x11 => ?_)
      refine sm_iload_n (i := 1) (j := 1) (pc' := 87) dX12_next_86 rfl rfl rfl ?_
      refine sm_iald (t := 0) (pc' := 88) rfl dX12_next_87 rfl (fun x12 => ?_)
      refine sm_cSI (pc' := 91) (st := []) [vR x8, vI (0 : Int32), vI x9, vR x10, vI ((16 : Int32) * a1), vI x12] yY_yX12_order mw813 mw814 (mX12_order l D aC B x8 (0 : Int32) x9 x10 ((16 : Int32) * a1) x12 h7) rfl (by decide) (by decide) (by exact Nat.le_of_ble_eq_true rfl) rfl dX12_next_88 rfl (fun x13 h14 => ?_)
      refine sm_if_le (tgt := 98) (pc' := 94) dX12_next_91 (by decide) rfl ?_ ?_
      · refine sm_iconst (v := (0 : Int32)) (pc' := 99) dX12_next_98 rfl (by decide) ?_
        exact sX12_next_99 l D aC B  K14 (fX12_next_26 K14 n) hK14 ih a0 a1 a2 a3 a4 a5 a6 a7 (0 : Int32) h14
      refine sm_iconst (v := (1 : Int32)) (pc' := 95) dX12_next_94 rfl (by decide) ?_
      refine sm_goto (pc' := 99) dX12_next_95 (by decide) ?_
      exact sX12_next_99 l D aC B  K14 (fX12_next_26 K14 n) hK14 ih a0 a1 a2 a3 a4 a5 a6 a7 (1 : Int32) h14
    refine sm_goto (pc' := 193) dX12_next_54 (by decide) ?_
    refine sm_iincL (i := 7) (j := 7) (x := a7) (d := (1 : Int32)) (fun x16 => [(7, vI x16), (0, vR (some a0)), (1, vI a1), (2, vI a2), (3, vI a3), (4, vI a4), (5, vR a5), (6, vI a6)]) (pc' := 196) dX12_next_193 rfl rfl (by decide) (by decide) (fun _ => rfl) (fun x16 => ?_)
    refine sm_goto (pc' := 26) dX12_next_196 (by decide) ?_
    refine sm_lo (lv' := [(0, vR (some a0)), (1, vI a1), (2, vI a2), (3, vI a3), (4, vI a4), (5, vR a5), (6, vI a6), (7, vI x16)]) [1, 2, 3, 4, 5, 6, 7, 0] rfl ?_
    exact ih a0 a1 a2 a3 a4 a5 a6 x16 h6
noncomputable def fX12_next_14  : Nat → Nat → Int32 → Int32 → Int32 → Int32 → Option Nat → Int32 → sm_H → Option (Unit × sm_H)
  | 0 => fun _ _ _ _ _ _ _ _ => none
  | n + 1 => fun a0 a1 a2 a3 a4 a5 a6 h =>
    (sm_I (sm_get h (some a0) 12 8)).bind fun x1 =>
    if x1 ≤ a6 then (
      if 0 ≤ a3 then (
        fX12_next_228 sm_fuel a0 a2 a3 a4 a5 (0 : Int32) h
      ) else
      (sm_obj h (some a0) 12).bind fun b5 =>
      sm_cb (fX12_copyName b5 a1 a2 h) fun _ h2 =>
      (sm_R (sm_get h2 (some a0) 12 38)).bind fun x3 =>
      (sm_sI h2 x3 0 a2 (130 : Int32)).bind fun h4 =>
      some ((), h4)
    ) else
    fX12_next_26 (fX12_next_14 n) sm_fuel a0 a1 a2 a3 a4 a5 a6 (0 : Int32) h
set_option maxRecDepth 100000 in
set_option maxHeartbeats 4000000 in
theorem sX12_next_14 (l : Launch) (D : va_G) (aC : Nat → ClassId) (B : Nat)   (n : Nat) : ∀ (a0 : Nat) (a1 : Int32) (a2 : Int32) (a3 : Int32) (a4 : Int32) (a5 : Option Nat) (a6 : Int32) (h : sm_H), zS l D aC B cX12_next 10 RX12 2 53 none "next" vlU (fX12_next_14 n a0 a1 a2 a3 a4 a5 a6 h) 14 [(0, vR (some a0)), (1, vI a1), (2, vI a2), (3, vI a3), (4, vI a4), (5, vR a5), (6, vI a6)] [] h := by
  induction n with
  | zero => intro a0 a1 a2 a3 a4 a5 a6 h; exact sm_none
  | succ n ih =>
    intro a0 a1 a2 a3 a4 a5 a6 h
    show zS l D aC B cX12_next 10 RX12 2 53 none "next" vlU (fX12_next_14 (n + 1) a0 a1 a2 a3 a4 a5 a6 h) 14 [(0, vR (some a0)), (1, vI a1), (2, vI a2), (3, vI a3), (4, vI a4), (5, vR a5), (6, vI a6)] [] h
    unfold fX12_next_14
    refine sm_iload (i := 6) (j := 6) (pc' := 16) dX12_next_14 rfl rfl ?_
    refine sm_aload_n (i := 0) (j := 0) (pc' := 17) dX12_next_16 rfl rfl rfl ?_
    refine sm_getI (k := 8) (pc' := 20) kX12 (by decide) mw710 dX12_next_17 rfl (fun x1 => ?_)
    refine sm_icmp_ge (tgt := 205) (pc' := 23) dX12_next_20 (by decide) rfl ?_ ?_
    · refine sm_iload_n (i := 3) (j := 3) (pc' := 206) dX12_next_205 rfl rfl rfl ?_
      refine sm_if_ge (tgt := 225) (pc' := 209) dX12_next_206 (by decide) rfl ?_ ?_
      · refine sm_iconst (v := (0 : Int32)) (pc' := 226) dX12_next_225 rfl (by decide) ?_
        refine sm_istore (i := 6) (lv' := [(6, vI (0 : Int32)), (0, vR (some a0)), (1, vI a1), (2, vI a2), (3, vI a3), (4, vI a4), (5, vR a5)]) (pc' := 228) dX12_next_226 rfl (by decide) rfl ?_
        refine sm_lo (lv' := [(0, vR (some a0)), (2, vI a2), (3, vI a3), (4, vI a4), (5, vR a5), (6, vI (0 : Int32))]) [1, 3, 4, 5, 6, 0] rfl ?_
        exact sX12_next_228 l D aC B   sm_fuel a0 a2 a3 a4 a5 (0 : Int32) h
      refine sm_aload_n (i := 0) (j := 0) (pc' := 210) dX12_next_209 rfl rfl rfl ?_
      refine sm_iload_n (i := 1) (j := 1) (pc' := 211) dX12_next_210 rfl rfl rfl ?_
      refine sm_iload_n (i := 2) (j := 2) (pc' := 212) dX12_next_211 rfl rfl rfl ?_
      refine sm_cVU (pc' := 215) (ci := 12) (st := []) (F := fun b => fX12_copyName b a1 a2 h) [vI a1, vI a2] yY_yX12_copyName rfl mw803 mw810 mw811 (fun b => mX12_copyName l D aC B b a1 a2 h) rfl (by decide) (by decide) (by exact Nat.le_of_ble_eq_true rfl) rfl dX12_next_212 rfl (fun _ h2 => ?_)
      refine sm_aload_n (i := 0) (j := 0) (pc' := 216) dX12_next_215 rfl rfl rfl ?_
      refine sm_getR (k := 38) (pc' := 219) kX12 (by decide) mw688 dX12_next_216 rfl (fun x3 => ?_)
      refine sm_iload_n (i := 2) (j := 2) (pc' := 220) dX12_next_219 rfl rfl rfl ?_
      refine sm_sipush (v := (130 : Int32)) (pc' := 223) dX12_next_220 rfl (by decide) ?_
      refine sm_iast (t := 0) (pc' := 224) rfl dX12_next_223 rfl (fun h4 => ?_)
      exact sm_vret rfl dX12_next_224
    refine sm_iconst (v := (0 : Int32)) (pc' := 24) dX12_next_23 rfl (by decide) ?_
    refine sm_istore (i := 7) (lv' := [(7, vI (0 : Int32)), (0, vR (some a0)), (1, vI a1), (2, vI a2), (3, vI a3), (4, vI a4), (5, vR a5), (6, vI a6)]) (pc' := 26) dX12_next_24 rfl (by decide) rfl ?_
    refine sm_lo (lv' := [(0, vR (some a0)), (1, vI a1), (2, vI a2), (3, vI a3), (4, vI a4), (5, vR a5), (6, vI a6), (7, vI (0 : Int32))]) [1, 2, 3, 4, 5, 6, 7, 0] rfl ?_
    exact sX12_next_26 l D aC B  (fX12_next_14 n) ih sm_fuel a0 a1 a2 a3 a4 a5 a6 (0 : Int32) h
noncomputable def fX12_next  (a0 : Nat) (a1 : Int32) (a2 : Int32) (h : sm_H) : Option (Unit × sm_H) :=
  (sm_R (sm_get h (some a0) 12 61)).bind fun x1 =>
  fX12_next_14 sm_fuel a0 a1 a2 (-1 : Int32) (0 : Int32) x1 (0 : Int32) h
set_option maxRecDepth 100000 in
set_option maxHeartbeats 4000000 in
theorem sX12_next_0 (l : Launch) (D : va_G) (aC : Nat → ClassId) (B : Nat)   (a0 : Nat) (a1 : Int32) (a2 : Int32) (h : sm_H) : zS l D aC B cX12_next 10 RX12 2 53 none "next" vlU (fX12_next a0 a1 a2 h) 0 [(0, vR (some a0)), (1, vI a1), (2, vI a2)] [] h := by
  unfold fX12_next
  refine sm_iconst (v := (-1 : Int32)) (pc' := 1) dX12_next_0 rfl (by decide) ?_
  refine sm_istore_n (i := 3) (lv' := [(3, vI (-1 : Int32)), (0, vR (some a0)), (1, vI a1), (2, vI a2)]) (pc' := 2) dX12_next_1 rfl rfl (by decide) rfl ?_
  refine sm_iconst (v := (0 : Int32)) (pc' := 3) dX12_next_2 rfl (by decide) ?_
  refine sm_istore (i := 4) (lv' := [(4, vI (0 : Int32)), (3, vI (-1 : Int32)), (0, vR (some a0)), (1, vI a1), (2, vI a2)]) (pc' := 5) dX12_next_3 rfl (by decide) rfl ?_
  refine sm_aload_n (i := 0) (j := 2) (pc' := 6) dX12_next_5 rfl rfl rfl ?_
  refine sm_getR (k := 61) (pc' := 9) kX12 (by decide) mw695 dX12_next_6 rfl (fun x1 => ?_)
  refine sm_astore (i := 5) (lv' := [(5, vR x1), (4, vI (0 : Int32)), (3, vI (-1 : Int32)), (0, vR (some a0)), (1, vI a1), (2, vI a2)]) (pc' := 11) dX12_next_9 rfl (by decide) rfl ?_
  refine sm_iconst (v := (0 : Int32)) (pc' := 12) dX12_next_11 rfl (by decide) ?_
  refine sm_istore (i := 6) (lv' := [(6, vI (0 : Int32)), (5, vR x1), (4, vI (0 : Int32)), (3, vI (-1 : Int32)), (0, vR (some a0)), (1, vI a1), (2, vI a2)]) (pc' := 14) dX12_next_12 rfl (by decide) rfl ?_
  refine sm_lo (lv' := [(0, vR (some a0)), (1, vI a1), (2, vI a2), (3, vI (-1 : Int32)), (4, vI (0 : Int32)), (5, vR x1), (6, vI (0 : Int32))]) [4, 5, 6, 3, 2, 1, 0] rfl ?_
  exact sX12_next_14 l D aC B   sm_fuel a0 a1 a2 (-1 : Int32) (0 : Int32) x1 (0 : Int32) h
set_option maxRecDepth 100000 in
theorem mX12_next (l : Launch) (D : va_G) (aC : Nat → ClassId) (B : Nat) (a0 : Nat) (a1 : Int32) (a2 : Int32) (h : sm_H) : sm_M l D vwCl gAts aC B gTs gNs gOs yX12_next cX12_next 10 none 2 53 vlU [vR (some a0), vI a1, vI a2] h (fX12_next a0 a1 a2 h) := sm_meth [vR (some a0), vI a1, vI a2] yY_yX12_next gG gN (Nat.le_of_ble_eq_true rfl) rfl (sX12_next_0 l D aC B a0 a1 a2 h)
