-- M:TreeAgent.errorInVersion(I)I
noncomputable def fX11_errorInVersion  (a0 : Nat) (a1 : Int32) (h : sm_H) : Option (Int32 × sm_H) :=
  (sm_R (sm_get h (some a0) 11 4)).bind fun x1 =>
  (sm_I (sm_get h x1 3 3)).bind fun x2 =>
  if x2 = 0 then (
    if a1 = (7 : Int32) then (
      some ((3 : Int32), h)
    ) else
    if a1 = (8 : Int32) then (
      some ((3 : Int32), h)
    ) else
    if a1 = (9 : Int32) then (
      some ((2 : Int32), h)
    ) else
    if a1 = (10 : Int32) then (
      some ((3 : Int32), h)
    ) else
    if a1 = (11 : Int32) then (
      some ((3 : Int32), h)
    ) else
    if a1 = (12 : Int32) then (
      some ((3 : Int32), h)
    ) else
    if a1 = (13 : Int32) then (
      some ((5 : Int32), h)
    ) else
    some ((2 : Int32), h)
  ) else
  some (a1, h)
set_option maxRecDepth 100000 in
set_option maxHeartbeats 4000000 in
theorem sX11_errorInVersion_0 (l : Launch) (D : va_G) (aC : Nat → ClassId) (B : Nat)   (a0 : Nat) (a1 : Int32) (h : sm_H) : zS l D aC B cX11_errorInVersion 2 RX11 0 0 (some .int) "errorInVersion" vlI (fX11_errorInVersion a0 a1 h) 0 [(0, vR (some a0)), (1, vI a1)] [] h := by
  unfold fX11_errorInVersion
  refine sm_aload_n (i := 0) (j := 0) (pc' := 1) dX11_errorInVersion_0 rfl rfl rfl ?_
  refine sm_getR (k := 4) (pc' := 4) kX11 (by decide) mw399 dX11_errorInVersion_1 rfl (fun x1 => ?_)
  refine sm_getIN (k := 3) (pc' := 7) kX3 (by decide) mw577 dX11_errorInVersion_4 rfl (fun x2 => ?_)
  refine sm_if_eq (tgt := 12) (pc' := 10) dX11_errorInVersion_7 (by decide) rfl ?_ ?_
  · refine sm_iload_n (i := 1) (j := 1) (pc' := 13) dX11_errorInVersion_12 rfl rfl rfl ?_
    refine sm_ite (fun c3 => ?_) (fun c3 => ?_)
    · refine sm_tbI (pc' := 56) (43) dX11_errorInVersion_13 (by rw [c3]; decide) (by rw [c3]; decide) (by rw [c3]; decide) (by decide) ?_
      refine sm_iconst (v := (3 : Int32)) (pc' := 57) dX11_errorInVersion_56 rfl (by decide) ?_
      exact sm_iret rfl dX11_errorInVersion_57
    refine sm_ite (fun c4 => ?_) (fun c4 => ?_)
    · refine sm_tbI (pc' := 56) (43) dX11_errorInVersion_13 (by rw [c4]; decide) (by rw [c4]; decide) (by rw [c4]; decide) (by decide) ?_
      refine sm_iconst (v := (3 : Int32)) (pc' := 57) dX11_errorInVersion_56 rfl (by decide) ?_
      exact sm_iret rfl dX11_errorInVersion_57
    refine sm_ite (fun c5 => ?_) (fun c5 => ?_)
    · refine sm_tbI (pc' := 60) (47) dX11_errorInVersion_13 (by rw [c5]; decide) (by rw [c5]; decide) (by rw [c5]; decide) (by decide) ?_
      refine sm_iconst (v := (2 : Int32)) (pc' := 61) dX11_errorInVersion_60 rfl (by decide) ?_
      exact sm_iret rfl dX11_errorInVersion_61
    refine sm_ite (fun c6 => ?_) (fun c6 => ?_)
    · refine sm_tbI (pc' := 56) (43) dX11_errorInVersion_13 (by rw [c6]; decide) (by rw [c6]; decide) (by rw [c6]; decide) (by decide) ?_
      refine sm_iconst (v := (3 : Int32)) (pc' := 57) dX11_errorInVersion_56 rfl (by decide) ?_
      exact sm_iret rfl dX11_errorInVersion_57
    refine sm_ite (fun c7 => ?_) (fun c7 => ?_)
    · refine sm_tbI (pc' := 56) (43) dX11_errorInVersion_13 (by rw [c7]; decide) (by rw [c7]; decide) (by rw [c7]; decide) (by decide) ?_
      refine sm_iconst (v := (3 : Int32)) (pc' := 57) dX11_errorInVersion_56 rfl (by decide) ?_
      exact sm_iret rfl dX11_errorInVersion_57
    refine sm_ite (fun c8 => ?_) (fun c8 => ?_)
    · refine sm_tbI (pc' := 56) (43) dX11_errorInVersion_13 (by rw [c8]; decide) (by rw [c8]; decide) (by rw [c8]; decide) (by decide) ?_
      refine sm_iconst (v := (3 : Int32)) (pc' := 57) dX11_errorInVersion_56 rfl (by decide) ?_
      exact sm_iret rfl dX11_errorInVersion_57
    refine sm_ite (fun c9 => ?_) (fun c9 => ?_)
    · refine sm_tbI (pc' := 58) (45) dX11_errorInVersion_13 (by rw [c9]; decide) (by rw [c9]; decide) (by rw [c9]; decide) (by decide) ?_
      refine sm_iconst (v := (5 : Int32)) (pc' := 59) dX11_errorInVersion_58 rfl (by decide) ?_
      exact sm_iret rfl dX11_errorInVersion_59
    have hout : a1.toInt < 7 ∨ 13 < a1.toInt := by
      have qc3 := lv_neT (k := (7 : Int32)) (a := 7) c3 (by decide)
      have qc4 := lv_neT (k := (8 : Int32)) (a := 8) c4 (by decide)
      have qc5 := lv_neT (k := (9 : Int32)) (a := 9) c5 (by decide)
      have qc6 := lv_neT (k := (10 : Int32)) (a := 10) c6 (by decide)
      have qc7 := lv_neT (k := (11 : Int32)) (a := 11) c7 (by decide)
      have qc8 := lv_neT (k := (12 : Int32)) (a := 12) c8 (by decide)
      have qc9 := lv_neT (k := (13 : Int32)) (a := 13) c9 (by decide)
      omega
    refine sm_tbO (pc' := 60) dX11_errorInVersion_13 hout (by decide) ?_
    refine sm_iconst (v := (2 : Int32)) (pc' := 61) dX11_errorInVersion_60 rfl (by decide) ?_
    exact sm_iret rfl dX11_errorInVersion_61
  refine sm_iload_n (i := 1) (j := 1) (pc' := 11) dX11_errorInVersion_10 rfl rfl rfl ?_
  exact sm_iret rfl dX11_errorInVersion_11
set_option maxRecDepth 100000 in
theorem mX11_errorInVersion (l : Launch) (D : va_G) (aC : Nat → ClassId) (B : Nat) (a0 : Nat) (a1 : Int32) (h : sm_H) : sm_M l D vwCl gAts aC B gTs gNs gOs yX11_errorInVersion cX11_errorInVersion 2 (some .int) 0 0 vlI [vR (some a0), vI a1] h (fX11_errorInVersion a0 a1 h) := sm_meth [vR (some a0), vI a1] yY_yX11_errorInVersion gG gN (Nat.le_of_ble_eq_true rfl) rfl (sX11_errorInVersion_0 l D aC B a0 a1 h)
-- M:TreeAgent.tellSet()V
noncomputable def fX11_tellSet_56  : Nat → Nat → Int32 → sm_H → Option (Unit × sm_H)
  | 0 => fun _ _ _ => none
  | n + 1 => fun a0 a1 h =>
    (sm_R (sm_get h (some a0) 11 4)).bind fun x1 =>
    (sm_I (sm_get h x1 3 8)).bind fun x2 =>
    if x2 ≤ a1 then (
      (sm_R (sm_get h (some a0) 11 7)).bind fun x3 =>
      (sm_R (sm_get h (some a0) 11 4)).bind fun x4 =>
      (sm_obj h x3 6).bind fun b6 =>
      sm_cb (fX6_tellAsked b6 x4 h) fun _ h5 =>
      some ((), h5)
    ) else
    (sm_R (sm_get h (some a0) 11 6)).bind fun x7 =>
    (sm_obj h x7 1).bind fun b17 =>
    sm_cb (fX1_faultAt b17 a1 h) fun x8 h9 =>
    if x8 = 0 then (
      sm_let (a1 + (1 : Int32)) fun x10 =>
      (fX11_tellSet_56 n) a0 x10 h9
    ) else
    (sm_R (sm_get h9 (some a0) 11 7)).bind fun x11 =>
    (sm_obj h9 (some a0) 11).bind fun b16 =>
    sm_cb (fX11_errorInVersion b16 x8 h9) fun x12 h13 =>
    (sm_obj h13 x11 6).bind fun b15 =>
    sm_cb (fX6_fail b15 x12 (a1 + (1 : Int32)) h13) fun _ h14 =>
    some ((), h14)
set_option maxRecDepth 100000 in
set_option maxHeartbeats 4000000 in
theorem sX11_tellSet_56 (l : Launch) (D : va_G) (aC : Nat → ClassId) (B : Nat)   (n : Nat) : ∀ (a0 : Nat) (a1 : Int32) (h : sm_H), zS l D aC B cX11_tellSet 3 RX11 6 145 none "tellSet" vlU (fX11_tellSet_56 n a0 a1 h) 56 [(0, vR (some a0)), (1, vI a1)] [] h := by
  induction n with
  | zero => intro a0 a1 h; exact sm_none
  | succ n ih =>
    intro a0 a1 h
    show zS l D aC B cX11_tellSet 3 RX11 6 145 none "tellSet" vlU (fX11_tellSet_56 (n + 1) a0 a1 h) 56 [(0, vR (some a0)), (1, vI a1)] [] h
    unfold fX11_tellSet_56
    refine sm_iload_n (i := 1) (j := 1) (pc' := 57) dX11_tellSet_56 rfl rfl rfl ?_
    refine sm_aload_n (i := 0) (j := 0) (pc' := 58) dX11_tellSet_57 rfl rfl rfl ?_
    refine sm_getR (k := 4) (pc' := 61) kX11 (by decide) mw399 dX11_tellSet_58 rfl (fun x1 => ?_)
    refine sm_getIN (k := 8) (pc' := 64) kX3 (by decide) mw574 dX11_tellSet_61 rfl (fun x2 => ?_)
    refine sm_icmp_ge (tgt := 102) (pc' := 67) dX11_tellSet_64 (by decide) rfl ?_ ?_
    · refine sm_aload_n (i := 0) (j := 0) (pc' := 103) dX11_tellSet_102 rfl rfl rfl ?_
      refine sm_getR (k := 7) (pc' := 106) kX11 (by decide) mw405 dX11_tellSet_103 rfl (fun x3 => ?_)
      refine sm_aload_n (i := 0) (j := 0) (pc' := 107) dX11_tellSet_106 rfl rfl rfl ?_
      refine sm_getR (k := 4) (pc' := 110) kX11 (by decide) mw399 dX11_tellSet_107 rfl (fun x4 => ?_)
      refine sm_cVU (pc' := 113) (ci := 6) (st := []) (F := fun b => fX6_tellAsked b x4 h) [vR x4] yY_yX6_tellAsked rfl mw607 mw608 mw609 (fun b => mX6_tellAsked l D aC B b x4 h) rfl (by decide) (by decide) (by exact Nat.le_of_ble_eq_true rfl) rfl dX11_tellSet_110 rfl (fun _ h5 => ?_)
      exact sm_vret rfl dX11_tellSet_113
    refine sm_aload_n (i := 0) (j := 0) (pc' := 68) dX11_tellSet_67 rfl rfl rfl ?_
    refine sm_getR (k := 6) (pc' := 71) kX11 (by decide) mw403 dX11_tellSet_68 rfl (fun x7 => ?_)
    refine sm_iload_n (i := 1) (j := 1) (pc' := 72) dX11_tellSet_71 rfl rfl rfl ?_
    refine sm_cVI (pc' := 75) (ci := 1) (st := []) (F := fun b => fX1_faultAt b a1 h) [vI a1] yY_yX1_faultAt rfl mw610 mw614 mw615 (fun b => mX1_faultAt l D aC B b a1 h) rfl (by decide) (by decide) (by exact Nat.le_of_ble_eq_true rfl) rfl dX11_tellSet_72 rfl (fun x8 h9 => ?_)
    refine sm_istore_n (i := 2) (lv' := [(2, vI x8), (0, vR (some a0)), (1, vI a1)]) (pc' := 76) dX11_tellSet_75 rfl rfl (by decide) rfl ?_
    refine sm_iload_n (i := 2) (j := 0) (pc' := 77) dX11_tellSet_76 rfl rfl rfl ?_
    refine sm_if_eq (tgt := 96) (pc' := 80) dX11_tellSet_77 (by decide) rfl ?_ ?_
    · refine sm_iincL (i := 1) (j := 2) (x := a1) (d := (1 : Int32)) (fun x10 => [(1, vI x10), (2, vI x8), (0, vR (some a0))]) (pc' := 99) dX11_tellSet_96 rfl rfl (by decide) (by decide) (fun _ => rfl) (fun x10 => ?_)
      refine sm_goto (pc' := 56) dX11_tellSet_99 (by decide) ?_
      refine sm_lo (lv' := [(0, vR (some a0)), (1, vI x10)]) [2, 0] rfl ?_
      exact ih a0 x10 h9
    refine sm_aload_n (i := 0) (j := 1) (pc' := 81) dX11_tellSet_80 rfl rfl rfl ?_
    refine sm_getR (k := 7) (pc' := 84) kX11 (by decide) mw405 dX11_tellSet_81 rfl (fun x11 => ?_)
    refine sm_aload_n (i := 0) (j := 1) (pc' := 85) dX11_tellSet_84 rfl rfl rfl ?_
    refine sm_iload_n (i := 2) (j := 0) (pc' := 86) dX11_tellSet_85 rfl rfl rfl ?_
    refine sm_cVI (pc' := 89) (ci := 11) (st := [vR x11]) (F := fun b => fX11_errorInVersion b x8 h9) [vI x8] yY_yX11_errorInVersion rfl mw611 mw612 mw613 (fun b => mX11_errorInVersion l D aC B b x8 h9) rfl (by decide) (by decide) (by exact Nat.le_of_ble_eq_true rfl) rfl dX11_tellSet_86 rfl (fun x12 h13 => ?_)
    refine sm_iload_n (i := 1) (j := 2) (pc' := 90) dX11_tellSet_89 rfl rfl rfl ?_
    refine sm_iconst (v := (1 : Int32)) (pc' := 91) dX11_tellSet_90 rfl (by decide) ?_
    refine sm_iadd (pc' := 92) dX11_tellSet_91 rfl ?_
    refine sm_cVU (pc' := 95) (ci := 6) (st := []) (F := fun b => fX6_fail b x12 (a1 + (1 : Int32)) h13) [vI x12, vI (a1 + (1 : Int32))] yY_yX6_fail rfl mw579 mw280 mw281 (fun b => mX6_fail l D aC B b x12 (a1 + (1 : Int32)) h13) rfl (by decide) (by decide) (by exact Nat.le_of_ble_eq_true rfl) rfl dX11_tellSet_92 rfl (fun _ h14 => ?_)
    exact sm_vret rfl dX11_tellSet_95
noncomputable def fX11_tellSet  (a0 : Nat) (h : sm_H) : Option (Unit × sm_H) :=
  (sm_R (sm_get h (some a0) 11 4)).bind fun x1 =>
  (sm_R (sm_get h x1 3 2)).bind fun x2 =>
  if x2 = none then (
    some ((), h)
  ) else
  (sm_R (sm_get h (some a0) 11 4)).bind fun x3 =>
  (sm_I (sm_get h x3 3 8)).bind fun x4 =>
  if x4 = 0 then (
    some ((), h)
  ) else
  (sm_R (sm_get h (some a0) 11 4)).bind fun x5 =>
  (sm_R (sm_get h x5 3 2)).bind fun x6 =>
  (sm_I (sm_get h x6 2 1)).bind fun x7 =>
  if x7 = 0 then (
    (sm_obj h (some a0) 11).bind fun b15 =>
    sm_cb (fX11_countOne b15 (4 : Int32) h) fun _ h8 =>
    (sm_R (sm_get h8 (some a0) 11 7)).bind fun x9 =>
    (sm_obj h8 (some a0) 11).bind fun b14 =>
    sm_cb (fX11_errorInVersion b14 (6 : Int32) h8) fun x10 h11 =>
    (sm_obj h11 x9 6).bind fun b13 =>
    sm_cb (fX6_fail b13 x10 (1 : Int32) h11) fun _ h12 =>
    some ((), h12)
  ) else
  fX11_tellSet_56 sm_fuel a0 (0 : Int32) h
set_option maxRecDepth 100000 in
set_option maxHeartbeats 4000000 in
theorem sX11_tellSet_0 (l : Launch) (D : va_G) (aC : Nat → ClassId) (B : Nat)   (a0 : Nat) (h : sm_H) : zS l D aC B cX11_tellSet 3 RX11 6 145 none "tellSet" vlU (fX11_tellSet a0 h) 0 [(0, vR (some a0))] [] h := by
  unfold fX11_tellSet
  refine sm_aload_n (i := 0) (j := 0) (pc' := 1) dX11_tellSet_0 rfl rfl rfl ?_
  refine sm_getR (k := 4) (pc' := 4) kX11 (by decide) mw399 dX11_tellSet_1 rfl (fun x1 => ?_)
  refine sm_getRN (k := 2) (pc' := 7) kX3 (by decide) mw558 dX11_tellSet_4 rfl (fun x2 => ?_)
  refine sm_ifnull (tgt := 20) (pc' := 10) dX11_tellSet_7 (by decide) rfl ?_ ?_
  · exact sm_vret rfl dX11_tellSet_20
  refine sm_aload_n (i := 0) (j := 0) (pc' := 11) dX11_tellSet_10 rfl rfl rfl ?_
  refine sm_getR (k := 4) (pc' := 14) kX11 (by decide) mw399 dX11_tellSet_11 rfl (fun x3 => ?_)
  refine sm_getIN (k := 8) (pc' := 17) kX3 (by decide) mw574 dX11_tellSet_14 rfl (fun x4 => ?_)
  refine sm_if_ne (tgt := 21) (pc' := 20) dX11_tellSet_17 (by decide) rfl ?_ ?_
  · refine sm_aload_n (i := 0) (j := 0) (pc' := 22) dX11_tellSet_21 rfl rfl rfl ?_
    refine sm_getR (k := 4) (pc' := 25) kX11 (by decide) mw399 dX11_tellSet_22 rfl (fun x5 => ?_)
    refine sm_getRN (k := 2) (pc' := 28) kX3 (by decide) mw558 dX11_tellSet_25 rfl (fun x6 => ?_)
    refine sm_getIN (k := 1) (pc' := 31) kX2 (by decide) mw616 dX11_tellSet_28 rfl (fun x7 => ?_)
    refine sm_if_ne (tgt := 54) (pc' := 34) dX11_tellSet_31 (by decide) rfl ?_ ?_
    · refine sm_iconst (v := (0 : Int32)) (pc' := 55) dX11_tellSet_54 rfl (by decide) ?_
      refine sm_istore_n (i := 1) (lv' := [(1, vI (0 : Int32)), (0, vR (some a0))]) (pc' := 56) dX11_tellSet_55 rfl rfl (by decide) rfl ?_
      refine sm_lo (lv' := [(0, vR (some a0)), (1, vI (0 : Int32))]) [1, 0] rfl ?_
      exact sX11_tellSet_56 l D aC B   sm_fuel a0 (0 : Int32) h
    refine sm_aload_n (i := 0) (j := 0) (pc' := 35) dX11_tellSet_34 rfl rfl rfl ?_
    refine sm_iconst (v := (4 : Int32)) (pc' := 36) dX11_tellSet_35 rfl (by decide) ?_
    refine sm_cVU (pc' := 39) (ci := 11) (st := []) (F := fun b => fX11_countOne b (4 : Int32) h) [vI (4 : Int32)] yY_yX11_countOne rfl mw617 mw618 mw619 (fun b => mX11_countOne l D aC B b (4 : Int32) h) rfl (by decide) (by decide) (by exact Nat.le_of_ble_eq_true rfl) rfl dX11_tellSet_36 rfl (fun _ h8 => ?_)
    refine sm_aload_n (i := 0) (j := 0) (pc' := 40) dX11_tellSet_39 rfl rfl rfl ?_
    refine sm_getR (k := 7) (pc' := 43) kX11 (by decide) mw405 dX11_tellSet_40 rfl (fun x9 => ?_)
    refine sm_aload_n (i := 0) (j := 0) (pc' := 44) dX11_tellSet_43 rfl rfl rfl ?_
    refine sm_bipush (v := (6 : Int32)) (pc' := 46) dX11_tellSet_44 rfl (by decide) ?_
    refine sm_cVI (pc' := 49) (ci := 11) (st := [vR x9]) (F := fun b => fX11_errorInVersion b (6 : Int32) h8) [vI (6 : Int32)] yY_yX11_errorInVersion rfl mw611 mw612 mw613 (fun b => mX11_errorInVersion l D aC B b (6 : Int32) h8) rfl (by decide) (by decide) (by exact Nat.le_of_ble_eq_true rfl) rfl dX11_tellSet_46 rfl (fun x10 h11 => ?_)
    refine sm_iconst (v := (1 : Int32)) (pc' := 50) dX11_tellSet_49 rfl (by decide) ?_
    refine sm_cVU (pc' := 53) (ci := 6) (st := []) (F := fun b => fX6_fail b x10 (1 : Int32) h11) [vI x10, vI (1 : Int32)] yY_yX6_fail rfl mw579 mw280 mw281 (fun b => mX6_fail l D aC B b x10 (1 : Int32) h11) rfl (by decide) (by decide) (by exact Nat.le_of_ble_eq_true rfl) rfl dX11_tellSet_50 rfl (fun _ h12 => ?_)
    exact sm_vret rfl dX11_tellSet_53
  exact sm_vret rfl dX11_tellSet_20
set_option maxRecDepth 100000 in
theorem mX11_tellSet (l : Launch) (D : va_G) (aC : Nat → ClassId) (B : Nat) (a0 : Nat) (h : sm_H) : sm_M l D vwCl gAts aC B gTs gNs gOs yX11_tellSet cX11_tellSet 3 none 6 145 vlU [vR (some a0)] h (fX11_tellSet a0 h) := sm_meth [vR (some a0)] yY_yX11_tellSet gG gN (Nat.le_of_ble_eq_true rfl) rfl (sX11_tellSet_0 l D aC B a0 h)
-- M:TreeAgent.give()I
noncomputable def fX11_give_138  (a0 : Nat) (a1 : Int32) (h : sm_H) : Option (Int32 × sm_H) :=
  (sm_R (sm_get h (some a0) 11 7)).bind fun x1 =>
  (sm_R (sm_get h (some a0) 11 4)).bind fun x2 =>
  (sm_obj h x1 6).bind fun b18 =>
  sm_cb (fX6_write b18 x2 h) fun _ h3 =>
  (sm_obj h3 (some a0) 11).bind fun b17 =>
  sm_cb (fX11_countOne b17 (6 : Int32) h3) fun _ h4 =>
  if a1 = 0 then (
    (sm_R (sm_get h4 (some a0) 11 7)).bind fun x5 =>
    (sm_R (sm_get h4 x5 6 0)).bind fun x6 =>
    (sm_obj h4 x6 0).bind fun b9 =>
    sm_cb (fX0_size b9 h4) fun x7 h8 =>
    some (x7, h8)
  ) else
  (sm_obj h4 (some a0) 11).bind fun b16 =>
  sm_cb (fX11_countOne b16 (7 : Int32) h4) fun _ h10 =>
  (sm_R (sm_get h10 (some a0) 11 7)).bind fun x11 =>
  (sm_R (sm_get h10 x11 6 0)).bind fun x12 =>
  (sm_obj h10 x12 0).bind fun b15 =>
  sm_cb (fX0_size b15 h10) fun x13 h14 =>
  some (x13, h14)
set_option maxRecDepth 100000 in
set_option maxHeartbeats 4000000 in
theorem sX11_give_138 (l : Launch) (D : va_G) (aC : Nat → ClassId) (B : Nat)   (a0 : Nat) (a1 : Int32) (h : sm_H) : zS l D aC B cX11_give 2 RX11 6 132 (some .int) "give" vlI (fX11_give_138 a0 a1 h) 138 [(0, vR (some a0)), (1, vI a1)] [] h := by
  unfold fX11_give_138
  refine sm_aload_n (i := 0) (j := 0) (pc' := 139) dX11_give_138 rfl rfl rfl ?_
  refine sm_getR (k := 7) (pc' := 142) kX11 (by decide) mw405 dX11_give_139 rfl (fun x1 => ?_)
  refine sm_aload_n (i := 0) (j := 0) (pc' := 143) dX11_give_142 rfl rfl rfl ?_
  refine sm_getR (k := 4) (pc' := 146) kX11 (by decide) mw399 dX11_give_143 rfl (fun x2 => ?_)
  refine sm_cVU (pc' := 149) (ci := 6) (st := []) (F := fun b => fX6_write b x2 h) [vR x2] yY_yX6_write rfl mw620 mw622 mw623 (fun b => mX6_write l D aC B b x2 h) rfl (by decide) (by decide) (by exact Nat.le_of_ble_eq_true rfl) rfl dX11_give_146 rfl (fun _ h3 => ?_)
  refine sm_aload_n (i := 0) (j := 0) (pc' := 150) dX11_give_149 rfl rfl rfl ?_
  refine sm_bipush (v := (6 : Int32)) (pc' := 152) dX11_give_150 rfl (by decide) ?_
  refine sm_cVU (pc' := 155) (ci := 11) (st := []) (F := fun b => fX11_countOne b (6 : Int32) h3) [vI (6 : Int32)] yY_yX11_countOne rfl mw617 mw618 mw619 (fun b => mX11_countOne l D aC B b (6 : Int32) h3) rfl (by decide) (by decide) (by exact Nat.le_of_ble_eq_true rfl) rfl dX11_give_152 rfl (fun _ h4 => ?_)
  refine sm_iload_n (i := 1) (j := 1) (pc' := 156) dX11_give_155 rfl rfl rfl ?_
  refine sm_if_eq (tgt := 165) (pc' := 159) dX11_give_156 (by decide) rfl ?_ ?_
  · refine sm_aload_n (i := 0) (j := 0) (pc' := 166) dX11_give_165 rfl rfl rfl ?_
    refine sm_getR (k := 7) (pc' := 169) kX11 (by decide) mw405 dX11_give_166 rfl (fun x5 => ?_)
    refine sm_getRN (k := 0) (pc' := 172) kX6 (by decide) mw621 dX11_give_169 rfl (fun x6 => ?_)
    refine sm_cVI (pc' := 175) (ci := 0) (st := []) (F := fun b => fX0_size b h4) [] yY_yX0_size rfl mw436 mw32 mw33 (fun b => mX0_size l D aC B b h4) rfl (by decide) (by decide) (by exact Nat.le_of_ble_eq_true rfl) rfl dX11_give_172 rfl (fun x7 h8 => ?_)
    exact sm_iret rfl dX11_give_175
  refine sm_aload_n (i := 0) (j := 0) (pc' := 160) dX11_give_159 rfl rfl rfl ?_
  refine sm_bipush (v := (7 : Int32)) (pc' := 162) dX11_give_160 rfl (by decide) ?_
  refine sm_cVU (pc' := 165) (ci := 11) (st := []) (F := fun b => fX11_countOne b (7 : Int32) h4) [vI (7 : Int32)] yY_yX11_countOne rfl mw617 mw618 mw619 (fun b => mX11_countOne l D aC B b (7 : Int32) h4) rfl (by decide) (by decide) (by exact Nat.le_of_ble_eq_true rfl) rfl dX11_give_162 rfl (fun _ h10 => ?_)
  refine sm_aload_n (i := 0) (j := 0) (pc' := 166) dX11_give_165 rfl rfl rfl ?_
  refine sm_getR (k := 7) (pc' := 169) kX11 (by decide) mw405 dX11_give_166 rfl (fun x11 => ?_)
  refine sm_getRN (k := 0) (pc' := 172) kX6 (by decide) mw621 dX11_give_169 rfl (fun x12 => ?_)
  refine sm_cVI (pc' := 175) (ci := 0) (st := []) (F := fun b => fX0_size b h10) [] yY_yX0_size rfl mw436 mw32 mw33 (fun b => mX0_size l D aC B b h10) rfl (by decide) (by decide) (by exact Nat.le_of_ble_eq_true rfl) rfl dX11_give_172 rfl (fun x13 h14 => ?_)
  exact sm_iret rfl dX11_give_175
noncomputable def fX11_give_89  (a0 : Nat) (a1 : Int32) (h : sm_H) : Option (Int32 × sm_H) :=
  (sm_R (sm_get h (some a0) 11 7)).bind fun x1 =>
  (sm_R (sm_get h (some a0) 11 4)).bind fun x2 =>
  (sm_obj h x1 6).bind fun b13 =>
  sm_cb (fX6_sizeFor b13 x2 h) fun x3 h4 =>
  (sm_I (sm_get h4 (some a0) 11 15)).bind fun x5 =>
  if x3 ≤ x5 then (
    if a1 = 0 then (
      (sm_R (sm_get h4 (some a0) 11 4)).bind fun x6 =>
      (sm_I (sm_get h4 x6 3 4)).bind fun x7 =>
      if x7 = (163 : Int32) then (
        (sm_R (sm_get h4 (some a0) 11 6)).bind fun x8 =>
        (sm_obj h4 x8 1).bind fun b10 =>
        sm_cb (fX1_apply b10 h4) fun _ h9 =>
        fX11_give_138 a0 a1 h9
      ) else
      fX11_give_138 a0 a1 h4
    ) else
    fX11_give_138 a0 a1 h4
  ) else
  (sm_obj h4 (some a0) 11).bind fun b12 =>
  sm_cb (fX11_countOne b12 (5 : Int32) h4) fun _ h11 =>
  some ((0 : Int32), h11)
set_option maxRecDepth 100000 in
set_option maxHeartbeats 4000000 in
theorem sX11_give_89 (l : Launch) (D : va_G) (aC : Nat → ClassId) (B : Nat)   (a0 : Nat) (a1 : Int32) (h : sm_H) : zS l D aC B cX11_give 2 RX11 6 132 (some .int) "give" vlI (fX11_give_89 a0 a1 h) 89 [(0, vR (some a0)), (1, vI a1)] [] h := by
  unfold fX11_give_89
  refine sm_aload_n (i := 0) (j := 0) (pc' := 90) dX11_give_89 rfl rfl rfl ?_
  refine sm_getR (k := 7) (pc' := 93) kX11 (by decide) mw405 dX11_give_90 rfl (fun x1 => ?_)
  refine sm_aload_n (i := 0) (j := 0) (pc' := 94) dX11_give_93 rfl rfl rfl ?_
  refine sm_getR (k := 4) (pc' := 97) kX11 (by decide) mw399 dX11_give_94 rfl (fun x2 => ?_)
  refine sm_cVI (pc' := 100) (ci := 6) (st := []) (F := fun b => fX6_sizeFor b x2 h) [vR x2] yY_yX6_sizeFor rfl mw624 mw629 mw630 (fun b => mX6_sizeFor l D aC B b x2 h) rfl (by decide) (by decide) (by exact Nat.le_of_ble_eq_true rfl) rfl dX11_give_97 rfl (fun x3 h4 => ?_)
  refine sm_aload_n (i := 0) (j := 0) (pc' := 101) dX11_give_100 rfl rfl rfl ?_
  refine sm_getI (k := 15) (pc' := 104) kX11 (by decide) mw413 dX11_give_101 rfl (fun x5 => ?_)
  refine sm_icmp_le (tgt := 114) (pc' := 107) dX11_give_104 (by decide) rfl ?_ ?_
  · refine sm_iload_n (i := 1) (j := 1) (pc' := 115) dX11_give_114 rfl rfl rfl ?_
    refine sm_if_ne (tgt := 138) (pc' := 118) dX11_give_115 (by decide) rfl ?_ ?_
    · exact sX11_give_138 l D aC B  a0 a1 h4
    refine sm_aload_n (i := 0) (j := 0) (pc' := 119) dX11_give_118 rfl rfl rfl ?_
    refine sm_getR (k := 4) (pc' := 122) kX11 (by decide) mw399 dX11_give_119 rfl (fun x6 => ?_)
    refine sm_getIN (k := 4) (pc' := 125) kX3 (by decide) mw625 dX11_give_122 rfl (fun x7 => ?_)
    refine sm_sipush (v := (163 : Int32)) (pc' := 128) dX11_give_125 rfl (by decide) ?_
    refine sm_icmp_ne (tgt := 138) (pc' := 131) dX11_give_128 (by decide) rfl ?_ ?_
    · exact sX11_give_138 l D aC B  a0 a1 h4
    refine sm_aload_n (i := 0) (j := 0) (pc' := 132) dX11_give_131 rfl rfl rfl ?_
    refine sm_getR (k := 6) (pc' := 135) kX11 (by decide) mw403 dX11_give_132 rfl (fun x8 => ?_)
    refine sm_cVU (pc' := 138) (ci := 1) (st := []) (F := fun b => fX1_apply b h4) [] yY_yX1_apply rfl mw626 mw627 mw628 (fun b => mX1_apply l D aC B b h4) rfl (by decide) (by decide) (by exact Nat.le_of_ble_eq_true rfl) rfl dX11_give_135 rfl (fun _ h9 => ?_)
    exact sX11_give_138 l D aC B  a0 a1 h9
  refine sm_aload_n (i := 0) (j := 0) (pc' := 108) dX11_give_107 rfl rfl rfl ?_
  refine sm_iconst (v := (5 : Int32)) (pc' := 109) dX11_give_108 rfl (by decide) ?_
  refine sm_cVU (pc' := 112) (ci := 11) (st := []) (F := fun b => fX11_countOne b (5 : Int32) h4) [vI (5 : Int32)] yY_yX11_countOne rfl mw617 mw618 mw619 (fun b => mX11_countOne l D aC B b (5 : Int32) h4) rfl (by decide) (by decide) (by exact Nat.le_of_ble_eq_true rfl) rfl dX11_give_109 rfl (fun _ h11 => ?_)
  refine sm_iconst (v := (0 : Int32)) (pc' := 113) dX11_give_112 rfl (by decide) ?_
  exact sm_iret rfl dX11_give_113
noncomputable def fX11_give_52  (a0 : Nat) (s0 : Int32) (h : sm_H) : Option (Int32 × sm_H) :=
  if s0 = 0 then (
    fX11_give_89 a0 s0 h
  ) else
  (sm_R (sm_get h (some a0) 11 7)).bind fun x1 =>
  (sm_obj h x1 6).bind fun b14 =>
  sm_cb (fX6_error b14 h) fun x2 h3 =>
  if x2 = (1 : Int32) then (
    (sm_R (sm_get h3 (some a0) 11 4)).bind fun x8 =>
    (sm_I (sm_get h3 x8 3 3)).bind fun x9 =>
    if x9 = 0 then (
      (sm_R (sm_get h3 (some a0) 11 7)).bind fun x10 =>
      (sm_R (sm_get h3 (some a0) 11 4)).bind fun x11 =>
      (sm_obj h3 x10 6).bind fun b13 =>
      sm_cb (fX6_tellAsked b13 x11 h3) fun _ h12 =>
      fX11_give_89 a0 s0 h12
    ) else
    fX11_give_89 a0 s0 h3
  ) else
  (sm_R (sm_get h3 (some a0) 11 7)).bind fun x4 =>
  (sm_R (sm_get h3 (some a0) 11 4)).bind fun x5 =>
  (sm_obj h3 x4 6).bind fun b7 =>
  sm_cb (fX6_tellAsked b7 x5 h3) fun _ h6 =>
  fX11_give_89 a0 s0 h6
set_option maxRecDepth 100000 in
set_option maxHeartbeats 4000000 in
theorem sX11_give_52 (l : Launch) (D : va_G) (aC : Nat → ClassId) (B : Nat)   (a0 : Nat) (s0 : Int32) (h : sm_H) : zS l D aC B cX11_give 2 RX11 6 132 (some .int) "give" vlI (fX11_give_52 a0 s0 h) 52 [(0, vR (some a0))] [vI s0] h := by
  unfold fX11_give_52
  refine sm_istore_n (i := 1) (lv' := [(1, vI s0), (0, vR (some a0))]) (pc' := 53) dX11_give_52 rfl rfl (by decide) rfl ?_
  refine sm_iload_n (i := 1) (j := 0) (pc' := 54) dX11_give_53 rfl rfl rfl ?_
  refine sm_if_eq (tgt := 89) (pc' := 57) dX11_give_54 (by decide) rfl ?_ ?_
  · refine sm_lo (lv' := [(0, vR (some a0)), (1, vI s0)]) [1, 0] rfl ?_
    exact sX11_give_89 l D aC B  a0 s0 h
  refine sm_aload_n (i := 0) (j := 1) (pc' := 58) dX11_give_57 rfl rfl rfl ?_
  refine sm_getR (k := 7) (pc' := 61) kX11 (by decide) mw405 dX11_give_58 rfl (fun x1 => ?_)
  refine sm_cVI (pc' := 64) (ci := 6) (st := []) (F := fun b => fX6_error b h) [] yY_yX6_error rfl mw631 mw632 mw633 (fun b => mX6_error l D aC B b h) rfl (by decide) (by decide) (by exact Nat.le_of_ble_eq_true rfl) rfl dX11_give_61 rfl (fun x2 h3 => ?_)
  refine sm_iconst (v := (1 : Int32)) (pc' := 65) dX11_give_64 rfl (by decide) ?_
  refine sm_icmp_ne (tgt := 78) (pc' := 68) dX11_give_65 (by decide) rfl ?_ ?_
  · refine sm_aload_n (i := 0) (j := 1) (pc' := 79) dX11_give_78 rfl rfl rfl ?_
    refine sm_getR (k := 7) (pc' := 82) kX11 (by decide) mw405 dX11_give_79 rfl (fun x4 => ?_)
    refine sm_aload_n (i := 0) (j := 1) (pc' := 83) dX11_give_82 rfl rfl rfl ?_
    refine sm_getR (k := 4) (pc' := 86) kX11 (by decide) mw399 dX11_give_83 rfl (fun x5 => ?_)
    refine sm_cVU (pc' := 89) (ci := 6) (st := []) (F := fun b => fX6_tellAsked b x5 h3) [vR x5] yY_yX6_tellAsked rfl mw607 mw608 mw609 (fun b => mX6_tellAsked l D aC B b x5 h3) rfl (by decide) (by decide) (by exact Nat.le_of_ble_eq_true rfl) rfl dX11_give_86 rfl (fun _ h6 => ?_)
    refine sm_lo (lv' := [(0, vR (some a0)), (1, vI s0)]) [1, 0] rfl ?_
    exact sX11_give_89 l D aC B  a0 s0 h6
  refine sm_aload_n (i := 0) (j := 1) (pc' := 69) dX11_give_68 rfl rfl rfl ?_
  refine sm_getR (k := 4) (pc' := 72) kX11 (by decide) mw399 dX11_give_69 rfl (fun x8 => ?_)
  refine sm_getIN (k := 3) (pc' := 75) kX3 (by decide) mw577 dX11_give_72 rfl (fun x9 => ?_)
  refine sm_if_ne (tgt := 89) (pc' := 78) dX11_give_75 (by decide) rfl ?_ ?_
  · refine sm_lo (lv' := [(0, vR (some a0)), (1, vI s0)]) [1, 0] rfl ?_
    exact sX11_give_89 l D aC B  a0 s0 h3
  refine sm_aload_n (i := 0) (j := 1) (pc' := 79) dX11_give_78 rfl rfl rfl ?_
  refine sm_getR (k := 7) (pc' := 82) kX11 (by decide) mw405 dX11_give_79 rfl (fun x10 => ?_)
  refine sm_aload_n (i := 0) (j := 1) (pc' := 83) dX11_give_82 rfl rfl rfl ?_
  refine sm_getR (k := 4) (pc' := 86) kX11 (by decide) mw399 dX11_give_83 rfl (fun x11 => ?_)
  refine sm_cVU (pc' := 89) (ci := 6) (st := []) (F := fun b => fX6_tellAsked b x11 h3) [vR x11] yY_yX6_tellAsked rfl mw607 mw608 mw609 (fun b => mX6_tellAsked l D aC B b x11 h3) rfl (by decide) (by decide) (by exact Nat.le_of_ble_eq_true rfl) rfl dX11_give_86 rfl (fun _ h12 => ?_)
  refine sm_lo (lv' := [(0, vR (some a0)), (1, vI s0)]) [1, 0] rfl ?_
  exact sX11_give_89 l D aC B  a0 s0 h12
noncomputable def fX11_give_37  (a0 : Nat) (h : sm_H) : Option (Int32 × sm_H) :=
  (sm_R (sm_get h (some a0) 11 7)).bind fun x1 =>
  (sm_obj h x1 6).bind fun b4 =>
  sm_cb (fX6_error b4 h) fun x2 h3 =>
  if x2 = 0 then (
    fX11_give_52 a0 (0 : Int32) h3
  ) else
  fX11_give_52 a0 (1 : Int32) h3
set_option maxRecDepth 100000 in
set_option maxHeartbeats 4000000 in
theorem sX11_give_37 (l : Launch) (D : va_G) (aC : Nat → ClassId) (B : Nat)   (a0 : Nat) (h : sm_H) : zS l D aC B cX11_give 2 RX11 6 132 (some .int) "give" vlI (fX11_give_37 a0 h) 37 [(0, vR (some a0))] [] h := by
  unfold fX11_give_37
  refine sm_aload_n (i := 0) (j := 0) (pc' := 38) dX11_give_37 rfl rfl rfl ?_
  refine sm_getR (k := 7) (pc' := 41) kX11 (by decide) mw405 dX11_give_38 rfl (fun x1 => ?_)
  refine sm_cVI (pc' := 44) (ci := 6) (st := []) (F := fun b => fX6_error b h) [] yY_yX6_error rfl mw631 mw632 mw633 (fun b => mX6_error l D aC B b h) rfl (by decide) (by decide) (by exact Nat.le_of_ble_eq_true rfl) rfl dX11_give_41 rfl (fun x2 h3 => ?_)
  refine sm_if_eq (tgt := 51) (pc' := 47) dX11_give_44 (by decide) rfl ?_ ?_
  · refine sm_iconst (v := (0 : Int32)) (pc' := 52) dX11_give_51 rfl (by decide) ?_
    exact sX11_give_52 l D aC B  a0 (0 : Int32) h3
  refine sm_iconst (v := (1 : Int32)) (pc' := 48) dX11_give_47 rfl (by decide) ?_
  refine sm_goto (pc' := 52) dX11_give_48 (by decide) ?_
  exact sX11_give_52 l D aC B  a0 (1 : Int32) h3
noncomputable def fX11_give  (a0 : Nat) (h : sm_H) : Option (Int32 × sm_H) :=
  (sm_R (sm_get h (some a0) 11 7)).bind fun x1 =>
  (sm_obj h x1 6).bind fun b13 =>
  sm_cb (fX6_error b13 h) fun x2 h3 =>
  if x2 = 0 then (
    (sm_R (sm_get h3 (some a0) 11 7)).bind fun x4 =>
    (sm_R (sm_get h3 (some a0) 11 4)).bind fun x5 =>
    (sm_obj h3 x4 6).bind fun b12 =>
    sm_cb (fX6_sizeFor b12 x5 h3) fun x6 h7 =>
    (sm_I (sm_get h7 (some a0) 11 15)).bind fun x8 =>
    if x6 ≤ x8 then (
      fX11_give_37 a0 h7
    ) else
    (sm_R (sm_get h7 (some a0) 11 7)).bind fun x9 =>
    (sm_obj h7 x9 6).bind fun b11 =>
    sm_cb (fX6_fail b11 (1 : Int32) (0 : Int32) h7) fun _ h10 =>
    fX11_give_37 a0 h10
  ) else
  fX11_give_37 a0 h3
set_option maxRecDepth 100000 in
set_option maxHeartbeats 4000000 in
theorem sX11_give_0 (l : Launch) (D : va_G) (aC : Nat → ClassId) (B : Nat)   (a0 : Nat) (h : sm_H) : zS l D aC B cX11_give 2 RX11 6 132 (some .int) "give" vlI (fX11_give a0 h) 0 [(0, vR (some a0))] [] h := by
  unfold fX11_give
  refine sm_aload_n (i := 0) (j := 0) (pc' := 1) dX11_give_0 rfl rfl rfl ?_
  refine sm_getR (k := 7) (pc' := 4) kX11 (by decide) mw405 dX11_give_1 rfl (fun x1 => ?_)
  refine sm_cVI (pc' := 7) (ci := 6) (st := []) (F := fun b => fX6_error b h) [] yY_yX6_error rfl mw631 mw632 mw633 (fun b => mX6_error l D aC B b h) rfl (by decide) (by decide) (by exact Nat.le_of_ble_eq_true rfl) rfl dX11_give_4 rfl (fun x2 h3 => ?_)
  refine sm_if_ne (tgt := 37) (pc' := 10) dX11_give_7 (by decide) rfl ?_ ?_
  · exact sX11_give_37 l D aC B  a0 h3
  refine sm_aload_n (i := 0) (j := 0) (pc' := 11) dX11_give_10 rfl rfl rfl ?_
  refine sm_getR (k := 7) (pc' := 14) kX11 (by decide) mw405 dX11_give_11 rfl (fun x4 => ?_)
  refine sm_aload_n (i := 0) (j := 0) (pc' := 15) dX11_give_14 rfl rfl rfl ?_
  refine sm_getR (k := 4) (pc' := 18) kX11 (by decide) mw399 dX11_give_15 rfl (fun x5 => ?_)
  refine sm_cVI (pc' := 21) (ci := 6) (st := []) (F := fun b => fX6_sizeFor b x5 h3) [vR x5] yY_yX6_sizeFor rfl mw624 mw629 mw630 (fun b => mX6_sizeFor l D aC B b x5 h3) rfl (by decide) (by decide) (by exact Nat.le_of_ble_eq_true rfl) rfl dX11_give_18 rfl (fun x6 h7 => ?_)
  refine sm_aload_n (i := 0) (j := 0) (pc' := 22) dX11_give_21 rfl rfl rfl ?_
  refine sm_getI (k := 15) (pc' := 25) kX11 (by decide) mw413 dX11_give_22 rfl (fun x8 => ?_)
  refine sm_icmp_le (tgt := 37) (pc' := 28) dX11_give_25 (by decide) rfl ?_ ?_
  · exact sX11_give_37 l D aC B  a0 h7
  refine sm_aload_n (i := 0) (j := 0) (pc' := 29) dX11_give_28 rfl rfl rfl ?_
  refine sm_getR (k := 7) (pc' := 32) kX11 (by decide) mw405 dX11_give_29 rfl (fun x9 => ?_)
  refine sm_iconst (v := (1 : Int32)) (pc' := 33) dX11_give_32 rfl (by decide) ?_
  refine sm_iconst (v := (0 : Int32)) (pc' := 34) dX11_give_33 rfl (by decide) ?_
  refine sm_cVU (pc' := 37) (ci := 6) (st := []) (F := fun b => fX6_fail b (1 : Int32) (0 : Int32) h7) [vI (1 : Int32), vI (0 : Int32)] yY_yX6_fail rfl mw579 mw280 mw281 (fun b => mX6_fail l D aC B b (1 : Int32) (0 : Int32) h7) rfl (by decide) (by decide) (by exact Nat.le_of_ble_eq_true rfl) rfl dX11_give_34 rfl (fun _ h10 => ?_)
  exact sX11_give_37 l D aC B  a0 h10
set_option maxRecDepth 100000 in
theorem mX11_give (l : Launch) (D : va_G) (aC : Nat → ClassId) (B : Nat) (a0 : Nat) (h : sm_H) : sm_M l D vwCl gAts aC B gTs gNs gOs yX11_give cX11_give 2 (some .int) 6 132 vlI [vR (some a0)] h (fX11_give a0 h) := sm_meth [vR (some a0)] yY_yX11_give gG gN (Nat.le_of_ble_eq_true rfl) rfl (sX11_give_0 l D aC B a0 h)
-- M:TreeAgent.question()I
noncomputable def fX11_question  (a0 : Nat) (h : sm_H) : Option (Int32 × sm_H) :=
  (sm_R (sm_get h (some a0) 11 7)).bind fun x1 =>
  (sm_obj h x1 6).bind fun b36 =>
  sm_cb (fX6_clear b36 h) fun _ h2 =>
  (sm_obj h2 (some a0) 11).bind fun b35 =>
  sm_cb (fX11_takeMessage b35 h2) fun x3 h4 =>
  (sm_R (sm_get h4 (some a0) 11 0)).bind fun x5 =>
  (sm_obj h4 x5 0).bind fun b34 =>
  sm_cb (fX0_clear b34 h4) fun _ h6 =>
  if x3 = 0 then (
    (sm_R (sm_get h6 (some a0) 11 4)).bind fun x7 =>
    (sm_I (sm_get h6 x7 3 4)).bind fun x8 =>
    if x8 = (160 : Int32) then (
      (sm_obj h6 (some a0) 11).bind fun b13 =>
      sm_cb (fX11_tellValues b13 h6) fun _ h9 =>
      (sm_obj h9 (some a0) 11).bind fun b12 =>
      sm_cb (fX11_give b12 h9) fun x10 h11 =>
      some (x10, h11)
    ) else
    if x8 = (161 : Int32) then (
      (sm_obj h6 (some a0) 11).bind fun b19 =>
      sm_cb (fX11_tellNexts b19 h6) fun _ h15 =>
      (sm_obj h15 (some a0) 11).bind fun b18 =>
      sm_cb (fX11_give b18 h15) fun x16 h17 =>
      some (x16, h17)
    ) else
    if x8 = (165 : Int32) then (
      (sm_obj h6 (some a0) 11).bind fun b25 =>
      sm_cb (fX11_tellMany b25 h6) fun _ h21 =>
      (sm_obj h21 (some a0) 11).bind fun b24 =>
      sm_cb (fX11_give b24 h21) fun x22 h23 =>
      some (x22, h23)
    ) else
    (sm_obj h6 (some a0) 11).bind fun b31 =>
    sm_cb (fX11_tellSet b31 h6) fun _ h27 =>
    (sm_obj h27 (some a0) 11).bind fun b30 =>
    sm_cb (fX11_give b30 h27) fun x28 h29 =>
    some (x28, h29)
  ) else
  (sm_obj h6 (some a0) 11).bind fun b33 =>
  sm_cb (fX11_countOne b33 x3 h6) fun _ h32 =>
  some ((0 : Int32), h32)
set_option maxRecDepth 100000 in
set_option maxHeartbeats 4000000 in
theorem sX11_question_0 (l : Launch) (D : va_G) (aC : Nat → ClassId) (B : Nat)   (a0 : Nat) (h : sm_H) : zS l D aC B cX11_question 2 RX11 7 167 (some .int) "question" vlI (fX11_question a0 h) 0 [(0, vR (some a0))] [] h := by
  unfold fX11_question
  refine sm_aload_n (i := 0) (j := 0) (pc' := 1) dX11_question_0 rfl rfl rfl ?_
  refine sm_getR (k := 7) (pc' := 4) kX11 (by decide) mw405 dX11_question_1 rfl (fun x1 => ?_)
  refine sm_cVU (pc' := 7) (ci := 6) (st := []) (F := fun b => fX6_clear b h) [] yY_yX6_clear rfl mw634 mw653 mw654 (fun b => mX6_clear l D aC B b h) rfl (by decide) (by decide) (by exact Nat.le_of_ble_eq_true rfl) rfl dX11_question_4 rfl (fun _ h2 => ?_)
  refine sm_aload_n (i := 0) (j := 0) (pc' := 8) dX11_question_7 rfl rfl rfl ?_
  refine sm_cVI (pc' := 11) (ci := 11) (st := []) (F := fun b => fX11_takeMessage b h2) [] yY_yX11_takeMessage rfl mw635 mw651 mw652 (fun b => mX11_takeMessage l D aC B b h2) rfl (by decide) (by decide) (by exact Nat.le_of_ble_eq_true rfl) rfl dX11_question_8 rfl (fun x3 h4 => ?_)
  refine sm_istore_n (i := 1) (lv' := [(1, vI x3), (0, vR (some a0))]) (pc' := 12) dX11_question_11 rfl rfl (by decide) rfl ?_
  refine sm_aload_n (i := 0) (j := 1) (pc' := 13) dX11_question_12 rfl rfl rfl ?_
  refine sm_getR (k := 0) (pc' := 16) kX11 (by decide) mw392 dX11_question_13 rfl (fun x5 => ?_)
  refine sm_cVU (pc' := 19) (ci := 0) (st := []) (F := fun b => fX0_clear b h4) [] yY_yX0_clear rfl mw439 mw121 mw122 (fun b => mX0_clear l D aC B b h4) rfl (by decide) (by decide) (by exact Nat.le_of_ble_eq_true rfl) rfl dX11_question_16 rfl (fun _ h6 => ?_)
  refine sm_iload_n (i := 1) (j := 0) (pc' := 20) dX11_question_19 rfl rfl rfl ?_
  refine sm_if_eq (tgt := 30) (pc' := 23) dX11_question_20 (by decide) rfl ?_ ?_
  · refine sm_aload_n (i := 0) (j := 1) (pc' := 31) dX11_question_30 rfl rfl rfl ?_
    refine sm_getR (k := 4) (pc' := 34) kX11 (by decide) mw399 dX11_question_31 rfl (fun x7 => ?_)
    refine sm_getIN (k := 4) (pc' := 37) kX3 (by decide) mw625 dX11_question_34 rfl (fun x8 => ?_)
    refine sm_ite (fun c14 => ?_) (fun c14 => ?_)
    · refine sm_lkp (pc' := 72) (35) dX11_question_37 (by decide) (by rw [c14]; decide) (by decide) ?_
      refine sm_aload_n (i := 0) (j := 1) (pc' := 73) dX11_question_72 rfl rfl rfl ?_
      refine sm_cVU (pc' := 76) (ci := 11) (st := []) (F := fun b => fX11_tellValues b h6) [] yY_yX11_tellValues rfl mw636 mw640 mw641 (fun b => mX11_tellValues l D aC B b h6) rfl (by decide) (by decide) (by exact Nat.le_of_ble_eq_true rfl) rfl dX11_question_73 rfl (fun _ h9 => ?_)
      refine sm_goto (pc' := 97) dX11_question_76 (by decide) ?_
      refine sm_aload_n (i := 0) (j := 1) (pc' := 98) dX11_question_97 rfl rfl rfl ?_
      refine sm_cVI (pc' := 101) (ci := 11) (st := []) (F := fun b => fX11_give b h9) [] yY_yX11_give rfl mw637 mw638 mw639 (fun b => mX11_give l D aC B b h9) rfl (by decide) (by decide) (by exact Nat.le_of_ble_eq_true rfl) rfl dX11_question_98 rfl (fun x10 h11 => ?_)
      exact sm_iret rfl dX11_question_101
    refine sm_ite (fun c20 => ?_) (fun c20 => ?_)
    · refine sm_lkp (pc' := 79) (42) dX11_question_37 (by decide) (by rw [c20]; decide) (by decide) ?_
      refine sm_aload_n (i := 0) (j := 1) (pc' := 80) dX11_question_79 rfl rfl rfl ?_
      refine sm_cVU (pc' := 83) (ci := 11) (st := []) (F := fun b => fX11_tellNexts b h6) [] yY_yX11_tellNexts rfl mw642 mw643 mw644 (fun b => mX11_tellNexts l D aC B b h6) rfl (by decide) (by decide) (by exact Nat.le_of_ble_eq_true rfl) rfl dX11_question_80 rfl (fun _ h15 => ?_)
      refine sm_goto (pc' := 97) dX11_question_83 (by decide) ?_
      refine sm_aload_n (i := 0) (j := 1) (pc' := 98) dX11_question_97 rfl rfl rfl ?_
      refine sm_cVI (pc' := 101) (ci := 11) (st := []) (F := fun b => fX11_give b h15) [] yY_yX11_give rfl mw637 mw638 mw639 (fun b => mX11_give l D aC B b h15) rfl (by decide) (by decide) (by exact Nat.le_of_ble_eq_true rfl) rfl dX11_question_98 rfl (fun x16 h17 => ?_)
      exact sm_iret rfl dX11_question_101
    refine sm_ite (fun c26 => ?_) (fun c26 => ?_)
    · refine sm_lkp (pc' := 86) (49) dX11_question_37 (by decide) (by rw [c26]; decide) (by decide) ?_
      refine sm_aload_n (i := 0) (j := 1) (pc' := 87) dX11_question_86 rfl rfl rfl ?_
      refine sm_cVU (pc' := 90) (ci := 11) (st := []) (F := fun b => fX11_tellMany b h6) [] yY_yX11_tellMany rfl mw645 mw646 mw647 (fun b => mX11_tellMany l D aC B b h6) rfl (by decide) (by decide) (by exact Nat.le_of_ble_eq_true rfl) rfl dX11_question_87 rfl (fun _ h21 => ?_)
      refine sm_goto (pc' := 97) dX11_question_90 (by decide) ?_
      refine sm_aload_n (i := 0) (j := 1) (pc' := 98) dX11_question_97 rfl rfl rfl ?_
      refine sm_cVI (pc' := 101) (ci := 11) (st := []) (F := fun b => fX11_give b h21) [] yY_yX11_give rfl mw637 mw638 mw639 (fun b => mX11_give l D aC B b h21) rfl (by decide) (by decide) (by exact Nat.le_of_ble_eq_true rfl) rfl dX11_question_98 rfl (fun x22 h23 => ?_)
      exact sm_iret rfl dX11_question_101
    refine sm_lkp (pc' := 93) (56) dX11_question_37 (by decide) (by rw [lv_osw (k := (160 : Int32)) c14 (by decide), lv_osw (k := (161 : Int32)) c20 (by decide), lv_osw (k := (165 : Int32)) c26 (by decide)]; rfl) (by decide) ?_
    refine sm_aload_n (i := 0) (j := 1) (pc' := 94) dX11_question_93 rfl rfl rfl ?_
    refine sm_cVU (pc' := 97) (ci := 11) (st := []) (F := fun b => fX11_tellSet b h6) [] yY_yX11_tellSet rfl mw648 mw649 mw650 (fun b => mX11_tellSet l D aC B b h6) rfl (by decide) (by decide) (by exact Nat.le_of_ble_eq_true rfl) rfl dX11_question_94 rfl (fun _ h27 => ?_)
    refine sm_aload_n (i := 0) (j := 1) (pc' := 98) dX11_question_97 rfl rfl rfl ?_
    refine sm_cVI (pc' := 101) (ci := 11) (st := []) (F := fun b => fX11_give b h27) [] yY_yX11_give rfl mw637 mw638 mw639 (fun b => mX11_give l D aC B b h27) rfl (by decide) (by decide) (by exact Nat.le_of_ble_eq_true rfl) rfl dX11_question_98 rfl (fun x28 h29 => ?_)
    exact sm_iret rfl dX11_question_101
  refine sm_aload_n (i := 0) (j := 1) (pc' := 24) dX11_question_23 rfl rfl rfl ?_
  refine sm_iload_n (i := 1) (j := 0) (pc' := 25) dX11_question_24 rfl rfl rfl ?_
  refine sm_cVU (pc' := 28) (ci := 11) (st := []) (F := fun b => fX11_countOne b x3 h6) [vI x3] yY_yX11_countOne rfl mw617 mw618 mw619 (fun b => mX11_countOne l D aC B b x3 h6) rfl (by decide) (by decide) (by exact Nat.le_of_ble_eq_true rfl) rfl dX11_question_25 rfl (fun _ h32 => ?_)
  refine sm_iconst (v := (0 : Int32)) (pc' := 29) dX11_question_28 rfl (by decide) ?_
  exact sm_iret rfl dX11_question_29
set_option maxRecDepth 100000 in
theorem mX11_question (l : Launch) (D : va_G) (aC : Nat → ClassId) (B : Nat) (a0 : Nat) (h : sm_H) : sm_M l D vwCl gAts aC B gTs gNs gOs yX11_question cX11_question 2 (some .int) 7 167 vlI [vR (some a0)] h (fX11_question a0 h) := sm_meth [vR (some a0)] yY_yX11_question gG gN (Nat.le_of_ble_eq_true rfl) rfl (sX11_question_0 l D aC B a0 h)
-- M:TreeAgent.answer(I)I
noncomputable def fX11_answer  (a0 : Nat) (a1 : Int32) (h : sm_H) : Option (Int32 × sm_H) :=
  (sm_R (sm_get h (some a0) 11 7)).bind fun x1 =>
  (sm_R (sm_get h x1 6 0)).bind fun x2 =>
  (sm_obj h x2 0).bind fun b5 =>
  sm_cb (fX0_at b5 a1 h) fun x3 h4 =>
  some (x3.toInt32, h4)
set_option maxRecDepth 100000 in
set_option maxHeartbeats 4000000 in
theorem sX11_answer_0 (l : Launch) (D : va_G) (aC : Nat → ClassId) (B : Nat)   (a0 : Nat) (a1 : Int32) (h : sm_H) : zS l D aC B cX11_answer 2 RX11 1 21 (some .int) "answer" vlI (fX11_answer a0 a1 h) 0 [(0, vR (some a0)), (1, vI a1)] [] h := by
  unfold fX11_answer
  refine sm_aload_n (i := 0) (j := 0) (pc' := 1) dX11_answer_0 rfl rfl rfl ?_
  refine sm_getR (k := 7) (pc' := 4) kX11 (by decide) mw405 dX11_answer_1 rfl (fun x1 => ?_)
  refine sm_getRN (k := 0) (pc' := 7) kX6 (by decide) mw621 dX11_answer_4 rfl (fun x2 => ?_)
  refine sm_iload_n (i := 1) (j := 1) (pc' := 8) dX11_answer_7 rfl rfl rfl ?_
  refine sm_cVJ (pc' := 11) (ci := 0) (st := []) (F := fun b => fX0_at b a1 h) [vI a1] yY_yX0_at rfl mw571 mw15 mw16 (fun b => mX0_at l D aC B b a1 h) rfl (by decide) (by decide) (by exact Nat.le_of_ble_eq_true rfl) rfl dX11_answer_8 rfl (fun x3 h4 => ?_)
  refine sm_l2i (pc' := 12) dX11_answer_11 rfl ?_
  exact sm_iret rfl dX11_answer_12
set_option maxRecDepth 100000 in
theorem mX11_answer (l : Launch) (D : va_G) (aC : Nat → ClassId) (B : Nat) (a0 : Nat) (a1 : Int32) (h : sm_H) : sm_M l D vwCl gAts aC B gTs gNs gOs yX11_answer cX11_answer 2 (some .int) 1 21 vlI [vR (some a0), vI a1] h (fX11_answer a0 a1 h) := sm_meth [vR (some a0), vI a1] yY_yX11_answer gG gN (Nat.le_of_ble_eq_true rfl) rfl (sX11_answer_0 l D aC B a0 a1 h)
-- M:TreeAgent.count(I)I
noncomputable def fX11_count  (a0 : Nat) (a1 : Int32) (h : sm_H) : Option (Int32 × sm_H) :=
  if a1 = (0 : Int32) then (
    (sm_R (sm_get h (some a0) 11 2)).bind fun x1 =>
    (sm_obj h x1 9).bind fun b4 =>
    sm_cb (fX9_thingCount b4 h) fun x2 h3 =>
    some (x2, h3)
  ) else
  if a1 = (8 : Int32) then (
    (sm_I (sm_get h (some a0) 11 14)).bind fun x6 =>
    some (x6, h)
  ) else
  if a1 = (9 : Int32) then (
    (sm_R (sm_get h (some a0) 11 2)).bind fun x8 =>
    (sm_obj h x8 9).bind fun b11 =>
    sm_cb (fX9_tableCount b11 h) fun x9 h10 =>
    some (x9, h10)
  ) else
  if a1 ≤ 0 then (
    some ((-2 : Int32), h)
  ) else
  (sm_R (sm_get h (some a0) 11 8)).bind fun x13 =>
  (sm_len h x13 0).bind fun x14 =>
  if x14 ≤ a1 then (
    some ((-2 : Int32), h)
  ) else
  (sm_R (sm_get h (some a0) 11 8)).bind fun x15 =>
  (sm_aI h x15 0 a1).bind fun x16 =>
  some (x16, h)
set_option maxRecDepth 100000 in
set_option maxHeartbeats 4000000 in
theorem sX11_count_0 (l : Launch) (D : va_G) (aC : Nat → ClassId) (B : Nat)   (a0 : Nat) (a1 : Int32) (h : sm_H) : zS l D aC B cX11_count 2 RX11 1 20 (some .int) "count" vlI (fX11_count a0 a1 h) 0 [(0, vR (some a0)), (1, vI a1)] [] h := by
  unfold fX11_count
  refine sm_iload_n (i := 1) (j := 1) (pc' := 1) dX11_count_0 rfl rfl rfl ?_
  refine sm_ite (fun c5 => ?_) (fun c5 => ?_)
  · refine sm_lkp (pc' := 36) (35) dX11_count_1 (by decide) (by rw [c5]; decide) (by decide) ?_
    refine sm_aload_n (i := 0) (j := 0) (pc' := 37) dX11_count_36 rfl rfl rfl ?_
    refine sm_getR (k := 2) (pc' := 40) kX11 (by decide) mw395 dX11_count_37 rfl (fun x1 => ?_)
    refine sm_cVI (pc' := 43) (ci := 9) (st := []) (F := fun b => fX9_thingCount b h) [] yY_yX9_thingCount rfl mw449 mw458 mw459 (fun b => mX9_thingCount l D aC B b h) rfl (by decide) (by decide) (by exact Nat.le_of_ble_eq_true rfl) rfl dX11_count_40 rfl (fun x2 h3 => ?_)
    exact sm_iret rfl dX11_count_43
  refine sm_ite (fun c7 => ?_) (fun c7 => ?_)
  · refine sm_lkp (pc' := 44) (43) dX11_count_1 (by decide) (by rw [c7]; decide) (by decide) ?_
    refine sm_aload_n (i := 0) (j := 0) (pc' := 45) dX11_count_44 rfl rfl rfl ?_
    refine sm_getI (k := 14) (pc' := 48) kX11 (by decide) mw534 dX11_count_45 rfl (fun x6 => ?_)
    exact sm_iret rfl dX11_count_48
  refine sm_ite (fun c12 => ?_) (fun c12 => ?_)
  · refine sm_lkp (pc' := 49) (48) dX11_count_1 (by decide) (by rw [c12]; decide) (by decide) ?_
    refine sm_aload_n (i := 0) (j := 0) (pc' := 50) dX11_count_49 rfl rfl rfl ?_
    refine sm_getR (k := 2) (pc' := 53) kX11 (by decide) mw395 dX11_count_50 rfl (fun x8 => ?_)
    refine sm_cVI (pc' := 56) (ci := 9) (st := []) (F := fun b => fX9_tableCount b h) [] yY_yX9_tableCount rfl mw468 mw477 mw478 (fun b => mX9_tableCount l D aC B b h) rfl (by decide) (by decide) (by exact Nat.le_of_ble_eq_true rfl) rfl dX11_count_53 rfl (fun x9 h10 => ?_)
    exact sm_iret rfl dX11_count_56
  refine sm_lkp (pc' := 57) (56) dX11_count_1 (by decide) (by rw [lv_osw (k := (0 : Int32)) c5 (by decide), lv_osw (k := (8 : Int32)) c7 (by decide), lv_osw (k := (9 : Int32)) c12 (by decide)]; rfl) (by decide) ?_
  refine sm_iload_n (i := 1) (j := 1) (pc' := 58) dX11_count_57 rfl rfl rfl ?_
  refine sm_if_le (tgt := 79) (pc' := 61) dX11_count_58 (by decide) rfl ?_ ?_
  · refine sm_bipush (v := (-2 : Int32)) (pc' := 81) dX11_count_79 rfl (by decide) ?_
    exact sm_iret rfl dX11_count_81
  refine sm_iload_n (i := 1) (j := 1) (pc' := 62) dX11_count_61 rfl rfl rfl ?_
  refine sm_aload_n (i := 0) (j := 0) (pc' := 63) dX11_count_62 rfl rfl rfl ?_
  refine sm_getR (k := 8) (pc' := 66) kX11 (by decide) mw406 dX11_count_63 rfl (fun x13 => ?_)
  refine sm_alen (t := 0) (pc' := 67) rfl dX11_count_66 rfl (fun x14 => ?_)
  refine sm_icmp_ge (tgt := 79) (pc' := 70) dX11_count_67 (by decide) rfl ?_ ?_
  · refine sm_bipush (v := (-2 : Int32)) (pc' := 81) dX11_count_79 rfl (by decide) ?_
    exact sm_iret rfl dX11_count_81
  refine sm_aload_n (i := 0) (j := 0) (pc' := 71) dX11_count_70 rfl rfl rfl ?_
  refine sm_getR (k := 8) (pc' := 74) kX11 (by decide) mw406 dX11_count_71 rfl (fun x15 => ?_)
  refine sm_iload_n (i := 1) (j := 1) (pc' := 75) dX11_count_74 rfl rfl rfl ?_
  refine sm_iald (t := 0) (pc' := 76) rfl dX11_count_75 rfl (fun x16 => ?_)
  refine sm_goto (pc' := 81) dX11_count_76 (by decide) ?_
  exact sm_iret rfl dX11_count_81
set_option maxRecDepth 100000 in
theorem mX11_count (l : Launch) (D : va_G) (aC : Nat → ClassId) (B : Nat) (a0 : Nat) (a1 : Int32) (h : sm_H) : sm_M l D vwCl gAts aC B gTs gNs gOs yX11_count cX11_count 2 (some .int) 1 20 vlI [vR (some a0), vI a1] h (fX11_count a0 a1 h) := sm_meth [vR (some a0), vI a1] yY_yX11_count gG gN (Nat.le_of_ble_eq_true rfl) rfl (sX11_count_0 l D aC B a0 a1 h)
-- M:TreeAgent.rows(I)I
noncomputable def fX11_rows  (a0 : Nat) (a1 : Int32) (h : sm_H) : Option (Int32 × sm_H) :=
  (sm_R (sm_get h (some a0) 11 2)).bind fun x1 =>
  (sm_obj h x1 9).bind fun b7 =>
  sm_cb (fX9_tableAt b7 a1 h) fun x2 h3 =>
  if x2 = none then (
    some ((-1 : Int32), h3)
  ) else
  (sm_obj h3 x2 7).bind fun b6 =>
  sm_cb (fX7_rowCount b6 h3) fun x4 h5 =>
  some (x4, h5)
set_option maxRecDepth 100000 in
set_option maxHeartbeats 4000000 in
theorem sX11_rows_0 (l : Launch) (D : va_G) (aC : Nat → ClassId) (B : Nat)   (a0 : Nat) (a1 : Int32) (h : sm_H) : zS l D aC B cX11_rows 3 RX11 1 21 (some .int) "rows" vlI (fX11_rows a0 a1 h) 0 [(0, vR (some a0)), (1, vI a1)] [] h := by
  unfold fX11_rows
  refine sm_aload_n (i := 0) (j := 0) (pc' := 1) dX11_rows_0 rfl rfl rfl ?_
  refine sm_getR (k := 2) (pc' := 4) kX11 (by decide) mw395 dX11_rows_1 rfl (fun x1 => ?_)
  refine sm_iload_n (i := 1) (j := 1) (pc' := 5) dX11_rows_4 rfl rfl rfl ?_
  refine sm_cVR (pc' := 8) (ci := 9) (st := []) (F := fun b => fX9_tableAt b a1 h) [vI a1] yY_yX9_tableAt rfl mw494 mw384 mw385 (fun b => mX9_tableAt l D aC B b a1 h) rfl (by decide) (by decide) (by exact Nat.le_of_ble_eq_true rfl) rfl dX11_rows_5 rfl (fun x2 h3 => ?_)
  refine sm_astore_n (i := 2) (lv' := [(2, vR x2), (0, vR (some a0)), (1, vI a1)]) (pc' := 9) dX11_rows_8 rfl rfl (by decide) rfl ?_
  refine sm_aload_n (i := 2) (j := 0) (pc' := 10) dX11_rows_9 rfl rfl rfl ?_
  refine sm_ifnonnull (tgt := 17) (pc' := 13) dX11_rows_10 (by decide) rfl ?_ ?_
  · refine sm_aload_n (i := 2) (j := 0) (pc' := 18) dX11_rows_17 rfl rfl rfl ?_
    refine sm_cVI (pc' := 21) (ci := 7) (st := []) (F := fun b => fX7_rowCount b h3) [] yY_yX7_rowCount rfl mw483 mw88 mw89 (fun b => mX7_rowCount l D aC B b h3) rfl (by decide) (by decide) (by exact Nat.le_of_ble_eq_true rfl) rfl dX11_rows_18 rfl (fun x4 h5 => ?_)
    exact sm_iret rfl dX11_rows_21
  refine sm_iconst (v := (-1 : Int32)) (pc' := 14) dX11_rows_13 rfl (by decide) ?_
  refine sm_goto (pc' := 21) dX11_rows_14 (by decide) ?_
  exact sm_iret rfl dX11_rows_21
set_option maxRecDepth 100000 in
theorem mX11_rows (l : Launch) (D : va_G) (aC : Nat → ClassId) (B : Nat) (a0 : Nat) (a1 : Int32) (h : sm_H) : sm_M l D vwCl gAts aC B gTs gNs gOs yX11_rows cX11_rows 3 (some .int) 1 21 vlI [vR (some a0), vI a1] h (fX11_rows a0 a1 h) := sm_meth [vR (some a0), vI a1] yY_yX11_rows gG gN (Nat.le_of_ble_eq_true rfl) rfl (sX11_rows_0 l D aC B a0 a1 h)
-- M:TreeAgent.told(II)J
noncomputable def fX11_told_23  (a0 : Nat) (a3 : Option Nat) (s0 : Option Nat) (h : sm_H) : Option (Int64 × sm_H) :=
  if s0 = none then (
    some ((-1 : Int64), h)
  ) else
  (sm_obj h s0 10).bind fun b13 =>
  sm_cb (fX10_isOfParts b13 h) fun x1 h2 =>
  if x1 = 0 then (
    (sm_obj h2 a3 8).bind fun b8 =>
    sm_cb (fX8_tellsClock b8 h2) fun x3 h4 =>
    if x3 = 0 then (
      (sm_J (sm_get h4 s0 10 2)).bind fun x5 =>
      some (x5, h4)
    ) else
    (sm_R (sm_get h4 (some a0) 11 10)).bind fun x6 =>
    (sm_J (sm_get h4 x6 10 2)).bind fun x7 =>
    some (x7, h4)
  ) else
  (sm_R (sm_get h2 s0 10 0)).bind fun x9 =>
  (sm_obj h2 x9 0).bind fun b12 =>
  sm_cb (fX0_size b12 h2) fun x10 h11 =>
  some (x10.toInt64, h11)
set_option maxRecDepth 100000 in
set_option maxHeartbeats 4000000 in
theorem sX11_told_23 (l : Launch) (D : va_G) (aC : Nat → ClassId) (B : Nat)   (a0 : Nat) (a3 : Option Nat) (s0 : Option Nat) (h : sm_H) : zS l D aC B cX11_told 5 RX11 3 67 (some .long) "told" vlJ (fX11_told_23 a0 a3 s0 h) 23 [(0, vR (some a0)), (3, vR a3)] [vR s0] h := by
  unfold fX11_told_23
  refine sm_astore (i := 4) (lv' := [(4, vR s0), (0, vR (some a0)), (3, vR a3)]) (pc' := 25) dX11_told_23 rfl (by decide) rfl ?_
  refine sm_aload (i := 4) (j := 0) (pc' := 27) dX11_told_25 rfl rfl ?_
  refine sm_ifnonnull (tgt := 34) (pc' := 30) dX11_told_27 (by decide) rfl ?_ ?_
  · refine sm_aload (i := 4) (j := 0) (pc' := 36) dX11_told_34 rfl rfl ?_
    refine sm_cVI (pc' := 39) (ci := 10) (st := []) (F := fun b => fX10_isOfParts b h) [] yY_yX10_isOfParts rfl mw512 mw516 mw517 (fun b => mX10_isOfParts l D aC B b h) rfl (by decide) (by decide) (by exact Nat.le_of_ble_eq_true rfl) rfl dX11_told_36 rfl (fun x1 h2 => ?_)
    refine sm_if_eq (tgt := 52) (pc' := 42) dX11_told_39 (by decide) rfl ?_ ?_
    · refine sm_aload_n (i := 3) (j := 2) (pc' := 53) dX11_told_52 rfl rfl rfl ?_
      refine sm_cVI (pc' := 56) (ci := 8) (st := []) (F := fun b => fX8_tellsClock b h2) [] yY_yX8_tellsClock rfl mw564 mw565 mw566 (fun b => mX8_tellsClock l D aC B b h2) rfl (by decide) (by decide) (by exact Nat.le_of_ble_eq_true rfl) rfl dX11_told_53 rfl (fun x3 h4 => ?_)
      refine sm_if_eq (tgt := 69) (pc' := 59) dX11_told_56 (by decide) rfl ?_ ?_
      · refine sm_aload (i := 4) (j := 0) (pc' := 71) dX11_told_69 rfl rfl ?_
        refine sm_getJN (k := 2) (pc' := 74) kX10 (by decide) mw515 dX11_told_71 rfl (fun x5 => ?_)
        exact sm_lret rfl dX11_told_74
      refine sm_aload_n (i := 0) (j := 1) (pc' := 60) dX11_told_59 rfl rfl rfl ?_
      refine sm_getR (k := 10) (pc' := 63) kX11 (by decide) mw409 dX11_told_60 rfl (fun x6 => ?_)
      refine sm_getJN (k := 2) (pc' := 66) kX10 (by decide) mw515 dX11_told_63 rfl (fun x7 => ?_)
      refine sm_goto (pc' := 74) dX11_told_66 (by decide) ?_
      exact sm_lret rfl dX11_told_74
    refine sm_aload (i := 4) (j := 0) (pc' := 44) dX11_told_42 rfl rfl ?_
    refine sm_getRN (k := 0) (pc' := 47) kX10 (by decide) mw520 dX11_told_44 rfl (fun x9 => ?_)
    refine sm_cVI (pc' := 50) (ci := 0) (st := []) (F := fun b => fX0_size b h2) [] yY_yX0_size rfl mw436 mw32 mw33 (fun b => mX0_size l D aC B b h2) rfl (by decide) (by decide) (by exact Nat.le_of_ble_eq_true rfl) rfl dX11_told_47 rfl (fun x10 h11 => ?_)
    refine sm_i2l (pc' := 51) dX11_told_50 rfl ?_
    exact sm_lret rfl dX11_told_51
  refine sm_ldc2 (v := (-1 : Int64)) (pc' := 33) dX11_told_30 rfl mw442 ?_
  exact sm_lret rfl dX11_told_33
noncomputable def fX11_told  (a0 : Nat) (a1 : Int32) (a2 : Int32) (h : sm_H) : Option (Int64 × sm_H) :=
  (sm_R (sm_get h (some a0) 11 2)).bind fun x1 =>
  (sm_obj h x1 9).bind fun b7 =>
  sm_cb (fX9_thingAt b7 a1 h) fun x2 h3 =>
  if x2 = none then (
    fX11_told_23 a0 x2 none h3
  ) else
  (sm_obj h3 x2 8).bind fun b6 =>
  sm_cb (fX8_cellFor b6 (a2.toInt64) h3) fun x4 h5 =>
  fX11_told_23 a0 x2 x4 h5
set_option maxRecDepth 100000 in
set_option maxHeartbeats 4000000 in
theorem sX11_told_0 (l : Launch) (D : va_G) (aC : Nat → ClassId) (B : Nat)   (a0 : Nat) (a1 : Int32) (a2 : Int32) (h : sm_H) : zS l D aC B cX11_told 5 RX11 3 67 (some .long) "told" vlJ (fX11_told a0 a1 a2 h) 0 [(0, vR (some a0)), (1, vI a1), (2, vI a2)] [] h := by
  unfold fX11_told
  refine sm_aload_n (i := 0) (j := 0) (pc' := 1) dX11_told_0 rfl rfl rfl ?_
  refine sm_getR (k := 2) (pc' := 4) kX11 (by decide) mw395 dX11_told_1 rfl (fun x1 => ?_)
  refine sm_iload_n (i := 1) (j := 1) (pc' := 5) dX11_told_4 rfl rfl rfl ?_
  refine sm_cVR (pc' := 8) (ci := 9) (st := []) (F := fun b => fX9_thingAt b a1 h) [vI a1] yY_yX9_thingAt rfl mw506 mw39 mw40 (fun b => mX9_thingAt l D aC B b a1 h) rfl (by decide) (by decide) (by exact Nat.le_of_ble_eq_true rfl) rfl dX11_told_5 rfl (fun x2 h3 => ?_)
  refine sm_astore_n (i := 3) (lv' := [(3, vR x2), (0, vR (some a0)), (1, vI a1), (2, vI a2)]) (pc' := 9) dX11_told_8 rfl rfl (by decide) rfl ?_
  refine sm_aload_n (i := 3) (j := 0) (pc' := 10) dX11_told_9 rfl rfl rfl ?_
  refine sm_ifnonnull (tgt := 17) (pc' := 13) dX11_told_10 (by decide) rfl ?_ ?_
  · refine sm_aload_n (i := 3) (j := 0) (pc' := 18) dX11_told_17 rfl rfl rfl ?_
    refine sm_iload_n (i := 2) (j := 3) (pc' := 19) dX11_told_18 rfl rfl rfl ?_
    refine sm_i2l (pc' := 20) dX11_told_19 rfl ?_
    refine sm_cVR (pc' := 23) (ci := 8) (st := []) (F := fun b => fX8_cellFor b (a2.toInt64) h3) [vJ (a2.toInt64)] yY_yX8_cellFor rfl mw511 mw152 mw153 (fun b => mX8_cellFor l D aC B b (a2.toInt64) h3) rfl (by decide) (by decide) (by exact Nat.le_of_ble_eq_true rfl) rfl dX11_told_20 rfl (fun x4 h5 => ?_)
    refine sm_lo (lv' := [(0, vR (some a0)), (3, vR x2)]) [1, 0] rfl ?_
    exact sX11_told_23 l D aC B  a0 x2 x4 h5
  refine sm_null (pc' := 14) dX11_told_13 rfl ?_
  refine sm_goto (pc' := 23) dX11_told_14 (by decide) ?_
  refine sm_lo (lv' := [(0, vR (some a0)), (3, vR x2)]) [1, 0] rfl ?_
  exact sX11_told_23 l D aC B  a0 x2 none h3
set_option maxRecDepth 100000 in
theorem mX11_told (l : Launch) (D : va_G) (aC : Nat → ClassId) (B : Nat) (a0 : Nat) (a1 : Int32) (a2 : Int32) (h : sm_H) : sm_M l D vwCl gAts aC B gTs gNs gOs yX11_told cX11_told 5 (some .long) 3 67 vlJ [vR (some a0), vI a1, vI a2] h (fX11_told a0 a1 a2 h) := sm_meth [vR (some a0), vI a1, vI a2] yY_yX11_told gG gN (Nat.le_of_ble_eq_true rfl) rfl (sX11_told_0 l D aC B a0 a1 a2 h)
-- M:TreeAgent.part(III)J
noncomputable def fX11_part_26  (a3 : Int32) (s0 : Option Nat) (h : sm_H) : Option (Int64 × sm_H) :=
  if s0 = none then (
    some ((-1 : Int64), h)
  ) else
  (sm_R (sm_get h s0 10 0)).bind fun x1 =>
  (sm_obj h x1 0).bind fun b4 =>
  sm_cb (fX0_at b4 a3 h) fun x2 h3 =>
  some (x2, h3)
set_option maxRecDepth 100000 in
set_option maxHeartbeats 4000000 in
theorem sX11_part_26 (l : Launch) (D : va_G) (aC : Nat → ClassId) (B : Nat)   (a3 : Int32) (s0 : Option Nat) (h : sm_H) : zS l D aC B cX11_part 6 RX11 3 67 (some .long) "part" vlJ (fX11_part_26 a3 s0 h) 26 [(3, vI a3)] [vR s0] h := by
  unfold fX11_part_26
  refine sm_astore (i := 5) (lv' := [(5, vR s0), (3, vI a3)]) (pc' := 28) dX11_part_26 rfl (by decide) rfl ?_
  refine sm_aload (i := 5) (j := 0) (pc' := 30) dX11_part_28 rfl rfl ?_
  refine sm_ifnonnull (tgt := 39) (pc' := 33) dX11_part_30 (by decide) rfl ?_ ?_
  · refine sm_aload (i := 5) (j := 0) (pc' := 41) dX11_part_39 rfl rfl ?_
    refine sm_getRN (k := 0) (pc' := 44) kX10 (by decide) mw520 dX11_part_41 rfl (fun x1 => ?_)
    refine sm_iload_n (i := 3) (j := 1) (pc' := 45) dX11_part_44 rfl rfl rfl ?_
    refine sm_cVJ (pc' := 48) (ci := 0) (st := []) (F := fun b => fX0_at b a3 h) [vI a3] yY_yX0_at rfl mw571 mw15 mw16 (fun b => mX0_at l D aC B b a3 h) rfl (by decide) (by decide) (by exact Nat.le_of_ble_eq_true rfl) rfl dX11_part_45 rfl (fun x2 h3 => ?_)
    exact sm_lret rfl dX11_part_48
  refine sm_ldc2 (v := (-1 : Int64)) (pc' := 36) dX11_part_33 rfl mw442 ?_
  refine sm_goto (pc' := 48) dX11_part_36 (by decide) ?_
  exact sm_lret rfl dX11_part_48
noncomputable def fX11_part  (a0 : Nat) (a1 : Int32) (a2 : Int32) (a3 : Int32) (h : sm_H) : Option (Int64 × sm_H) :=
  (sm_R (sm_get h (some a0) 11 2)).bind fun x1 =>
  (sm_obj h x1 9).bind fun b7 =>
  sm_cb (fX9_thingAt b7 a1 h) fun x2 h3 =>
  if x2 = none then (
    fX11_part_26 a3 none h3
  ) else
  (sm_obj h3 x2 8).bind fun b6 =>
  sm_cb (fX8_cellFor b6 (a2.toInt64) h3) fun x4 h5 =>
  fX11_part_26 a3 x4 h5
set_option maxRecDepth 100000 in
set_option maxHeartbeats 4000000 in
theorem sX11_part_0 (l : Launch) (D : va_G) (aC : Nat → ClassId) (B : Nat)   (a0 : Nat) (a1 : Int32) (a2 : Int32) (a3 : Int32) (h : sm_H) : zS l D aC B cX11_part 6 RX11 3 67 (some .long) "part" vlJ (fX11_part a0 a1 a2 a3 h) 0 [(0, vR (some a0)), (1, vI a1), (2, vI a2), (3, vI a3)] [] h := by
  unfold fX11_part
  refine sm_aload_n (i := 0) (j := 0) (pc' := 1) dX11_part_0 rfl rfl rfl ?_
  refine sm_getR (k := 2) (pc' := 4) kX11 (by decide) mw395 dX11_part_1 rfl (fun x1 => ?_)
  refine sm_iload_n (i := 1) (j := 1) (pc' := 5) dX11_part_4 rfl rfl rfl ?_
  refine sm_cVR (pc' := 8) (ci := 9) (st := []) (F := fun b => fX9_thingAt b a1 h) [vI a1] yY_yX9_thingAt rfl mw506 mw39 mw40 (fun b => mX9_thingAt l D aC B b a1 h) rfl (by decide) (by decide) (by exact Nat.le_of_ble_eq_true rfl) rfl dX11_part_5 rfl (fun x2 h3 => ?_)
  refine sm_astore (i := 4) (lv' := [(4, vR x2), (0, vR (some a0)), (1, vI a1), (2, vI a2), (3, vI a3)]) (pc' := 10) dX11_part_8 rfl (by decide) rfl ?_
  refine sm_aload (i := 4) (j := 0) (pc' := 12) dX11_part_10 rfl rfl ?_
  refine sm_ifnonnull (tgt := 19) (pc' := 15) dX11_part_12 (by decide) rfl ?_ ?_
  · refine sm_aload (i := 4) (j := 0) (pc' := 21) dX11_part_19 rfl rfl ?_
    refine sm_iload_n (i := 2) (j := 3) (pc' := 22) dX11_part_21 rfl rfl rfl ?_
    refine sm_i2l (pc' := 23) dX11_part_22 rfl ?_
    refine sm_cVR (pc' := 26) (ci := 8) (st := []) (F := fun b => fX8_cellFor b (a2.toInt64) h3) [vJ (a2.toInt64)] yY_yX8_cellFor rfl mw511 mw152 mw153 (fun b => mX8_cellFor l D aC B b (a2.toInt64) h3) rfl (by decide) (by decide) (by exact Nat.le_of_ble_eq_true rfl) rfl dX11_part_23 rfl (fun x4 h5 => ?_)
    refine sm_lo (lv' := [(3, vI a3)]) [4] rfl ?_
    exact sX11_part_26 l D aC B  a3 x4 h5
  refine sm_null (pc' := 16) dX11_part_15 rfl ?_
  refine sm_goto (pc' := 26) dX11_part_16 (by decide) ?_
  refine sm_lo (lv' := [(3, vI a3)]) [4] rfl ?_
  exact sX11_part_26 l D aC B  a3 none h3
set_option maxRecDepth 100000 in
theorem mX11_part (l : Launch) (D : va_G) (aC : Nat → ClassId) (B : Nat) (a0 : Nat) (a1 : Int32) (a2 : Int32) (a3 : Int32) (h : sm_H) : sm_M l D vwCl gAts aC B gTs gNs gOs yX11_part cX11_part 6 (some .long) 3 67 vlJ [vR (some a0), vI a1, vI a2, vI a3] h (fX11_part a0 a1 a2 a3 h) := sm_meth [vR (some a0), vI a1, vI a2, vI a3] yY_yX11_part gG gN (Nat.le_of_ble_eq_true rfl) rfl (sX11_part_0 l D aC B a0 a1 a2 a3 h)
-- M:TreeAgentModel.<init>()V
noncomputable def fX12_init  (a0 : Nat) (h : sm_H) : Option (Unit × sm_H) :=
  if (1200 : Int32) < 0 ∨ 1000000 < (1200 : Int32) then none else
  sm_let (sm_nwa h 3 (1200 : Int32).toNatClampNeg (.inl (fun _ => 0))) fun h1 =>
  (sm_put h1 (some a0) 12 1 (sm_v (vR (some h.1)))).bind fun h2 =>
  if (16 : Int32) < 0 ∨ 1000000 < (16 : Int32) then none else
  sm_let (sm_nwa h2 1 (16 : Int32).toNatClampNeg (.inr (.inl (fun _ => 0)))) fun h3 =>
  (sm_put h3 (some a0) 12 3 (sm_v (vR (some h2.1)))).bind fun h4 =>
  (sm_put h4 (some a0) 12 5 (sm_v (vI (484 : Int32)))).bind fun h5 =>
  if (8 : Int32) < 0 ∨ 1000000 < (8 : Int32) then none else
  sm_let (sm_nwa h5 0 (8 : Int32).toNatClampNeg (.inl (fun _ => 0))) fun h6 =>
  (sm_put h6 (some a0) 12 7 (sm_v (vR (some h5.1)))).bind fun h7 =>
  if (640 : Int32) < 0 ∨ 1000000 < (640 : Int32) then none else
  sm_let (sm_nwa h7 1 (640 : Int32).toNatClampNeg (.inr (.inl (fun _ => 0)))) fun h8 =>
  (sm_put h8 (some a0) 12 9 (sm_v (vR (some h7.1)))).bind fun h9 =>
  if (40 : Int32) < 0 ∨ 1000000 < (40 : Int32) then none else
  sm_let (sm_nwa h9 0 (40 : Int32).toNatClampNeg (.inl (fun _ => 0))) fun h10 =>
  (sm_put h10 (some a0) 12 10 (sm_v (vR (some h9.1)))).bind fun h11 =>
  if (40 : Int32) < 0 ∨ 1000000 < (40 : Int32) then none else
  sm_let (sm_nwa h11 0 (40 : Int32).toNatClampNeg (.inl (fun _ => 0))) fun h12 =>
  (sm_put h12 (some a0) 12 11 (sm_v (vR (some h11.1)))).bind fun h13 =>
  if (40 : Int32) < 0 ∨ 1000000 < (40 : Int32) then none else
  sm_let (sm_nwa h13 0 (40 : Int32).toNatClampNeg (.inl (fun _ => 0))) fun h14 =>
  (sm_put h14 (some a0) 12 12 (sm_v (vR (some h13.1)))).bind fun h15 =>
  if (40 : Int32) < 0 ∨ 1000000 < (40 : Int32) then none else
  sm_let (sm_nwa h15 1 (40 : Int32).toNatClampNeg (.inr (.inl (fun _ => 0)))) fun h16 =>
  (sm_put h16 (some a0) 12 13 (sm_v (vR (some h15.1)))).bind fun h17 =>
  if (40 : Int32) < 0 ∨ 1000000 < (40 : Int32) then none else
  sm_let (sm_nwa h17 1 (40 : Int32).toNatClampNeg (.inr (.inl (fun _ => 0)))) fun h18 =>
  (sm_put h18 (some a0) 12 14 (sm_v (vR (some h17.1)))).bind fun h19 =>
  if (40 : Int32) < 0 ∨ 1000000 < (40 : Int32) then none else
  sm_let (sm_nwa h19 0 (40 : Int32).toNatClampNeg (.inl (fun _ => 0))) fun h20 =>
  (sm_put h20 (some a0) 12 15 (sm_v (vR (some h19.1)))).bind fun h21 =>
  if (40 : Int32) < 0 ∨ 1000000 < (40 : Int32) then none else
  sm_let (sm_nwa h21 2 (40 : Int32).toNatClampNeg (.inl (fun _ => 0))) fun h22 =>
  (sm_put h22 (some a0) 12 16 (sm_v (vR (some h21.1)))).bind fun h23 =>
  if (640 : Int32) < 0 ∨ 1000000 < (640 : Int32) then none else
  sm_let (sm_nwa h23 1 (640 : Int32).toNatClampNeg (.inr (.inl (fun _ => 0)))) fun h24 =>
  (sm_put h24 (some a0) 12 17 (sm_v (vR (some h23.1)))).bind fun h25 =>
  if (25600 : Int32) < 0 ∨ 1000000 < (25600 : Int32) then none else
  sm_let (sm_nwa h25 3 (25600 : Int32).toNatClampNeg (.inl (fun _ => 0))) fun h26 =>
  (sm_put h26 (some a0) 12 18 (sm_v (vR (some h25.1)))).bind fun h27 =>
  if (640 : Int32) < 0 ∨ 1000000 < (640 : Int32) then none else
  sm_let (sm_nwa h27 0 (640 : Int32).toNatClampNeg (.inl (fun _ => 0))) fun h28 =>
  (sm_put h28 (some a0) 12 19 (sm_v (vR (some h27.1)))).bind fun h29 =>
  if (10240 : Int32) < 0 ∨ 1000000 < (10240 : Int32) then none else
  sm_let (sm_nwa h29 1 (10240 : Int32).toNatClampNeg (.inr (.inl (fun _ => 0)))) fun h30 =>
  (sm_put h30 (some a0) 12 20 (sm_v (vR (some h29.1)))).bind fun h31 =>
  if (640 : Int32) < 0 ∨ 1000000 < (640 : Int32) then none else
  sm_let (sm_nwa h31 0 (640 : Int32).toNatClampNeg (.inl (fun _ => 0))) fun h32 =>
  (sm_put h32 (some a0) 12 21 (sm_v (vR (some h31.1)))).bind fun h33 =>
  if (64 : Int32) < 0 ∨ 1000000 < (64 : Int32) then none else
  sm_let (sm_nwa h33 1 (64 : Int32).toNatClampNeg (.inr (.inl (fun _ => 0)))) fun h34 =>
  (sm_put h34 (some a0) 12 23 (sm_v (vR (some h33.1)))).bind fun h35 =>
  if (4 : Int32) < 0 ∨ 1000000 < (4 : Int32) then none else
  sm_let (sm_nwa h35 0 (4 : Int32).toNatClampNeg (.inl (fun _ => 0))) fun h36 =>
  (sm_put h36 (some a0) 12 24 (sm_v (vR (some h35.1)))).bind fun h37 =>
  if (4 : Int32) < 0 ∨ 1000000 < (4 : Int32) then none else
  sm_let (sm_nwa h37 0 (4 : Int32).toNatClampNeg (.inl (fun _ => 0))) fun h38 =>
  (sm_put h38 (some a0) 12 25 (sm_v (vR (some h37.1)))).bind fun h39 =>
  if (4 : Int32) < 0 ∨ 1000000 < (4 : Int32) then none else
  sm_let (sm_nwa h39 0 (4 : Int32).toNatClampNeg (.inl (fun _ => 0))) fun h40 =>
  (sm_put h40 (some a0) 12 26 (sm_v (vR (some h39.1)))).bind fun h41 =>
  if (64 : Int32) < 0 ∨ 1000000 < (64 : Int32) then none else
  sm_let (sm_nwa h41 0 (64 : Int32).toNatClampNeg (.inl (fun _ => 0))) fun h42 =>
  (sm_put h42 (some a0) 12 27 (sm_v (vR (some h41.1)))).bind fun h43 =>
  if (320 : Int32) < 0 ∨ 1000000 < (320 : Int32) then none else
  sm_let (sm_nwa h43 3 (320 : Int32).toNatClampNeg (.inl (fun _ => 0))) fun h44 =>
  (sm_put h44 (some a0) 12 29 (sm_v (vR (some h43.1)))).bind fun h45 =>
  if (8 : Int32) < 0 ∨ 1000000 < (8 : Int32) then none else
  sm_let (sm_nwa h45 0 (8 : Int32).toNatClampNeg (.inl (fun _ => 0))) fun h46 =>
  (sm_put h46 (some a0) 12 30 (sm_v (vR (some h45.1)))).bind fun h47 =>
  if (8 : Int32) < 0 ∨ 1000000 < (8 : Int32) then none else
  sm_let (sm_nwa h47 2 (8 : Int32).toNatClampNeg (.inl (fun _ => 0))) fun h48 =>
  (sm_put h48 (some a0) 12 31 (sm_v (vR (some h47.1)))).bind fun h49 =>
  if (8 : Int32) < 0 ∨ 1000000 < (8 : Int32) then none else
  sm_let (sm_nwa h49 0 (8 : Int32).toNatClampNeg (.inl (fun _ => 0))) fun h50 =>
  (sm_put h50 (some a0) 12 32 (sm_v (vR (some h49.1)))).bind fun h51 =>
  if (1024 : Int32) < 0 ∨ 1000000 < (1024 : Int32) then none else
  sm_let (sm_nwa h51 1 (1024 : Int32).toNatClampNeg (.inr (.inl (fun _ => 0)))) fun h52 =>
  (sm_put h52 (some a0) 12 33 (sm_v (vR (some h51.1)))).bind fun h53 =>
  if (64 : Int32) < 0 ∨ 1000000 < (64 : Int32) then none else
  sm_let (sm_nwa h53 0 (64 : Int32).toNatClampNeg (.inl (fun _ => 0))) fun h54 =>
  (sm_put h54 (some a0) 12 34 (sm_v (vR (some h53.1)))).bind fun h55 =>
  if (64 : Int32) < 0 ∨ 1000000 < (64 : Int32) then none else
  sm_let (sm_nwa h55 2 (64 : Int32).toNatClampNeg (.inl (fun _ => 0))) fun h56 =>
  (sm_put h56 (some a0) 12 35 (sm_v (vR (some h55.1)))).bind fun h57 =>
  if (960 : Int32) < 0 ∨ 1000000 < (960 : Int32) then none else
  sm_let (sm_nwa h57 1 (960 : Int32).toNatClampNeg (.inr (.inl (fun _ => 0)))) fun h58 =>
  (sm_put h58 (some a0) 12 36 (sm_v (vR (some h57.1)))).bind fun h59 =>
  if (60 : Int32) < 0 ∨ 1000000 < (60 : Int32) then none else
  sm_let (sm_nwa h59 0 (60 : Int32).toNatClampNeg (.inl (fun _ => 0))) fun h60 =>
  (sm_put h60 (some a0) 12 37 (sm_v (vR (some h59.1)))).bind fun h61 =>
  if (60 : Int32) < 0 ∨ 1000000 < (60 : Int32) then none else
  sm_let (sm_nwa h61 0 (60 : Int32).toNatClampNeg (.inl (fun _ => 0))) fun h62 =>
  (sm_put h62 (some a0) 12 38 (sm_v (vR (some h61.1)))).bind fun h63 =>
  if (60 : Int32) < 0 ∨ 1000000 < (60 : Int32) then none else
  sm_let (sm_nwa h63 1 (60 : Int32).toNatClampNeg (.inr (.inl (fun _ => 0)))) fun h64 =>
  (sm_put h64 (some a0) 12 39 (sm_v (vR (some h63.1)))).bind fun h65 =>
  if (2400 : Int32) < 0 ∨ 1000000 < (2400 : Int32) then none else
  sm_let (sm_nwa h65 3 (2400 : Int32).toNatClampNeg (.inl (fun _ => 0))) fun h66 =>
  (sm_put h66 (some a0) 12 40 (sm_v (vR (some h65.1)))).bind fun h67 =>
  if (60 : Int32) < 0 ∨ 1000000 < (60 : Int32) then none else
  sm_let (sm_nwa h67 0 (60 : Int32).toNatClampNeg (.inl (fun _ => 0))) fun h68 =>
  (sm_put h68 (some a0) 12 41 (sm_v (vR (some h67.1)))).bind fun h69 =>
  if (960 : Int32) < 0 ∨ 1000000 < (960 : Int32) then none else
  sm_let (sm_nwa h69 1 (960 : Int32).toNatClampNeg (.inr (.inl (fun _ => 0)))) fun h70 =>
  (sm_put h70 (some a0) 12 42 (sm_v (vR (some h69.1)))).bind fun h71 =>
  if (60 : Int32) < 0 ∨ 1000000 < (60 : Int32) then none else
  sm_let (sm_nwa h71 0 (60 : Int32).toNatClampNeg (.inl (fun _ => 0))) fun h72 =>
  (sm_put h72 (some a0) 12 43 (sm_v (vR (some h71.1)))).bind fun h73 =>
  if (17 : Int32) < 0 ∨ 1000000 < (17 : Int32) then none else
  sm_let (sm_nwa h73 1 (17 : Int32).toNatClampNeg (.inr (.inl (fun _ => 0)))) fun h74 =>
  (sm_put h74 (some a0) 12 59 (sm_v (vR (some h73.1)))).bind fun h75 =>
  if (17 : Int32) < 0 ∨ 1000000 < (17 : Int32) then none else
  sm_let (sm_nwa h75 1 (17 : Int32).toNatClampNeg (.inr (.inl (fun _ => 0)))) fun h76 =>
  (sm_put h76 (some a0) 12 61 (sm_v (vR (some h75.1)))).bind fun h77 =>
  if (2400 : Int32) < 0 ∨ 1000000 < (2400 : Int32) then none else
  sm_let (sm_nwa h77 3 (2400 : Int32).toNatClampNeg (.inl (fun _ => 0))) fun h78 =>
  (sm_put h78 (some a0) 12 63 (sm_v (vR (some h77.1)))).bind fun h79 =>
  (sm_put h79 (some a0) 12 22 (sm_v (vI (0 : Int32)))).bind fun h80 =>
  some ((), h80)
set_option maxRecDepth 100000 in
set_option maxHeartbeats 4000000 in
theorem sX12_init_0 (l : Launch) (D : va_G) (aC : Nat → ClassId) (B : Nat)   (a0 : Nat) (h : sm_H) : zS l D aC B cX12_init 1 RX12 1 21 none "<init>" vlU (fX12_init a0 h) 0 [(0, vR (some a0))] [] h := by
  unfold fX12_init
  refine sm_aload_n (i := 0) (j := 0) (pc' := 1) dX12_init_0 rfl rfl rfl ?_
  refine sm_objI (pc' := 4) mw655 mw1 mw2 dX12_init_1 rfl (by decide) (Nat.le_of_ble_eq_true rfl) ?_
  refine sm_aload_n (i := 0) (j := 0) (pc' := 5) dX12_init_4 rfl rfl rfl ?_
  refine sm_sipush (v := (1200 : Int32)) (pc' := 8) dX12_init_5 rfl (by decide) ?_
  refine sm_newaL (ty := .byte) (t := 3) (a0 := (.inl (fun _ => 0))) (pc' := 10) rfl rfl (fun _ _ h9 => h9) (fun _ _ => rfl) (by decide) mw656 dX12_init_8 rfl (fun h1 => ?_)
  refine sm_putFR (k := 1) (pc' := 13) kX12 (by decide) mw657 rfl rfl rfl (Or.inr ⟨_, rfl⟩) dX12_init_10 rfl (fun h2 => ?_)
  refine sm_aload_n (i := 0) (j := 0) (pc' := 14) dX12_init_13 rfl rfl rfl ?_
  refine sm_bipush (v := (16 : Int32)) (pc' := 16) dX12_init_14 rfl (by decide) ?_
  refine sm_newaL (ty := .long) (t := 1) (a0 := (.inr (.inl (fun _ => 0)))) (pc' := 18) rfl rfl (fun _ _ h9 => h9) (fun _ _ => rfl) (by decide) mw3 dX12_init_16 rfl (fun h3 => ?_)
  refine sm_putFR (k := 3) (pc' := 21) kX12 (by decide) mw658 rfl rfl rfl (Or.inr ⟨_, rfl⟩) dX12_init_18 rfl (fun h4 => ?_)
  refine sm_aload_n (i := 0) (j := 0) (pc' := 22) dX12_init_21 rfl rfl rfl ?_
  refine sm_sipush (v := (484 : Int32)) (pc' := 25) dX12_init_22 rfl (by decide) ?_
  refine sm_putI (k := 5) (pc' := 28) kX12 (by decide) mw659 rfl rfl dX12_init_25 rfl (fun h5 => ?_)
  refine sm_aload_n (i := 0) (j := 0) (pc' := 29) dX12_init_28 rfl rfl rfl ?_
  refine sm_bipush (v := (8 : Int32)) (pc' := 31) dX12_init_29 rfl (by decide) ?_
  refine sm_newaL (ty := .int) (t := 0) (a0 := (.inl (fun _ => 0))) (pc' := 33) rfl rfl (fun _ _ h9 => h9) (fun _ _ => rfl) (by decide) mw351 dX12_init_31 rfl (fun h6 => ?_)
  refine sm_putFR (k := 7) (pc' := 36) kX12 (by decide) mw660 rfl rfl rfl (Or.inr ⟨_, rfl⟩) dX12_init_33 rfl (fun h7 => ?_)
  refine sm_aload_n (i := 0) (j := 0) (pc' := 37) dX12_init_36 rfl rfl rfl ?_
  refine sm_sipush (v := (640 : Int32)) (pc' := 40) dX12_init_37 rfl (by decide) ?_
  refine sm_newaL (ty := .long) (t := 1) (a0 := (.inr (.inl (fun _ => 0)))) (pc' := 42) rfl rfl (fun _ _ h9 => h9) (fun _ _ => rfl) (by decide) mw3 dX12_init_40 rfl (fun h8 => ?_)
  refine sm_putFR (k := 9) (pc' := 45) kX12 (by decide) mw661 rfl rfl rfl (Or.inr ⟨_, rfl⟩) dX12_init_42 rfl (fun h9 => ?_)
  refine sm_aload_n (i := 0) (j := 0) (pc' := 46) dX12_init_45 rfl rfl rfl ?_
  refine sm_bipush (v := (40 : Int32)) (pc' := 48) dX12_init_46 rfl (by decide) ?_
  refine sm_newaL (ty := .int) (t := 0) (a0 := (.inl (fun _ => 0))) (pc' := 50) rfl rfl (fun _ _ h9 => h9) (fun _ _ => rfl) (by decide) mw351 dX12_init_48 rfl (fun h10 => ?_)
  refine sm_putFR (k := 10) (pc' := 53) kX12 (by decide) mw662 rfl rfl rfl (Or.inr ⟨_, rfl⟩) dX12_init_50 rfl (fun h11 => ?_)
  refine sm_aload_n (i := 0) (j := 0) (pc' := 54) dX12_init_53 rfl rfl rfl ?_
  refine sm_bipush (v := (40 : Int32)) (pc' := 56) dX12_init_54 rfl (by decide) ?_
  refine sm_newaL (ty := .int) (t := 0) (a0 := (.inl (fun _ => 0))) (pc' := 58) rfl rfl (fun _ _ h9 => h9) (fun _ _ => rfl) (by decide) mw351 dX12_init_56 rfl (fun h12 => ?_)
  refine sm_putFR (k := 11) (pc' := 61) kX12 (by decide) mw663 rfl rfl rfl (Or.inr ⟨_, rfl⟩) dX12_init_58 rfl (fun h13 => ?_)
  refine sm_aload_n (i := 0) (j := 0) (pc' := 62) dX12_init_61 rfl rfl rfl ?_
  refine sm_bipush (v := (40 : Int32)) (pc' := 64) dX12_init_62 rfl (by decide) ?_
  refine sm_newaL (ty := .int) (t := 0) (a0 := (.inl (fun _ => 0))) (pc' := 66) rfl rfl (fun _ _ h9 => h9) (fun _ _ => rfl) (by decide) mw351 dX12_init_64 rfl (fun h14 => ?_)
  refine sm_putFR (k := 12) (pc' := 69) kX12 (by decide) mw664 rfl rfl rfl (Or.inr ⟨_, rfl⟩) dX12_init_66 rfl (fun h15 => ?_)
  refine sm_aload_n (i := 0) (j := 0) (pc' := 70) dX12_init_69 rfl rfl rfl ?_
  refine sm_bipush (v := (40 : Int32)) (pc' := 72) dX12_init_70 rfl (by decide) ?_
  refine sm_newaL (ty := .long) (t := 1) (a0 := (.inr (.inl (fun _ => 0)))) (pc' := 74) rfl rfl (fun _ _ h9 => h9) (fun _ _ => rfl) (by decide) mw3 dX12_init_72 rfl (fun h16 => ?_)
  refine sm_putFR (k := 13) (pc' := 77) kX12 (by decide) mw665 rfl rfl rfl (Or.inr ⟨_, rfl⟩) dX12_init_74 rfl (fun h17 => ?_)
  refine sm_aload_n (i := 0) (j := 0) (pc' := 78) dX12_init_77 rfl rfl rfl ?_
  refine sm_bipush (v := (40 : Int32)) (pc' := 80) dX12_init_78 rfl (by decide) ?_
  refine sm_newaL (ty := .long) (t := 1) (a0 := (.inr (.inl (fun _ => 0)))) (pc' := 82) rfl rfl (fun _ _ h9 => h9) (fun _ _ => rfl) (by decide) mw3 dX12_init_80 rfl (fun h18 => ?_)
  refine sm_putFR (k := 14) (pc' := 85) kX12 (by decide) mw666 rfl rfl rfl (Or.inr ⟨_, rfl⟩) dX12_init_82 rfl (fun h19 => ?_)
  refine sm_aload_n (i := 0) (j := 0) (pc' := 86) dX12_init_85 rfl rfl rfl ?_
  refine sm_bipush (v := (40 : Int32)) (pc' := 88) dX12_init_86 rfl (by decide) ?_
  refine sm_newaL (ty := .int) (t := 0) (a0 := (.inl (fun _ => 0))) (pc' := 90) rfl rfl (fun _ _ h9 => h9) (fun _ _ => rfl) (by decide) mw351 dX12_init_88 rfl (fun h20 => ?_)
  refine sm_putFR (k := 15) (pc' := 93) kX12 (by decide) mw667 rfl rfl rfl (Or.inr ⟨_, rfl⟩) dX12_init_90 rfl (fun h21 => ?_)
  refine sm_aload_n (i := 0) (j := 0) (pc' := 94) dX12_init_93 rfl rfl rfl ?_
  refine sm_bipush (v := (40 : Int32)) (pc' := 96) dX12_init_94 rfl (by decide) ?_
  refine sm_newaL (ty := .boolean) (t := 2) (a0 := (.inl (fun _ => 0))) (pc' := 98) rfl rfl (fun _ _ h9 => h9) (fun _ _ => rfl) (by decide) mw164 dX12_init_96 rfl (fun h22 => ?_)
  refine sm_putFR (k := 16) (pc' := 101) kX12 (by decide) mw668 rfl rfl rfl (Or.inr ⟨_, rfl⟩) dX12_init_98 rfl (fun h23 => ?_)
  refine sm_aload_n (i := 0) (j := 0) (pc' := 102) dX12_init_101 rfl rfl rfl ?_
  refine sm_sipush (v := (640 : Int32)) (pc' := 105) dX12_init_102 rfl (by decide) ?_
  refine sm_newaL (ty := .long) (t := 1) (a0 := (.inr (.inl (fun _ => 0)))) (pc' := 107) rfl rfl (fun _ _ h9 => h9) (fun _ _ => rfl) (by decide) mw3 dX12_init_105 rfl (fun h24 => ?_)
  refine sm_putFR (k := 17) (pc' := 110) kX12 (by decide) mw669 rfl rfl rfl (Or.inr ⟨_, rfl⟩) dX12_init_107 rfl (fun h25 => ?_)
  refine sm_aload_n (i := 0) (j := 0) (pc' := 111) dX12_init_110 rfl rfl rfl ?_
  refine sm_sipush (v := (25600 : Int32)) (pc' := 114) dX12_init_111 rfl (by decide) ?_
  refine sm_newaL (ty := .byte) (t := 3) (a0 := (.inl (fun _ => 0))) (pc' := 116) rfl rfl (fun _ _ h9 => h9) (fun _ _ => rfl) (by decide) mw656 dX12_init_114 rfl (fun h26 => ?_)
  refine sm_putFR (k := 18) (pc' := 119) kX12 (by decide) mw670 rfl rfl rfl (Or.inr ⟨_, rfl⟩) dX12_init_116 rfl (fun h27 => ?_)
  refine sm_aload_n (i := 0) (j := 0) (pc' := 120) dX12_init_119 rfl rfl rfl ?_
  refine sm_sipush (v := (640 : Int32)) (pc' := 123) dX12_init_120 rfl (by decide) ?_
  refine sm_newaL (ty := .int) (t := 0) (a0 := (.inl (fun _ => 0))) (pc' := 125) rfl rfl (fun _ _ h9 => h9) (fun _ _ => rfl) (by decide) mw351 dX12_init_123 rfl (fun h28 => ?_)
  refine sm_putFR (k := 19) (pc' := 128) kX12 (by decide) mw671 rfl rfl rfl (Or.inr ⟨_, rfl⟩) dX12_init_125 rfl (fun h29 => ?_)
  refine sm_aload_n (i := 0) (j := 0) (pc' := 129) dX12_init_128 rfl rfl rfl ?_
  refine sm_sipush (v := (10240 : Int32)) (pc' := 132) dX12_init_129 rfl (by decide) ?_
  refine sm_newaL (ty := .long) (t := 1) (a0 := (.inr (.inl (fun _ => 0)))) (pc' := 134) rfl rfl (fun _ _ h9 => h9) (fun _ _ => rfl) (by decide) mw3 dX12_init_132 rfl (fun h30 => ?_)
  refine sm_putFR (k := 20) (pc' := 137) kX12 (by decide) mw672 rfl rfl rfl (Or.inr ⟨_, rfl⟩) dX12_init_134 rfl (fun h31 => ?_)
  refine sm_aload_n (i := 0) (j := 0) (pc' := 138) dX12_init_137 rfl rfl rfl ?_
  refine sm_sipush (v := (640 : Int32)) (pc' := 141) dX12_init_138 rfl (by decide) ?_
  refine sm_newaL (ty := .int) (t := 0) (a0 := (.inl (fun _ => 0))) (pc' := 143) rfl rfl (fun _ _ h9 => h9) (fun _ _ => rfl) (by decide) mw351 dX12_init_141 rfl (fun h32 => ?_)
  refine sm_putFR (k := 21) (pc' := 146) kX12 (by decide) mw673 rfl rfl rfl (Or.inr ⟨_, rfl⟩) dX12_init_143 rfl (fun h33 => ?_)
  refine sm_aload_n (i := 0) (j := 0) (pc' := 147) dX12_init_146 rfl rfl rfl ?_
  refine sm_bipush (v := (64 : Int32)) (pc' := 149) dX12_init_147 rfl (by decide) ?_
  refine sm_newaL (ty := .long) (t := 1) (a0 := (.inr (.inl (fun _ => 0)))) (pc' := 151) rfl rfl (fun _ _ h9 => h9) (fun _ _ => rfl) (by decide) mw3 dX12_init_149 rfl (fun h34 => ?_)
  refine sm_putFR (k := 23) (pc' := 154) kX12 (by decide) mw674 rfl rfl rfl (Or.inr ⟨_, rfl⟩) dX12_init_151 rfl (fun h35 => ?_)
  refine sm_aload_n (i := 0) (j := 0) (pc' := 155) dX12_init_154 rfl rfl rfl ?_
  refine sm_iconst (v := (4 : Int32)) (pc' := 156) dX12_init_155 rfl (by decide) ?_
  refine sm_newaL (ty := .int) (t := 0) (a0 := (.inl (fun _ => 0))) (pc' := 158) rfl rfl (fun _ _ h9 => h9) (fun _ _ => rfl) (by decide) mw351 dX12_init_156 rfl (fun h36 => ?_)
  refine sm_putFR (k := 24) (pc' := 161) kX12 (by decide) mw675 rfl rfl rfl (Or.inr ⟨_, rfl⟩) dX12_init_158 rfl (fun h37 => ?_)
  refine sm_aload_n (i := 0) (j := 0) (pc' := 162) dX12_init_161 rfl rfl rfl ?_
  refine sm_iconst (v := (4 : Int32)) (pc' := 163) dX12_init_162 rfl (by decide) ?_
  refine sm_newaL (ty := .int) (t := 0) (a0 := (.inl (fun _ => 0))) (pc' := 165) rfl rfl (fun _ _ h9 => h9) (fun _ _ => rfl) (by decide) mw351 dX12_init_163 rfl (fun h38 => ?_)
  refine sm_putFR (k := 25) (pc' := 168) kX12 (by decide) mw676 rfl rfl rfl (Or.inr ⟨_, rfl⟩) dX12_init_165 rfl (fun h39 => ?_)
  refine sm_aload_n (i := 0) (j := 0) (pc' := 169) dX12_init_168 rfl rfl rfl ?_
  refine sm_iconst (v := (4 : Int32)) (pc' := 170) dX12_init_169 rfl (by decide) ?_
  refine sm_newaL (ty := .int) (t := 0) (a0 := (.inl (fun _ => 0))) (pc' := 172) rfl rfl (fun _ _ h9 => h9) (fun _ _ => rfl) (by decide) mw351 dX12_init_170 rfl (fun h40 => ?_)
  refine sm_putFR (k := 26) (pc' := 175) kX12 (by decide) mw677 rfl rfl rfl (Or.inr ⟨_, rfl⟩) dX12_init_172 rfl (fun h41 => ?_)
  refine sm_aload_n (i := 0) (j := 0) (pc' := 176) dX12_init_175 rfl rfl rfl ?_
  refine sm_bipush (v := (64 : Int32)) (pc' := 178) dX12_init_176 rfl (by decide) ?_
  refine sm_newaL (ty := .int) (t := 0) (a0 := (.inl (fun _ => 0))) (pc' := 180) rfl rfl (fun _ _ h9 => h9) (fun _ _ => rfl) (by decide) mw351 dX12_init_178 rfl (fun h42 => ?_)
  refine sm_putFR (k := 27) (pc' := 183) kX12 (by decide) mw678 rfl rfl rfl (Or.inr ⟨_, rfl⟩) dX12_init_180 rfl (fun h43 => ?_)
  refine sm_aload_n (i := 0) (j := 0) (pc' := 184) dX12_init_183 rfl rfl rfl ?_
  refine sm_sipush (v := (320 : Int32)) (pc' := 187) dX12_init_184 rfl (by decide) ?_
  refine sm_newaL (ty := .byte) (t := 3) (a0 := (.inl (fun _ => 0))) (pc' := 189) rfl rfl (fun _ _ h9 => h9) (fun _ _ => rfl) (by decide) mw656 dX12_init_187 rfl (fun h44 => ?_)
  refine sm_putFR (k := 29) (pc' := 192) kX12 (by decide) mw679 rfl rfl rfl (Or.inr ⟨_, rfl⟩) dX12_init_189 rfl (fun h45 => ?_)
  refine sm_aload_n (i := 0) (j := 0) (pc' := 193) dX12_init_192 rfl rfl rfl ?_
  refine sm_bipush (v := (8 : Int32)) (pc' := 195) dX12_init_193 rfl (by decide) ?_
  refine sm_newaL (ty := .int) (t := 0) (a0 := (.inl (fun _ => 0))) (pc' := 197) rfl rfl (fun _ _ h9 => h9) (fun _ _ => rfl) (by decide) mw351 dX12_init_195 rfl (fun h46 => ?_)
  refine sm_putFR (k := 30) (pc' := 200) kX12 (by decide) mw680 rfl rfl rfl (Or.inr ⟨_, rfl⟩) dX12_init_197 rfl (fun h47 => ?_)
  refine sm_aload_n (i := 0) (j := 0) (pc' := 201) dX12_init_200 rfl rfl rfl ?_
  refine sm_bipush (v := (8 : Int32)) (pc' := 203) dX12_init_201 rfl (by decide) ?_
  refine sm_newaL (ty := .boolean) (t := 2) (a0 := (.inl (fun _ => 0))) (pc' := 205) rfl rfl (fun _ _ h9 => h9) (fun _ _ => rfl) (by decide) mw164 dX12_init_203 rfl (fun h48 => ?_)
  refine sm_putFR (k := 31) (pc' := 208) kX12 (by decide) mw681 rfl rfl rfl (Or.inr ⟨_, rfl⟩) dX12_init_205 rfl (fun h49 => ?_)
  refine sm_aload_n (i := 0) (j := 0) (pc' := 209) dX12_init_208 rfl rfl rfl ?_
  refine sm_bipush (v := (8 : Int32)) (pc' := 211) dX12_init_209 rfl (by decide) ?_
  refine sm_newaL (ty := .int) (t := 0) (a0 := (.inl (fun _ => 0))) (pc' := 213) rfl rfl (fun _ _ h9 => h9) (fun _ _ => rfl) (by decide) mw351 dX12_init_211 rfl (fun h50 => ?_)
  refine sm_putFR (k := 32) (pc' := 216) kX12 (by decide) mw682 rfl rfl rfl (Or.inr ⟨_, rfl⟩) dX12_init_213 rfl (fun h51 => ?_)
  refine sm_aload_n (i := 0) (j := 0) (pc' := 217) dX12_init_216 rfl rfl rfl ?_
  refine sm_sipush (v := (1024 : Int32)) (pc' := 220) dX12_init_217 rfl (by decide) ?_
  refine sm_newaL (ty := .long) (t := 1) (a0 := (.inr (.inl (fun _ => 0)))) (pc' := 222) rfl rfl (fun _ _ h9 => h9) (fun _ _ => rfl) (by decide) mw3 dX12_init_220 rfl (fun h52 => ?_)
  refine sm_putFR (k := 33) (pc' := 225) kX12 (by decide) mw683 rfl rfl rfl (Or.inr ⟨_, rfl⟩) dX12_init_222 rfl (fun h53 => ?_)
  refine sm_aload_n (i := 0) (j := 0) (pc' := 226) dX12_init_225 rfl rfl rfl ?_
  refine sm_bipush (v := (64 : Int32)) (pc' := 228) dX12_init_226 rfl (by decide) ?_
  refine sm_newaL (ty := .int) (t := 0) (a0 := (.inl (fun _ => 0))) (pc' := 230) rfl rfl (fun _ _ h9 => h9) (fun _ _ => rfl) (by decide) mw351 dX12_init_228 rfl (fun h54 => ?_)
  refine sm_putFR (k := 34) (pc' := 233) kX12 (by decide) mw684 rfl rfl rfl (Or.inr ⟨_, rfl⟩) dX12_init_230 rfl (fun h55 => ?_)
  refine sm_aload_n (i := 0) (j := 0) (pc' := 234) dX12_init_233 rfl rfl rfl ?_
  refine sm_bipush (v := (64 : Int32)) (pc' := 236) dX12_init_234 rfl (by decide) ?_
  refine sm_newaL (ty := .boolean) (t := 2) (a0 := (.inl (fun _ => 0))) (pc' := 238) rfl rfl (fun _ _ h9 => h9) (fun _ _ => rfl) (by decide) mw164 dX12_init_236 rfl (fun h56 => ?_)
  refine sm_putFR (k := 35) (pc' := 241) kX12 (by decide) mw685 rfl rfl rfl (Or.inr ⟨_, rfl⟩) dX12_init_238 rfl (fun h57 => ?_)
  refine sm_aload_n (i := 0) (j := 0) (pc' := 242) dX12_init_241 rfl rfl rfl ?_
  refine sm_sipush (v := (960 : Int32)) (pc' := 245) dX12_init_242 rfl (by decide) ?_
  refine sm_newaL (ty := .long) (t := 1) (a0 := (.inr (.inl (fun _ => 0)))) (pc' := 247) rfl rfl (fun _ _ h9 => h9) (fun _ _ => rfl) (by decide) mw3 dX12_init_245 rfl (fun h58 => ?_)
  refine sm_putFR (k := 36) (pc' := 250) kX12 (by decide) mw686 rfl rfl rfl (Or.inr ⟨_, rfl⟩) dX12_init_247 rfl (fun h59 => ?_)
  refine sm_aload_n (i := 0) (j := 0) (pc' := 251) dX12_init_250 rfl rfl rfl ?_
  refine sm_bipush (v := (60 : Int32)) (pc' := 253) dX12_init_251 rfl (by decide) ?_
  refine sm_newaL (ty := .int) (t := 0) (a0 := (.inl (fun _ => 0))) (pc' := 255) rfl rfl (fun _ _ h9 => h9) (fun _ _ => rfl) (by decide) mw351 dX12_init_253 rfl (fun h60 => ?_)
  refine sm_putFR (k := 37) (pc' := 258) kX12 (by decide) mw687 rfl rfl rfl (Or.inr ⟨_, rfl⟩) dX12_init_255 rfl (fun h61 => ?_)
  refine sm_aload_n (i := 0) (j := 0) (pc' := 259) dX12_init_258 rfl rfl rfl ?_
  refine sm_bipush (v := (60 : Int32)) (pc' := 261) dX12_init_259 rfl (by decide) ?_
  refine sm_newaL (ty := .int) (t := 0) (a0 := (.inl (fun _ => 0))) (pc' := 263) rfl rfl (fun _ _ h9 => h9) (fun _ _ => rfl) (by decide) mw351 dX12_init_261 rfl (fun h62 => ?_)
  refine sm_putFR (k := 38) (pc' := 266) kX12 (by decide) mw688 rfl rfl rfl (Or.inr ⟨_, rfl⟩) dX12_init_263 rfl (fun h63 => ?_)
  refine sm_aload_n (i := 0) (j := 0) (pc' := 267) dX12_init_266 rfl rfl rfl ?_
  refine sm_bipush (v := (60 : Int32)) (pc' := 269) dX12_init_267 rfl (by decide) ?_
  refine sm_newaL (ty := .long) (t := 1) (a0 := (.inr (.inl (fun _ => 0)))) (pc' := 271) rfl rfl (fun _ _ h9 => h9) (fun _ _ => rfl) (by decide) mw3 dX12_init_269 rfl (fun h64 => ?_)
  refine sm_putFR (k := 39) (pc' := 274) kX12 (by decide) mw689 rfl rfl rfl (Or.inr ⟨_, rfl⟩) dX12_init_271 rfl (fun h65 => ?_)
  refine sm_aload_n (i := 0) (j := 0) (pc' := 275) dX12_init_274 rfl rfl rfl ?_
  refine sm_sipush (v := (2400 : Int32)) (pc' := 278) dX12_init_275 rfl (by decide) ?_
  refine sm_newaL (ty := .byte) (t := 3) (a0 := (.inl (fun _ => 0))) (pc' := 280) rfl rfl (fun _ _ h9 => h9) (fun _ _ => rfl) (by decide) mw656 dX12_init_278 rfl (fun h66 => ?_)
  refine sm_putFR (k := 40) (pc' := 283) kX12 (by decide) mw690 rfl rfl rfl (Or.inr ⟨_, rfl⟩) dX12_init_280 rfl (fun h67 => ?_)
  refine sm_aload_n (i := 0) (j := 0) (pc' := 284) dX12_init_283 rfl rfl rfl ?_
  refine sm_bipush (v := (60 : Int32)) (pc' := 286) dX12_init_284 rfl (by decide) ?_
  refine sm_newaL (ty := .int) (t := 0) (a0 := (.inl (fun _ => 0))) (pc' := 288) rfl rfl (fun _ _ h9 => h9) (fun _ _ => rfl) (by decide) mw351 dX12_init_286 rfl (fun h68 => ?_)
  refine sm_putFR (k := 41) (pc' := 291) kX12 (by decide) mw691 rfl rfl rfl (Or.inr ⟨_, rfl⟩) dX12_init_288 rfl (fun h69 => ?_)
  refine sm_aload_n (i := 0) (j := 0) (pc' := 292) dX12_init_291 rfl rfl rfl ?_
  refine sm_sipush (v := (960 : Int32)) (pc' := 295) dX12_init_292 rfl (by decide) ?_
  refine sm_newaL (ty := .long) (t := 1) (a0 := (.inr (.inl (fun _ => 0)))) (pc' := 297) rfl rfl (fun _ _ h9 => h9) (fun _ _ => rfl) (by decide) mw3 dX12_init_295 rfl (fun h70 => ?_)
  refine sm_putFR (k := 42) (pc' := 300) kX12 (by decide) mw692 rfl rfl rfl (Or.inr ⟨_, rfl⟩) dX12_init_297 rfl (fun h71 => ?_)
  refine sm_aload_n (i := 0) (j := 0) (pc' := 301) dX12_init_300 rfl rfl rfl ?_
  refine sm_bipush (v := (60 : Int32)) (pc' := 303) dX12_init_301 rfl (by decide) ?_
  refine sm_newaL (ty := .int) (t := 0) (a0 := (.inl (fun _ => 0))) (pc' := 305) rfl rfl (fun _ _ h9 => h9) (fun _ _ => rfl) (by decide) mw351 dX12_init_303 rfl (fun h72 => ?_)
  refine sm_putFR (k := 43) (pc' := 308) kX12 (by decide) mw693 rfl rfl rfl (Or.inr ⟨_, rfl⟩) dX12_init_305 rfl (fun h73 => ?_)
  refine sm_aload_n (i := 0) (j := 0) (pc' := 309) dX12_init_308 rfl rfl rfl ?_
  refine sm_bipush (v := (17 : Int32)) (pc' := 311) dX12_init_309 rfl (by decide) ?_
  refine sm_newaL (ty := .long) (t := 1) (a0 := (.inr (.inl (fun _ => 0)))) (pc' := 313) rfl rfl (fun _ _ h9 => h9) (fun _ _ => rfl) (by decide) mw3 dX12_init_311 rfl (fun h74 => ?_)
  refine sm_putFR (k := 59) (pc' := 316) kX12 (by decide) mw694 rfl rfl rfl (Or.inr ⟨_, rfl⟩) dX12_init_313 rfl (fun h75 => ?_)
  refine sm_aload_n (i := 0) (j := 0) (pc' := 317) dX12_init_316 rfl rfl rfl ?_
  refine sm_bipush (v := (17 : Int32)) (pc' := 319) dX12_init_317 rfl (by decide) ?_
  refine sm_newaL (ty := .long) (t := 1) (a0 := (.inr (.inl (fun _ => 0)))) (pc' := 321) rfl rfl (fun _ _ h9 => h9) (fun _ _ => rfl) (by decide) mw3 dX12_init_319 rfl (fun h76 => ?_)
  refine sm_putFR (k := 61) (pc' := 324) kX12 (by decide) mw695 rfl rfl rfl (Or.inr ⟨_, rfl⟩) dX12_init_321 rfl (fun h77 => ?_)
  refine sm_aload_n (i := 0) (j := 0) (pc' := 325) dX12_init_324 rfl rfl rfl ?_
  refine sm_sipush (v := (2400 : Int32)) (pc' := 328) dX12_init_325 rfl (by decide) ?_
  refine sm_newaL (ty := .byte) (t := 3) (a0 := (.inl (fun _ => 0))) (pc' := 330) rfl rfl (fun _ _ h9 => h9) (fun _ _ => rfl) (by decide) mw656 dX12_init_328 rfl (fun h78 => ?_)
  refine sm_putFR (k := 63) (pc' := 333) kX12 (by decide) mw696 rfl rfl rfl (Or.inr ⟨_, rfl⟩) dX12_init_330 rfl (fun h79 => ?_)
  refine sm_aload_n (i := 0) (j := 0) (pc' := 334) dX12_init_333 rfl rfl rfl ?_
  refine sm_iconst (v := (0 : Int32)) (pc' := 335) dX12_init_334 rfl (by decide) ?_
  refine sm_putI (k := 22) (pc' := 338) kX12 (by decide) mw697 rfl rfl dX12_init_335 rfl (fun h80 => ?_)
  exact sm_vret rfl dX12_init_338
set_option maxRecDepth 100000 in
theorem mX12_init (l : Launch) (D : va_G) (aC : Nat → ClassId) (B : Nat) (a0 : Nat) (h : sm_H) : sm_M l D vwCl gAts aC B gTs gNs gOs yX12_init cX12_init 1 none 1 21 vlU [vR (some a0)] h (fX12_init a0 h) := sm_meth [vR (some a0)] yY_yX12_init gG gN (Nat.le_of_ble_eq_true rfl) rfl (sX12_init_0 l D aC B a0 h)
