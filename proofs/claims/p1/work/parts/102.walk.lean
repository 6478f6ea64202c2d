-- M:TreeAgent$Change.makeRow(LTreeAgent$Pair;)V
noncomputable def fX1_makeRow_19  (a1 : Option Nat) (s0 : Option Nat) (h : sm_H) : Option (Unit × sm_H) :=
  if s0 = none then (
    some ((), h)
  ) else
  (sm_obj h s0 8).bind fun b15 =>
  sm_cb (fX8_isStatus b15 h) fun x1 h2 =>
  if x1 = 0 then (
    some ((), h2)
  ) else
  (sm_R (sm_get h2 s0 8 5)).bind fun x3 =>
  sm_cb (fX1_indexMade a1 x3 h2) fun x4 h5 =>
  if (lg_cmp x4 (1 : Int64)) < 0 then (
    some ((), h5)
  ) else
  (sm_R (sm_get h5 s0 8 5)).bind fun x6 =>
  (sm_R (sm_get h5 a1 4 1)).bind fun x7 =>
  (sm_J (sm_get h5 x7 10 2)).bind fun x8 =>
  if (lg_cmp x8 (4 : Int64)) = 0 then (
    (sm_obj h5 x6 7).bind fun b14 =>
    sm_cb (fX7_make b14 (x4.toInt32) (1 : Int32) h5) fun x12 h13 =>
    some ((), h13)
  ) else
  (sm_obj h5 x6 7).bind fun b11 =>
  sm_cb (fX7_make b11 (x4.toInt32) (2 : Int32) h5) fun x9 h10 =>
  some ((), h10)
set_option maxRecDepth 100000 in
set_option maxHeartbeats 4000000 in
theorem sX1_makeRow_19 (l : Launch) (D : va_G) (aC : Nat → ClassId) (B : Nat)   (a1 : Option Nat) (s0 : Option Nat) (h : sm_H) : zS l D aC B cX1_makeRow 5 RX1 4 87 none "makeRow" vlU (fX1_makeRow_19 a1 s0 h) 19 [(1, vR a1)] [vR s0] h := by
  unfold fX1_makeRow_19
  refine sm_astore_n (i := 2) (lv' := [(2, vR s0), (1, vR a1)]) (pc' := 20) dX1_makeRow_19 rfl rfl (by decide) rfl ?_
  refine sm_aload_n (i := 2) (j := 0) (pc' := 21) dX1_makeRow_20 rfl rfl rfl ?_
  refine sm_ifnull (tgt := 31) (pc' := 24) dX1_makeRow_21 (by decide) rfl ?_ ?_
  · exact sm_vret rfl dX1_makeRow_31
  refine sm_aload_n (i := 2) (j := 0) (pc' := 25) dX1_makeRow_24 rfl rfl rfl ?_
  refine sm_cVI (pc' := 28) (ci := 8) (st := []) (F := fun b => fX8_isStatus b h) [] yY_yX8_isStatus rfl mw104 mw51 mw52 (fun b => mX8_isStatus l D aC B b h) rfl (by decide) (by decide) (by exact Nat.le_of_ble_eq_true rfl) rfl dX1_makeRow_25 rfl (fun x1 h2 => ?_)
  refine sm_if_ne (tgt := 32) (pc' := 31) dX1_makeRow_28 (by decide) rfl ?_ ?_
  · refine sm_aload_n (i := 1) (j := 1) (pc' := 33) dX1_makeRow_32 rfl rfl rfl ?_
    refine sm_aload_n (i := 2) (j := 0) (pc' := 34) dX1_makeRow_33 rfl rfl rfl ?_
    refine sm_getRN (k := 5) (pc' := 37) kX8 (by decide) mw95 dX1_makeRow_34 rfl (fun x3 => ?_)
    refine sm_cSJ (pc' := 40) (st := []) [vR a1, vR x3] yY_yX1_indexMade mw76 mw77 (mX1_indexMade l D aC B a1 x3 h2) rfl (by decide) (by decide) (by exact Nat.le_of_ble_eq_true rfl) rfl dX1_makeRow_37 rfl (fun x4 h5 => ?_)
    refine sm_lstore_n (i := 3) (lv' := [(3, vJ x4), (2, vR s0), (1, vR a1)]) (pc' := 41) dX1_makeRow_40 rfl rfl (by decide) rfl ?_
    refine sm_lload_n (i := 3) (j := 0) (pc' := 42) dX1_makeRow_41 rfl rfl rfl ?_
    refine sm_lconst (v := (1 : Int64)) (pc' := 43) dX1_makeRow_42 rfl (by decide) ?_
    refine sm_lcmp (pc' := 44) dX1_makeRow_43 rfl ?_
    refine sm_if_lt (tgt := 76) (pc' := 47) dX1_makeRow_44 (by decide) rfl ?_ ?_
    · exact sm_vret rfl dX1_makeRow_76
    refine sm_aload_n (i := 2) (j := 1) (pc' := 48) dX1_makeRow_47 rfl rfl rfl ?_
    refine sm_getRN (k := 5) (pc' := 51) kX8 (by decide) mw95 dX1_makeRow_48 rfl (fun x6 => ?_)
    refine sm_lload_n (i := 3) (j := 0) (pc' := 52) dX1_makeRow_51 rfl rfl rfl ?_
    refine sm_l2i (pc' := 53) dX1_makeRow_52 rfl ?_
    refine sm_aload_n (i := 1) (j := 2) (pc' := 54) dX1_makeRow_53 rfl rfl rfl ?_
    refine sm_getRN (k := 1) (pc' := 57) kX4 (by decide) mw67 dX1_makeRow_54 rfl (fun x7 => ?_)
    refine sm_getJN (k := 2) (pc' := 60) kX10 (by decide) mw70 dX1_makeRow_57 rfl (fun x8 => ?_)
    refine sm_ldc2 (v := (4 : Int64)) (pc' := 63) dX1_makeRow_60 rfl mw71 ?_
    refine sm_lcmp (pc' := 64) dX1_makeRow_63 rfl ?_
    refine sm_if_ne (tgt := 71) (pc' := 67) dX1_makeRow_64 (by decide) rfl ?_ ?_
    · refine sm_iconst (v := (2 : Int32)) (pc' := 72) dX1_makeRow_71 rfl (by decide) ?_
      refine sm_cVI (pc' := 75) (ci := 7) (st := []) (F := fun b => fX7_make b (x4.toInt32) (2 : Int32) h5) [vI (x4.toInt32), vI (2 : Int32)] yY_yX7_make rfl mw136 mw137 mw138 (fun b => mX7_make l D aC B b (x4.toInt32) (2 : Int32) h5) rfl (by decide) (by decide) (by exact Nat.le_of_ble_eq_true rfl) rfl dX1_makeRow_72 rfl (fun x9 h10 => ?_)
      refine sm_pop (pc' := 76) rfl dX1_makeRow_75 rfl ?_
      exact sm_vret rfl dX1_makeRow_76
    refine sm_iconst (v := (1 : Int32)) (pc' := 68) dX1_makeRow_67 rfl (by decide) ?_
    refine sm_goto (pc' := 72) dX1_makeRow_68 (by decide) ?_
    refine sm_cVI (pc' := 75) (ci := 7) (st := []) (F := fun b => fX7_make b (x4.toInt32) (1 : Int32) h5) [vI (x4.toInt32), vI (1 : Int32)] yY_yX7_make rfl mw136 mw137 mw138 (fun b => mX7_make l D aC B b (x4.toInt32) (1 : Int32) h5) rfl (by decide) (by decide) (by exact Nat.le_of_ble_eq_true rfl) rfl dX1_makeRow_72 rfl (fun x12 h13 => ?_)
    refine sm_pop (pc' := 76) rfl dX1_makeRow_75 rfl ?_
    exact sm_vret rfl dX1_makeRow_76
  exact sm_vret rfl dX1_makeRow_31
noncomputable def fX1_makeRow  (a0 : Nat) (a1 : Option Nat) (h : sm_H) : Option (Unit × sm_H) :=
  if a1 = none then (
    fX1_makeRow_19 a1 none h
  ) else
  (sm_R (sm_get h (some a0) 1 0)).bind fun x1 =>
  (sm_R (sm_get h a1 4 0)).bind fun x2 =>
  (sm_obj h x1 9).bind fun b5 =>
  sm_cb (fX9_thingFor b5 x2 h) fun x3 h4 =>
  fX1_makeRow_19 a1 x3 h4
set_option maxRecDepth 100000 in
set_option maxHeartbeats 4000000 in
theorem sX1_makeRow_0 (l : Launch) (D : va_G) (aC : Nat → ClassId) (B : Nat)   (a0 : Nat) (a1 : Option Nat) (h : sm_H) : zS l D aC B cX1_makeRow 5 RX1 4 87 none "makeRow" vlU (fX1_makeRow a0 a1 h) 0 [(0, vR (some a0)), (1, vR a1)] [] h := by
  unfold fX1_makeRow
  refine sm_aload_n (i := 1) (j := 1) (pc' := 1) dX1_makeRow_0 rfl rfl rfl ?_
  refine sm_ifnonnull (tgt := 8) (pc' := 4) dX1_makeRow_1 (by decide) rfl ?_ ?_
  · refine sm_aload_n (i := 0) (j := 0) (pc' := 9) dX1_makeRow_8 rfl rfl rfl ?_
    refine sm_getR (k := 0) (pc' := 12) kX1 (by decide) mw24 dX1_makeRow_9 rfl (fun x1 => ?_)
    refine sm_aload_n (i := 1) (j := 1) (pc' := 13) dX1_makeRow_12 rfl rfl rfl ?_
    refine sm_getRN (k := 0) (pc' := 16) kX4 (by decide) mw61 dX1_makeRow_13 rfl (fun x2 => ?_)
    refine sm_cVR (pc' := 19) (ci := 9) (st := []) (F := fun b => fX9_thingFor b x2 h) [vR x2] yY_yX9_thingFor rfl mw99 mw112 mw113 (fun b => mX9_thingFor l D aC B b x2 h) rfl (by decide) (by decide) (by exact Nat.le_of_ble_eq_true rfl) rfl dX1_makeRow_16 rfl (fun x3 h4 => ?_)
    refine sm_lo (lv' := [(1, vR a1)]) [1] rfl ?_
    exact sX1_makeRow_19 l D aC B  a1 x3 h4
  refine sm_null (pc' := 5) dX1_makeRow_4 rfl ?_
  refine sm_goto (pc' := 19) dX1_makeRow_5 (by decide) ?_
  refine sm_lo (lv' := [(1, vR a1)]) [1] rfl ?_
  exact sX1_makeRow_19 l D aC B  a1 none h
set_option maxRecDepth 100000 in
theorem mX1_makeRow (l : Launch) (D : va_G) (aC : Nat → ClassId) (B : Nat) (a0 : Nat) (a1 : Option Nat) (h : sm_H) : sm_M l D vwCl gAts aC B gTs gNs gOs yX1_makeRow cX1_makeRow 5 none 4 87 vlU [vR (some a0), vR a1] h (fX1_makeRow a0 a1 h) := sm_meth [vR (some a0), vR a1] yY_yX1_makeRow gG gN (Nat.le_of_ble_eq_true rfl) rfl (sX1_makeRow_0 l D aC B a0 a1 h)
-- M:TreeAgent$Thing.cellFor(J)LTreeAgent$Value;
noncomputable def fX8_cellFor  (a0 : Nat) (a1 : Int64) (h : sm_H) : Option (Option Nat × sm_H) :=
  (sm_R (sm_get h (some a0) 8 5)).bind fun x1 =>
  if x1 = none then (
    if (lg_cmp a1 (0 : Int64)) = 0 then (
      (sm_obj h (some a0) 8).bind fun b11 =>
      sm_cb (fX8_cellAt b11 (0 : Int32) h) fun x9 h10 =>
      some (x9, h10)
    ) else
    some (none, h)
  ) else
  (sm_R (sm_get h (some a0) 8 5)).bind fun x2 =>
  (sm_obj h x2 7).bind fun b8 =>
  sm_cb (fX7_slotOf b8 a1 h) fun x3 h4 =>
  (sm_obj h4 (some a0) 8).bind fun b7 =>
  sm_cb (fX8_cellAt b7 x3 h4) fun x5 h6 =>
  some (x5, h6)
set_option maxRecDepth 100000 in
set_option maxHeartbeats 4000000 in
theorem sX8_cellFor_0 (l : Launch) (D : va_G) (aC : Nat → ClassId) (B : Nat)   (a0 : Nat) (a1 : Int64) (h : sm_H) : zS l D aC B cX8_cellFor 3 RX8 2 45 (some (.object "TreeAgent$Value")) "cellFor" vlR (fX8_cellFor a0 a1 h) 0 [(0, vR (some a0)), (1, vJ a1)] [] h := by
  unfold fX8_cellFor
  refine sm_aload_n (i := 0) (j := 0) (pc' := 1) dX8_cellFor_0 rfl rfl rfl ?_
  refine sm_getR (k := 5) (pc' := 4) kX8 (by decide) mw46 dX8_cellFor_1 rfl (fun x1 => ?_)
  refine sm_ifnonnull (tgt := 23) (pc' := 7) dX8_cellFor_4 (by decide) rfl ?_ ?_
  · refine sm_aload_n (i := 0) (j := 0) (pc' := 24) dX8_cellFor_23 rfl rfl rfl ?_
    refine sm_aload_n (i := 0) (j := 0) (pc' := 25) dX8_cellFor_24 rfl rfl rfl ?_
    refine sm_getR (k := 5) (pc' := 28) kX8 (by decide) mw46 dX8_cellFor_25 rfl (fun x2 => ?_)
    refine sm_lload_n (i := 1) (j := 1) (pc' := 29) dX8_cellFor_28 rfl rfl rfl ?_
    refine sm_cVI (pc' := 32) (ci := 7) (st := [vR (some a0)]) (F := fun b => fX7_slotOf b a1 h) [vJ a1] yY_yX7_slotOf rfl mw139 mw93 mw94 (fun b => mX7_slotOf l D aC B b a1 h) rfl (by decide) (by decide) (by exact Nat.le_of_ble_eq_true rfl) rfl dX8_cellFor_29 rfl (fun x3 h4 => ?_)
    refine sm_cVR (pc' := 35) (ci := 8) (st := []) (F := fun b => fX8_cellAt b x3 h4) [vI x3] yY_yX8_cellAt rfl mw140 mw134 mw135 (fun b => mX8_cellAt l D aC B b x3 h4) rfl (by decide) (by decide) (by exact Nat.le_of_ble_eq_true rfl) rfl dX8_cellFor_32 rfl (fun x5 h6 => ?_)
    exact sm_aret rfl dX8_cellFor_35
  refine sm_lload_n (i := 1) (j := 1) (pc' := 8) dX8_cellFor_7 rfl rfl rfl ?_
  refine sm_lconst (v := (0 : Int64)) (pc' := 9) dX8_cellFor_8 rfl (by decide) ?_
  refine sm_lcmp (pc' := 10) dX8_cellFor_9 rfl ?_
  refine sm_if_ne (tgt := 21) (pc' := 13) dX8_cellFor_10 (by decide) rfl ?_ ?_
  · refine sm_null (pc' := 22) dX8_cellFor_21 rfl ?_
    exact sm_aret rfl dX8_cellFor_22
  refine sm_aload_n (i := 0) (j := 0) (pc' := 14) dX8_cellFor_13 rfl rfl rfl ?_
  refine sm_iconst (v := (0 : Int32)) (pc' := 15) dX8_cellFor_14 rfl (by decide) ?_
  refine sm_cVR (pc' := 18) (ci := 8) (st := []) (F := fun b => fX8_cellAt b (0 : Int32) h) [vI (0 : Int32)] yY_yX8_cellAt rfl mw140 mw134 mw135 (fun b => mX8_cellAt l D aC B b (0 : Int32) h) rfl (by decide) (by decide) (by exact Nat.le_of_ble_eq_true rfl) rfl dX8_cellFor_15 rfl (fun x9 h10 => ?_)
  refine sm_goto (pc' := 22) dX8_cellFor_18 (by decide) ?_
  exact sm_aret rfl dX8_cellFor_22
set_option maxRecDepth 100000 in
theorem mX8_cellFor (l : Launch) (D : va_G) (aC : Nat → ClassId) (B : Nat) (a0 : Nat) (a1 : Int64) (h : sm_H) : sm_M l D vwCl gAts aC B gTs gNs gOs yX8_cellFor cX8_cellFor 3 (some (.object "TreeAgent$Value")) 2 45 vlR [vR (some a0), vJ a1] h (fX8_cellFor a0 a1 h) := sm_meth [vR (some a0), vJ a1] yY_yX8_cellFor gG gN (Nat.le_of_ble_eq_true rfl) rfl (sX8_cellFor_0 l D aC B a0 a1 h)
-- M:TreeAgent$Value.copy(LTreeAgent$Value;)V
noncomputable def fX10_copy  (a0 : Nat) (a1 : Option Nat) (h : sm_H) : Option (Unit × sm_H) :=
  (sm_I (sm_get h a1 10 1)).bind fun x1 =>
  (sm_put h (some a0) 10 1 (sm_v (vI x1))).bind fun h2 =>
  (sm_J (sm_get h2 a1 10 2)).bind fun x3 =>
  (sm_put h2 (some a0) 10 2 (sm_v (vJ x3))).bind fun h4 =>
  (sm_R (sm_get h4 (some a0) 10 0)).bind fun x5 =>
  (sm_R (sm_get h4 a1 10 0)).bind fun x6 =>
  (sm_obj h4 x5 0).bind fun b8 =>
  sm_cb (fX0_copy b8 x6 h4) fun _ h7 =>
  some ((), h7)
set_option maxRecDepth 100000 in
set_option maxHeartbeats 4000000 in
theorem sX10_copy_0 (l : Launch) (D : va_G) (aC : Nat → ClassId) (B : Nat)   (a0 : Nat) (a1 : Option Nat) (h : sm_H) : zS l D aC B cX10_copy 2 RX10 2 44 none "copy" vlU (fX10_copy a0 a1 h) 0 [(0, vR (some a0)), (1, vR a1)] [] h := by
  unfold fX10_copy
  refine sm_aload_n (i := 0) (j := 0) (pc' := 1) dX10_copy_0 rfl rfl rfl ?_
  refine sm_aload_n (i := 1) (j := 1) (pc' := 2) dX10_copy_1 rfl rfl rfl ?_
  refine sm_getI (k := 1) (pc' := 5) kX10 (by decide) mw117 dX10_copy_2 rfl (fun x1 => ?_)
  refine sm_putI (k := 1) (pc' := 8) kX10 (by decide) mw117 rfl rfl dX10_copy_5 rfl (fun h2 => ?_)
  refine sm_aload_n (i := 0) (j := 0) (pc' := 9) dX10_copy_8 rfl rfl rfl ?_
  refine sm_aload_n (i := 1) (j := 1) (pc' := 10) dX10_copy_9 rfl rfl rfl ?_
  refine sm_getJ (k := 2) (pc' := 13) kX10 (by decide) mw118 dX10_copy_10 rfl (fun x3 => ?_)
  refine sm_putJ (k := 2) (pc' := 16) kX10 (by decide) mw118 rfl rfl dX10_copy_13 rfl (fun h4 => ?_)
  refine sm_aload_n (i := 0) (j := 0) (pc' := 17) dX10_copy_16 rfl rfl rfl ?_
  refine sm_getR (k := 0) (pc' := 20) kX10 (by decide) mw119 dX10_copy_17 rfl (fun x5 => ?_)
  refine sm_aload_n (i := 1) (j := 1) (pc' := 21) dX10_copy_20 rfl rfl rfl ?_
  refine sm_getR (k := 0) (pc' := 24) kX10 (by decide) mw119 dX10_copy_21 rfl (fun x6 => ?_)
  refine sm_cVU (pc' := 27) (ci := 0) (st := []) (F := fun b => fX0_copy b x6 h4) [vR x6] yY_yX0_copy rfl mw141 mw142 mw143 (fun b => mX0_copy l D aC B b x6 h4) rfl (by decide) (by decide) (by exact Nat.le_of_ble_eq_true rfl) rfl dX10_copy_24 rfl (fun _ h7 => ?_)
  exact sm_vret rfl dX10_copy_27
set_option maxRecDepth 100000 in
theorem mX10_copy (l : Launch) (D : va_G) (aC : Nat → ClassId) (B : Nat) (a0 : Nat) (a1 : Option Nat) (h : sm_H) : sm_M l D vwCl gAts aC B gTs gNs gOs yX10_copy cX10_copy 2 none 2 44 vlU [vR (some a0), vR a1] h (fX10_copy a0 a1 h) := sm_meth [vR (some a0), vR a1] yY_yX10_copy gG gN (Nat.le_of_ble_eq_true rfl) rfl (sX10_copy_0 l D aC B a0 a1 h)
-- M:TreeAgent$Table.takeAway(J)V
noncomputable def fX7_takeAway  (a0 : Nat) (a1 : Int64) (h : sm_H) : Option (Unit × sm_H) :=
  (sm_obj h (some a0) 7).bind fun b9 =>
  sm_cb (fX7_slotOf b9 a1 h) fun x1 h2 =>
  if x1 < 0 then (
    some ((), h2)
  ) else
  (sm_R (sm_get h2 (some a0) 7 2)).bind fun x3 =>
  (sm_len h2 x3 0).bind fun x4 =>
  if x4 ≤ x1 then (
    some ((), h2)
  ) else
  (sm_R (sm_get h2 (some a0) 7 2)).bind fun x5 =>
  (sm_sI h2 x5 0 x1 (0 : Int32)).bind fun h6 =>
  (sm_I (sm_get h6 (some a0) 7 5)).bind fun x7 =>
  (sm_put h6 (some a0) 7 5 (sm_v (vI (x7 - (1 : Int32))))).bind fun h8 =>
  some ((), h8)
set_option maxRecDepth 100000 in
set_option maxHeartbeats 4000000 in
theorem sX7_takeAway_0 (l : Launch) (D : va_G) (aC : Nat → ClassId) (B : Nat)   (a0 : Nat) (a1 : Int64) (h : sm_H) : zS l D aC B cX7_takeAway 4 RX7 2 45 none "takeAway" vlU (fX7_takeAway a0 a1 h) 0 [(0, vR (some a0)), (1, vJ a1)] [] h := by
  unfold fX7_takeAway
  refine sm_aload_n (i := 0) (j := 0) (pc' := 1) dX7_takeAway_0 rfl rfl rfl ?_
  refine sm_lload_n (i := 1) (j := 1) (pc' := 2) dX7_takeAway_1 rfl rfl rfl ?_
  refine sm_cVI (pc' := 5) (ci := 7) (st := []) (F := fun b => fX7_slotOf b a1 h) [vJ a1] yY_yX7_slotOf rfl mw144 mw93 mw94 (fun b => mX7_slotOf l D aC B b a1 h) rfl (by decide) (by decide) (by exact Nat.le_of_ble_eq_true rfl) rfl dX7_takeAway_2 rfl (fun x1 h2 => ?_)
  refine sm_istore_n (i := 3) (lv' := [(3, vI x1), (0, vR (some a0)), (1, vJ a1)]) (pc' := 6) dX7_takeAway_5 rfl rfl (by decide) rfl ?_
  refine sm_iload_n (i := 3) (j := 0) (pc' := 7) dX7_takeAway_6 rfl rfl rfl ?_
  refine sm_if_lt (tgt := 36) (pc' := 10) dX7_takeAway_7 (by decide) rfl ?_ ?_
  · exact sm_vret rfl dX7_takeAway_36
  refine sm_iload_n (i := 3) (j := 0) (pc' := 11) dX7_takeAway_10 rfl rfl rfl ?_
  refine sm_aload_n (i := 0) (j := 1) (pc' := 12) dX7_takeAway_11 rfl rfl rfl ?_
  refine sm_getR (k := 2) (pc' := 15) kX7 (by decide) mw56 dX7_takeAway_12 rfl (fun x3 => ?_)
  refine sm_alen (t := 0) (pc' := 16) rfl dX7_takeAway_15 rfl (fun x4 => ?_)
  refine sm_icmp_ge (tgt := 36) (pc' := 19) dX7_takeAway_16 (by decide) rfl ?_ ?_
  · exact sm_vret rfl dX7_takeAway_36
  refine sm_aload_n (i := 0) (j := 1) (pc' := 20) dX7_takeAway_19 rfl rfl rfl ?_
  refine sm_getR (k := 2) (pc' := 23) kX7 (by decide) mw56 dX7_takeAway_20 rfl (fun x5 => ?_)
  refine sm_iload_n (i := 3) (j := 0) (pc' := 24) dX7_takeAway_23 rfl rfl rfl ?_
  refine sm_iconst (v := (0 : Int32)) (pc' := 25) dX7_takeAway_24 rfl (by decide) ?_
  refine sm_iast (t := 0) (pc' := 26) rfl dX7_takeAway_25 rfl (fun h6 => ?_)
  refine sm_aload_n (i := 0) (j := 1) (pc' := 27) dX7_takeAway_26 rfl rfl rfl ?_
  refine sm_dup (pc' := 28) rfl dX7_takeAway_27 rfl ?_
  refine sm_getI (k := 5) (pc' := 31) kX7 (by decide) mw80 dX7_takeAway_28 rfl (fun x7 => ?_)
  refine sm_iconst (v := (1 : Int32)) (pc' := 32) dX7_takeAway_31 rfl (by decide) ?_
  refine sm_isub (pc' := 33) dX7_takeAway_32 rfl ?_
  refine sm_putI (k := 5) (pc' := 36) kX7 (by decide) mw80 rfl rfl dX7_takeAway_33 rfl (fun h8 => ?_)
  exact sm_vret rfl dX7_takeAway_36
set_option maxRecDepth 100000 in
theorem mX7_takeAway (l : Launch) (D : va_G) (aC : Nat → ClassId) (B : Nat) (a0 : Nat) (a1 : Int64) (h : sm_H) : sm_M l D vwCl gAts aC B gTs gNs gOs yX7_takeAway cX7_takeAway 4 none 2 45 vlU [vR (some a0), vJ a1] h (fX7_takeAway a0 a1 h) := sm_meth [vR (some a0), vJ a1] yY_yX7_takeAway gG gN (Nat.le_of_ble_eq_true rfl) rfl (sX7_takeAway_0 l D aC B a0 a1 h)
-- M:TreeAgent$Change.setOne(LTreeAgent$Pair;)V
noncomputable def fX1_setOne_46  (a1 : Option Nat) (a2 : Option Nat) (s0 : Option Nat) (h : sm_H) : Option (Unit × sm_H) :=
  if s0 = none then (
    some ((), h)
  ) else
  (sm_obj h a2 8).bind fun b29 =>
  sm_cb (fX8_isStatus b29 h) fun x1 h2 =>
  if x1 = 0 then (
    (sm_R (sm_get h2 a1 4 1)).bind fun x3 =>
    (sm_obj h2 s0 10).bind fun b5 =>
    sm_cb (fX10_copy b5 x3 h2) fun _ h4 =>
    some ((), h4)
  ) else
  (sm_R (sm_get h2 a1 4 1)).bind fun x6 =>
  (sm_J (sm_get h2 x6 10 2)).bind fun x7 =>
  if (lg_cmp x7 (1 : Int64)) = 0 then (
    (sm_R (sm_get h2 a1 4 1)).bind fun x8 =>
    (sm_obj h2 s0 10).bind fun b10 =>
    sm_cb (fX10_copy b10 x8 h2) fun _ h9 =>
    some ((), h9)
  ) else
  (sm_R (sm_get h2 a1 4 1)).bind fun x11 =>
  (sm_J (sm_get h2 x11 10 2)).bind fun x12 =>
  if (lg_cmp x12 (2 : Int64)) = 0 then (
    (sm_R (sm_get h2 a1 4 1)).bind fun x26 =>
    (sm_obj h2 s0 10).bind fun b28 =>
    sm_cb (fX10_copy b28 x26 h2) fun _ h27 =>
    some ((), h27)
  ) else
  (sm_R (sm_get h2 a1 4 1)).bind fun x13 =>
  (sm_J (sm_get h2 x13 10 2)).bind fun x14 =>
  if (lg_cmp x14 (6 : Int64)) = 0 then (
    (sm_R (sm_get h2 a2 8 5)).bind fun x15 =>
    (sm_R (sm_get h2 a1 4 0)).bind fun x16 =>
    (sm_R (sm_get h2 a2 8 0)).bind fun x17 =>
    (sm_obj h2 x17 0).bind fun b25 =>
    sm_cb (fX0_size b25 h2) fun x18 h19 =>
    (sm_obj h19 x16 0).bind fun b24 =>
    sm_cb (fX0_at b24 x18 h19) fun x20 h21 =>
    (sm_obj h21 x15 7).bind fun b23 =>
    sm_cb (fX7_takeAway b23 x20 h21) fun _ h22 =>
    some ((), h22)
  ) else
  some ((), h2)
set_option maxRecDepth 100000 in
set_option maxHeartbeats 4000000 in
theorem sX1_setOne_46 (l : Launch) (D : va_G) (aC : Nat → ClassId) (B : Nat)   (a1 : Option Nat) (a2 : Option Nat) (s0 : Option Nat) (h : sm_H) : zS l D aC B cX1_setOne 4 RX1 3 68 none "setOne" vlU (fX1_setOne_46 a1 a2 s0 h) 46 [(1, vR a1), (2, vR a2)] [vR s0] h := by
  unfold fX1_setOne_46
  refine sm_astore_n (i := 3) (lv' := [(3, vR s0), (1, vR a1), (2, vR a2)]) (pc' := 47) dX1_setOne_46 rfl rfl (by decide) rfl ?_
  refine sm_aload_n (i := 3) (j := 0) (pc' := 48) dX1_setOne_47 rfl rfl rfl ?_
  refine sm_ifnonnull (tgt := 52) (pc' := 51) dX1_setOne_48 (by decide) rfl ?_ ?_
  · refine sm_aload_n (i := 2) (j := 2) (pc' := 53) dX1_setOne_52 rfl rfl rfl ?_
    refine sm_cVI (pc' := 56) (ci := 8) (st := []) (F := fun b => fX8_isStatus b h) [] yY_yX8_isStatus rfl mw104 mw51 mw52 (fun b => mX8_isStatus l D aC B b h) rfl (by decide) (by decide) (by exact Nat.le_of_ble_eq_true rfl) rfl dX1_setOne_53 rfl (fun x1 h2 => ?_)
    refine sm_if_eq (tgt := 85) (pc' := 59) dX1_setOne_56 (by decide) rfl ?_ ?_
    · refine sm_aload_n (i := 3) (j := 0) (pc' := 86) dX1_setOne_85 rfl rfl rfl ?_
      refine sm_aload_n (i := 1) (j := 1) (pc' := 87) dX1_setOne_86 rfl rfl rfl ?_
      refine sm_getRN (k := 1) (pc' := 90) kX4 (by decide) mw67 dX1_setOne_87 rfl (fun x3 => ?_)
      refine sm_cVU (pc' := 93) (ci := 10) (st := []) (F := fun b => fX10_copy b x3 h2) [vR x3] yY_yX10_copy rfl mw145 mw146 mw147 (fun b => mX10_copy l D aC B b x3 h2) rfl (by decide) (by decide) (by exact Nat.le_of_ble_eq_true rfl) rfl dX1_setOne_90 rfl (fun _ h4 => ?_)
      refine sm_goto (pc' := 131) dX1_setOne_93 (by decide) ?_
      exact sm_vret rfl dX1_setOne_131
    refine sm_aload_n (i := 1) (j := 1) (pc' := 60) dX1_setOne_59 rfl rfl rfl ?_
    refine sm_getRN (k := 1) (pc' := 63) kX4 (by decide) mw67 dX1_setOne_60 rfl (fun x6 => ?_)
    refine sm_getJN (k := 2) (pc' := 66) kX10 (by decide) mw70 dX1_setOne_63 rfl (fun x7 => ?_)
    refine sm_lconst (v := (1 : Int64)) (pc' := 67) dX1_setOne_66 rfl (by decide) ?_
    refine sm_lcmp (pc' := 68) dX1_setOne_67 rfl ?_
    refine sm_if_eq (tgt := 85) (pc' := 71) dX1_setOne_68 (by decide) rfl ?_ ?_
    · refine sm_aload_n (i := 3) (j := 0) (pc' := 86) dX1_setOne_85 rfl rfl rfl ?_
      refine sm_aload_n (i := 1) (j := 1) (pc' := 87) dX1_setOne_86 rfl rfl rfl ?_
      refine sm_getRN (k := 1) (pc' := 90) kX4 (by decide) mw67 dX1_setOne_87 rfl (fun x8 => ?_)
      refine sm_cVU (pc' := 93) (ci := 10) (st := []) (F := fun b => fX10_copy b x8 h2) [vR x8] yY_yX10_copy rfl mw145 mw146 mw147 (fun b => mX10_copy l D aC B b x8 h2) rfl (by decide) (by decide) (by exact Nat.le_of_ble_eq_true rfl) rfl dX1_setOne_90 rfl (fun _ h9 => ?_)
      refine sm_goto (pc' := 131) dX1_setOne_93 (by decide) ?_
      exact sm_vret rfl dX1_setOne_131
    refine sm_aload_n (i := 1) (j := 1) (pc' := 72) dX1_setOne_71 rfl rfl rfl ?_
    refine sm_getRN (k := 1) (pc' := 75) kX4 (by decide) mw67 dX1_setOne_72 rfl (fun x11 => ?_)
    refine sm_getJN (k := 2) (pc' := 78) kX10 (by decide) mw70 dX1_setOne_75 rfl (fun x12 => ?_)
    refine sm_ldc2 (v := (2 : Int64)) (pc' := 81) dX1_setOne_78 rfl mw81 ?_
    refine sm_lcmp (pc' := 82) dX1_setOne_81 rfl ?_
    refine sm_if_ne (tgt := 96) (pc' := 85) dX1_setOne_82 (by decide) rfl ?_ ?_
    · refine sm_aload_n (i := 1) (j := 1) (pc' := 97) dX1_setOne_96 rfl rfl rfl ?_
      refine sm_getRN (k := 1) (pc' := 100) kX4 (by decide) mw67 dX1_setOne_97 rfl (fun x13 => ?_)
      refine sm_getJN (k := 2) (pc' := 103) kX10 (by decide) mw70 dX1_setOne_100 rfl (fun x14 => ?_)
      refine sm_ldc2 (v := (6 : Int64)) (pc' := 106) dX1_setOne_103 rfl mw82 ?_
      refine sm_lcmp (pc' := 107) dX1_setOne_106 rfl ?_
      refine sm_if_ne (tgt := 131) (pc' := 110) dX1_setOne_107 (by decide) rfl ?_ ?_
      · exact sm_vret rfl dX1_setOne_131
      refine sm_aload_n (i := 2) (j := 2) (pc' := 111) dX1_setOne_110 rfl rfl rfl ?_
      refine sm_getRN (k := 5) (pc' := 114) kX8 (by decide) mw95 dX1_setOne_111 rfl (fun x15 => ?_)
      refine sm_aload_n (i := 1) (j := 1) (pc' := 115) dX1_setOne_114 rfl rfl rfl ?_
      refine sm_getRN (k := 0) (pc' := 118) kX4 (by decide) mw61 dX1_setOne_115 rfl (fun x16 => ?_)
      refine sm_aload_n (i := 2) (j := 2) (pc' := 119) dX1_setOne_118 rfl rfl rfl ?_
      refine sm_getRN (k := 0) (pc' := 122) kX8 (by decide) mw62 dX1_setOne_119 rfl (fun x17 => ?_)
      refine sm_cVI (pc' := 125) (ci := 0) (st := [vR x16, vR x15]) (F := fun b => fX0_size b h2) [] yY_yX0_size rfl mw63 mw32 mw33 (fun b => mX0_size l D aC B b h2) rfl (by decide) (by decide) (by exact Nat.le_of_ble_eq_true rfl) rfl dX1_setOne_122 rfl (fun x18 h19 => ?_)
      refine sm_cVJ (pc' := 128) (ci := 0) (st := [vR x15]) (F := fun b => fX0_at b x18 h19) [vI x18] yY_yX0_at rfl mw64 mw15 mw16 (fun b => mX0_at l D aC B b x18 h19) rfl (by decide) (by decide) (by exact Nat.le_of_ble_eq_true rfl) rfl dX1_setOne_125 rfl (fun x20 h21 => ?_)
      refine sm_cVU (pc' := 131) (ci := 7) (st := []) (F := fun b => fX7_takeAway b x20 h21) [vJ x20] yY_yX7_takeAway rfl mw148 mw149 mw150 (fun b => mX7_takeAway l D aC B b x20 h21) rfl (by decide) (by decide) (by exact Nat.le_of_ble_eq_true rfl) rfl dX1_setOne_128 rfl (fun _ h22 => ?_)
      exact sm_vret rfl dX1_setOne_131
    refine sm_aload_n (i := 3) (j := 0) (pc' := 86) dX1_setOne_85 rfl rfl rfl ?_
    refine sm_aload_n (i := 1) (j := 1) (pc' := 87) dX1_setOne_86 rfl rfl rfl ?_
    refine sm_getRN (k := 1) (pc' := 90) kX4 (by decide) mw67 dX1_setOne_87 rfl (fun x26 => ?_)
    refine sm_cVU (pc' := 93) (ci := 10) (st := []) (F := fun b => fX10_copy b x26 h2) [vR x26] yY_yX10_copy rfl mw145 mw146 mw147 (fun b => mX10_copy l D aC B b x26 h2) rfl (by decide) (by decide) (by exact Nat.le_of_ble_eq_true rfl) rfl dX1_setOne_90 rfl (fun _ h27 => ?_)
    refine sm_goto (pc' := 131) dX1_setOne_93 (by decide) ?_
    exact sm_vret rfl dX1_setOne_131
  exact sm_vret rfl dX1_setOne_51
noncomputable def fX1_setOne_19  (a1 : Option Nat) (s0 : Option Nat) (h : sm_H) : Option (Unit × sm_H) :=
  if s0 = none then (
    fX1_setOne_46 a1 s0 none h
  ) else
  (sm_R (sm_get h a1 4 0)).bind fun x1 =>
  (sm_R (sm_get h s0 8 0)).bind fun x2 =>
  (sm_obj h x2 0).bind fun b11 =>
  sm_cb (fX0_size b11 h) fun x3 h4 =>
  (sm_obj h4 x1 0).bind fun b10 =>
  sm_cb (fX0_at b10 x3 h4) fun x5 h6 =>
  (sm_obj h6 s0 8).bind fun b9 =>
  sm_cb (fX8_cellFor b9 x5 h6) fun x7 h8 =>
  fX1_setOne_46 a1 s0 x7 h8
set_option maxRecDepth 100000 in
set_option maxHeartbeats 4000000 in
theorem sX1_setOne_19 (l : Launch) (D : va_G) (aC : Nat → ClassId) (B : Nat)   (a1 : Option Nat) (s0 : Option Nat) (h : sm_H) : zS l D aC B cX1_setOne 4 RX1 3 68 none "setOne" vlU (fX1_setOne_19 a1 s0 h) 19 [(1, vR a1)] [vR s0] h := by
  unfold fX1_setOne_19
  refine sm_astore_n (i := 2) (lv' := [(2, vR s0), (1, vR a1)]) (pc' := 20) dX1_setOne_19 rfl rfl (by decide) rfl ?_
  refine sm_aload_n (i := 2) (j := 0) (pc' := 21) dX1_setOne_20 rfl rfl rfl ?_
  refine sm_ifnonnull (tgt := 28) (pc' := 24) dX1_setOne_21 (by decide) rfl ?_ ?_
  · refine sm_aload_n (i := 2) (j := 0) (pc' := 29) dX1_setOne_28 rfl rfl rfl ?_
    refine sm_aload_n (i := 1) (j := 1) (pc' := 30) dX1_setOne_29 rfl rfl rfl ?_
    refine sm_getRN (k := 0) (pc' := 33) kX4 (by decide) mw61 dX1_setOne_30 rfl (fun x1 => ?_)
    refine sm_aload_n (i := 2) (j := 0) (pc' := 34) dX1_setOne_33 rfl rfl rfl ?_
    refine sm_getRN (k := 0) (pc' := 37) kX8 (by decide) mw62 dX1_setOne_34 rfl (fun x2 => ?_)
    refine sm_cVI (pc' := 40) (ci := 0) (st := [vR x1, vR s0]) (F := fun b => fX0_size b h) [] yY_yX0_size rfl mw63 mw32 mw33 (fun b => mX0_size l D aC B b h) rfl (by decide) (by decide) (by exact Nat.le_of_ble_eq_true rfl) rfl dX1_setOne_37 rfl (fun x3 h4 => ?_)
    refine sm_cVJ (pc' := 43) (ci := 0) (st := [vR s0]) (F := fun b => fX0_at b x3 h4) [vI x3] yY_yX0_at rfl mw64 mw15 mw16 (fun b => mX0_at l D aC B b x3 h4) rfl (by decide) (by decide) (by exact Nat.le_of_ble_eq_true rfl) rfl dX1_setOne_40 rfl (fun x5 h6 => ?_)
    refine sm_cVR (pc' := 46) (ci := 8) (st := []) (F := fun b => fX8_cellFor b x5 h6) [vJ x5] yY_yX8_cellFor rfl mw151 mw152 mw153 (fun b => mX8_cellFor l D aC B b x5 h6) rfl (by decide) (by decide) (by exact Nat.le_of_ble_eq_true rfl) rfl dX1_setOne_43 rfl (fun x7 h8 => ?_)
    refine sm_lo (lv' := [(1, vR a1), (2, vR s0)]) [1, 0] rfl ?_
    exact sX1_setOne_46 l D aC B  a1 s0 x7 h8
  refine sm_null (pc' := 25) dX1_setOne_24 rfl ?_
  refine sm_goto (pc' := 46) dX1_setOne_25 (by decide) ?_
  refine sm_lo (lv' := [(1, vR a1), (2, vR s0)]) [1, 0] rfl ?_
  exact sX1_setOne_46 l D aC B  a1 s0 none h
noncomputable def fX1_setOne  (a0 : Nat) (a1 : Option Nat) (h : sm_H) : Option (Unit × sm_H) :=
  if a1 = none then (
    fX1_setOne_19 a1 none h
  ) else
  (sm_R (sm_get h (some a0) 1 0)).bind fun x1 =>
  (sm_R (sm_get h a1 4 0)).bind fun x2 =>
  (sm_obj h x1 9).bind fun b5 =>
  sm_cb (fX9_thingFor b5 x2 h) fun x3 h4 =>
  fX1_setOne_19 a1 x3 h4
set_option maxRecDepth 100000 in
set_option maxHeartbeats 4000000 in
theorem sX1_setOne_0 (l : Launch) (D : va_G) (aC : Nat → ClassId) (B : Nat)   (a0 : Nat) (a1 : Option Nat) (h : sm_H) : zS l D aC B cX1_setOne 4 RX1 3 68 none "setOne" vlU (fX1_setOne a0 a1 h) 0 [(0, vR (some a0)), (1, vR a1)] [] h := by
  unfold fX1_setOne
  refine sm_aload_n (i := 1) (j := 1) (pc' := 1) dX1_setOne_0 rfl rfl rfl ?_
  refine sm_ifnonnull (tgt := 8) (pc' := 4) dX1_setOne_1 (by decide) rfl ?_ ?_
  · refine sm_aload_n (i := 0) (j := 0) (pc' := 9) dX1_setOne_8 rfl rfl rfl ?_
    refine sm_getR (k := 0) (pc' := 12) kX1 (by decide) mw24 dX1_setOne_9 rfl (fun x1 => ?_)
    refine sm_aload_n (i := 1) (j := 1) (pc' := 13) dX1_setOne_12 rfl rfl rfl ?_
    refine sm_getRN (k := 0) (pc' := 16) kX4 (by decide) mw61 dX1_setOne_13 rfl (fun x2 => ?_)
    refine sm_cVR (pc' := 19) (ci := 9) (st := []) (F := fun b => fX9_thingFor b x2 h) [vR x2] yY_yX9_thingFor rfl mw99 mw112 mw113 (fun b => mX9_thingFor l D aC B b x2 h) rfl (by decide) (by decide) (by exact Nat.le_of_ble_eq_true rfl) rfl dX1_setOne_16 rfl (fun x3 h4 => ?_)
    refine sm_lo (lv' := [(1, vR a1)]) [1] rfl ?_
    exact sX1_setOne_19 l D aC B  a1 x3 h4
  refine sm_null (pc' := 5) dX1_setOne_4 rfl ?_
  refine sm_goto (pc' := 19) dX1_setOne_5 (by decide) ?_
  refine sm_lo (lv' := [(1, vR a1)]) [1] rfl ?_
  exact sX1_setOne_19 l D aC B  a1 none h
set_option maxRecDepth 100000 in
theorem mX1_setOne (l : Launch) (D : va_G) (aC : Nat → ClassId) (B : Nat) (a0 : Nat) (a1 : Option Nat) (h : sm_H) : sm_M l D vwCl gAts aC B gTs gNs gOs yX1_setOne cX1_setOne 4 none 3 68 vlU [vR (some a0), vR a1] h (fX1_setOne a0 a1 h) := sm_meth [vR (some a0), vR a1] yY_yX1_setOne gG gN (Nat.le_of_ble_eq_true rfl) rfl (sX1_setOne_0 l D aC B a0 a1 h)
-- M:TreeAgent$Change.apply()V
noncomputable def fX1_apply_33  : Nat → Nat → Int32 → sm_H → Option (Unit × sm_H)
  | 0 => fun _ _ _ => none
  | n + 1 => fun a0 a1 h =>
    (sm_R (sm_get h (some a0) 1 1)).bind fun x1 =>
    (sm_I (sm_get h x1 3 8)).bind fun x2 =>
    if x2 ≤ a1 then (
      some ((), h)
    ) else
    (sm_R (sm_get h (some a0) 1 1)).bind fun x3 =>
    (sm_obj h x3 3).bind fun b9 =>
    sm_cb (fX3_pairAt b9 a1 h) fun x4 h5 =>
    (sm_obj h5 (some a0) 1).bind fun b8 =>
    sm_cb (fX1_setOne b8 x4 h5) fun _ h6 =>
    sm_let (a1 + (1 : Int32)) fun x7 =>
    (fX1_apply_33 n) a0 x7 h6
set_option maxRecDepth 100000 in
set_option maxHeartbeats 4000000 in
theorem sX1_apply_33 (l : Launch) (D : va_G) (aC : Nat → ClassId) (B : Nat)   (n : Nat) : ∀ (a0 : Nat) (a1 : Int32) (h : sm_H), zS l D aC B cX1_apply 2 RX1 5 111 none "apply" vlU (fX1_apply_33 n a0 a1 h) 33 [(0, vR (some a0)), (1, vI a1)] [] h := by
  induction n with
  | zero => intro a0 a1 h; exact sm_none
  | succ n ih =>
    intro a0 a1 h
    show zS l D aC B cX1_apply 2 RX1 5 111 none "apply" vlU (fX1_apply_33 (n + 1) a0 a1 h) 33 [(0, vR (some a0)), (1, vI a1)] [] h
    unfold fX1_apply_33
    refine sm_iload_n (i := 1) (j := 1) (pc' := 34) dX1_apply_33 rfl rfl rfl ?_
    refine sm_aload_n (i := 0) (j := 0) (pc' := 35) dX1_apply_34 rfl rfl rfl ?_
    refine sm_getR (k := 1) (pc' := 38) kX1 (by decide) mw25 dX1_apply_35 rfl (fun x1 => ?_)
    refine sm_getIN (k := 8) (pc' := 41) kX3 (by decide) mw96 dX1_apply_38 rfl (fun x2 => ?_)
    refine sm_icmp_ge (tgt := 62) (pc' := 44) dX1_apply_41 (by decide) rfl ?_ ?_
    · exact sm_vret rfl dX1_apply_62
    refine sm_aload_n (i := 0) (j := 0) (pc' := 45) dX1_apply_44 rfl rfl rfl ?_
    refine sm_aload_n (i := 0) (j := 0) (pc' := 46) dX1_apply_45 rfl rfl rfl ?_
    refine sm_getR (k := 1) (pc' := 49) kX1 (by decide) mw25 dX1_apply_46 rfl (fun x3 => ?_)
    refine sm_iload_n (i := 1) (j := 1) (pc' := 50) dX1_apply_49 rfl rfl rfl ?_
    refine sm_cVR (pc' := 53) (ci := 3) (st := [vR (some a0)]) (F := fun b => fX3_pairAt b a1 h) [vI a1] yY_yX3_pairAt rfl mw75 mw78 mw79 (fun b => mX3_pairAt l D aC B b a1 h) rfl (by decide) (by decide) (by exact Nat.le_of_ble_eq_true rfl) rfl dX1_apply_50 rfl (fun x4 h5 => ?_)
    refine sm_cVU (pc' := 56) (ci := 1) (st := []) (F := fun b => fX1_setOne b x4 h5) [vR x4] yY_yX1_setOne rfl mw154 mw155 mw156 (fun b => mX1_setOne l D aC B b x4 h5) rfl (by decide) (by decide) (by exact Nat.le_of_ble_eq_true rfl) rfl dX1_apply_53 rfl (fun _ h6 => ?_)
    refine sm_iincL (i := 1) (j := 1) (x := a1) (d := (1 : Int32)) (fun x7 => [(1, vI x7), (0, vR (some a0))]) (pc' := 59) dX1_apply_56 rfl rfl (by decide) (by decide) (fun _ => rfl) (fun x7 => ?_)
    refine sm_goto (pc' := 33) dX1_apply_59 (by decide) ?_
    refine sm_lo (lv' := [(0, vR (some a0)), (1, vI x7)]) [1, 0] rfl ?_
    exact ih a0 x7 h6
noncomputable def fX1_apply_2  : Nat → Nat → Int32 → sm_H → Option (Unit × sm_H)
  | 0 => fun _ _ _ => none
  | n + 1 => fun a0 a1 h =>
    (sm_R (sm_get h (some a0) 1 1)).bind fun x1 =>
    (sm_I (sm_get h x1 3 8)).bind fun x2 =>
    if x2 ≤ a1 then (
      fX1_apply_33 sm_fuel a0 (0 : Int32) h
    ) else
    (sm_R (sm_get h (some a0) 1 1)).bind fun x3 =>
    (sm_obj h x3 3).bind fun b9 =>
    sm_cb (fX3_pairAt b9 a1 h) fun x4 h5 =>
    (sm_obj h5 (some a0) 1).bind fun b8 =>
    sm_cb (fX1_makeRow b8 x4 h5) fun _ h6 =>
    sm_let (a1 + (1 : Int32)) fun x7 =>
    (fX1_apply_2 n) a0 x7 h6
set_option maxRecDepth 100000 in
set_option maxHeartbeats 4000000 in
theorem sX1_apply_2 (l : Launch) (D : va_G) (aC : Nat → ClassId) (B : Nat)   (n : Nat) : ∀ (a0 : Nat) (a1 : Int32) (h : sm_H), zS l D aC B cX1_apply 2 RX1 5 111 none "apply" vlU (fX1_apply_2 n a0 a1 h) 2 [(0, vR (some a0)), (1, vI a1)] [] h := by
  induction n with
  | zero => intro a0 a1 h; exact sm_none
  | succ n ih =>
    intro a0 a1 h
    show zS l D aC B cX1_apply 2 RX1 5 111 none "apply" vlU (fX1_apply_2 (n + 1) a0 a1 h) 2 [(0, vR (some a0)), (1, vI a1)] [] h
    unfold fX1_apply_2
    refine sm_iload_n (i := 1) (j := 1) (pc' := 3) dX1_apply_2 rfl rfl rfl ?_
    refine sm_aload_n (i := 0) (j := 0) (pc' := 4) dX1_apply_3 rfl rfl rfl ?_
    refine sm_getR (k := 1) (pc' := 7) kX1 (by decide) mw25 dX1_apply_4 rfl (fun x1 => ?_)
    refine sm_getIN (k := 8) (pc' := 10) kX3 (by decide) mw96 dX1_apply_7 rfl (fun x2 => ?_)
    refine sm_icmp_ge (tgt := 31) (pc' := 13) dX1_apply_10 (by decide) rfl ?_ ?_
    · refine sm_iconst (v := (0 : Int32)) (pc' := 32) dX1_apply_31 rfl (by decide) ?_
      refine sm_istore_n (i := 1) (lv' := [(1, vI (0 : Int32)), (0, vR (some a0))]) (pc' := 33) dX1_apply_32 rfl rfl (by decide) rfl ?_
      refine sm_lo (lv' := [(0, vR (some a0)), (1, vI (0 : Int32))]) [1, 0] rfl ?_
      exact sX1_apply_33 l D aC B   sm_fuel a0 (0 : Int32) h
    refine sm_aload_n (i := 0) (j := 0) (pc' := 14) dX1_apply_13 rfl rfl rfl ?_
    refine sm_aload_n (i := 0) (j := 0) (pc' := 15) dX1_apply_14 rfl rfl rfl ?_
    refine sm_getR (k := 1) (pc' := 18) kX1 (by decide) mw25 dX1_apply_15 rfl (fun x3 => ?_)
    refine sm_iload_n (i := 1) (j := 1) (pc' := 19) dX1_apply_18 rfl rfl rfl ?_
    refine sm_cVR (pc' := 22) (ci := 3) (st := [vR (some a0)]) (F := fun b => fX3_pairAt b a1 h) [vI a1] yY_yX3_pairAt rfl mw75 mw78 mw79 (fun b => mX3_pairAt l D aC B b a1 h) rfl (by decide) (by decide) (by exact Nat.le_of_ble_eq_true rfl) rfl dX1_apply_19 rfl (fun x4 h5 => ?_)
    refine sm_cVU (pc' := 25) (ci := 1) (st := []) (F := fun b => fX1_makeRow b x4 h5) [vR x4] yY_yX1_makeRow rfl mw157 mw158 mw159 (fun b => mX1_makeRow l D aC B b x4 h5) rfl (by decide) (by decide) (by exact Nat.le_of_ble_eq_true rfl) rfl dX1_apply_22 rfl (fun _ h6 => ?_)
    refine sm_iincL (i := 1) (j := 1) (x := a1) (d := (1 : Int32)) (fun x7 => [(1, vI x7), (0, vR (some a0))]) (pc' := 28) dX1_apply_25 rfl rfl (by decide) (by decide) (fun _ => rfl) (fun x7 => ?_)
    refine sm_goto (pc' := 2) dX1_apply_28 (by decide) ?_
    refine sm_lo (lv' := [(0, vR (some a0)), (1, vI x7)]) [1, 0] rfl ?_
    exact ih a0 x7 h6
noncomputable def fX1_apply  (a0 : Nat) (h : sm_H) : Option (Unit × sm_H) :=
  fX1_apply_2 sm_fuel a0 (0 : Int32) h
set_option maxRecDepth 100000 in
set_option maxHeartbeats 4000000 in
theorem sX1_apply_0 (l : Launch) (D : va_G) (aC : Nat → ClassId) (B : Nat)   (a0 : Nat) (h : sm_H) : zS l D aC B cX1_apply 2 RX1 5 111 none "apply" vlU (fX1_apply a0 h) 0 [(0, vR (some a0))] [] h := by
  unfold fX1_apply
  refine sm_iconst (v := (0 : Int32)) (pc' := 1) dX1_apply_0 rfl (by decide) ?_
  refine sm_istore_n (i := 1) (lv' := [(1, vI (0 : Int32)), (0, vR (some a0))]) (pc' := 2) dX1_apply_1 rfl rfl (by decide) rfl ?_
  refine sm_lo (lv' := [(0, vR (some a0)), (1, vI (0 : Int32))]) [1, 0] rfl ?_
  exact sX1_apply_2 l D aC B   sm_fuel a0 (0 : Int32) h
set_option maxRecDepth 100000 in
theorem mX1_apply (l : Launch) (D : va_G) (aC : Nat → ClassId) (B : Nat) (a0 : Nat) (h : sm_H) : sm_M l D vwCl gAts aC B gTs gNs gOs yX1_apply cX1_apply 2 none 5 111 vlU [vR (some a0)] h (fX1_apply a0 h) := sm_meth [vR (some a0)] yY_yX1_apply gG gN (Nat.le_of_ble_eq_true rfl) rfl (sX1_apply_0 l D aC B a0 h)
-- M:TreeAgent$Community.<init>(LTreeAgent$Chain;Z)V
noncomputable def fX2_init  (a0 : Nat) (a1 : Option Nat) (a2 : Int32) (h : sm_H) : Option (Unit × sm_H) :=
  sm_let (sm_new h 0 [.null, .int 0]) fun h1 =>
  sm_cb (fX0_init h.1 (40 : Int32) h1) fun _ h2 =>
  (sm_put h2 (some a0) 2 0 (sm_v (vR (some h.1)))).bind fun h3 =>
  if (8 : Int32) < 0 ∨ 1000000 < (8 : Int32) then none else
  sm_let (sm_nwa h3 9 (8 : Int32).toNatClampNeg (.inr (.inr (.inr (.inr (fun _ => none)))))) fun h4 =>
  (sm_put h4 (some a0) 2 2 (sm_v (vR (some h3.1)))).bind fun h5 =>
  if (8 : Int32) < 0 ∨ 1000000 < (8 : Int32) then none else
  sm_let (sm_nwa h5 2 (8 : Int32).toNatClampNeg (.inl (fun _ => 0))) fun h6 =>
  (sm_put h6 (some a0) 2 3 (sm_v (vR (some h5.1)))).bind fun h7 =>
  (sm_R (sm_get h7 (some a0) 2 0)).bind fun x8 =>
  (sm_obj h7 x8 0).bind fun b11 =>
  sm_cb (fX0_copy b11 a1 h7) fun _ h9 =>
  if a2 = 0 ∨ a2 = 1 then (
  (sm_put h9 (some a0) 2 1 (sm_v (vI a2))).bind fun h10 =>
    some ((), h10)
  ) else none
set_option maxRecDepth 100000 in
set_option maxHeartbeats 4000000 in
theorem sX2_init_0 (l : Launch) (D : va_G) (aC : Nat → ClassId) (B : Nat)   (a0 : Nat) (a1 : Option Nat) (a2 : Int32) (h : sm_H) : zS l D aC B cX2_init 3 RX2 2 44 none "<init>" vlU (fX2_init a0 a1 a2 h) 0 [(0, vR (some a0)), (1, vR a1), (2, vI a2)] [] h := by
  unfold fX2_init
  refine sm_aload_n (i := 0) (j := 0) (pc' := 1) dX2_init_0 rfl rfl rfl ?_
  refine sm_objI (pc' := 4) mw160 mw1 mw2 dX2_init_1 rfl (by decide) (Nat.le_of_ble_eq_true rfl) ?_
  refine sm_aload_n (i := 0) (j := 0) (pc' := 5) dX2_init_4 rfl rfl rfl ?_
  refine sm_newL (fs := [.null, .int 0]) (pc' := 8) kX0 rfl (by decide +kernel) mw163 mw168 mw169 dX2_init_5 rfl (fun h1 => ?_)
  refine sm_dup (pc' := 9) rfl dX2_init_8 rfl ?_
  refine sm_bipush (v := (40 : Int32)) (pc' := 11) dX2_init_9 rfl (by decide) ?_
  refine sm_cI (pc' := 14) (b := h.1) (st := [vR (some h.1), vR (some a0)]) [vI (40 : Int32)] yY_yX0_init mw161 mw167 rfl (mX0_init l D aC B h.1 (40 : Int32) h1) rfl (by decide) (by decide) (by exact Nat.le_of_ble_eq_true rfl) rfl dX2_init_11 rfl (fun _ h2 => ?_)
  refine sm_putFR (k := 0) (pc' := 17) kX2 (by decide) mw162 rfl rfl rfl (Or.inl ⟨_, rfl⟩) dX2_init_14 rfl (fun h3 => ?_)
  refine sm_aload_n (i := 0) (j := 0) (pc' := 18) dX2_init_17 rfl rfl rfl ?_
  refine sm_bipush (v := (8 : Int32)) (pc' := 20) dX2_init_18 rfl (by decide) ?_
  refine sm_anewL (C0 := "TreeAgent$Chain") (t := 9) (pc' := 23) rfl mw163 (by decide) dX2_init_20 rfl (fun h4 => ?_)
  refine sm_putFR (k := 2) (pc' := 26) kX2 (by decide) mw28 rfl rfl rfl (Or.inr ⟨_, rfl⟩) dX2_init_23 rfl (fun h5 => ?_)
  refine sm_aload_n (i := 0) (j := 0) (pc' := 27) dX2_init_26 rfl rfl rfl ?_
  refine sm_bipush (v := (8 : Int32)) (pc' := 29) dX2_init_27 rfl (by decide) ?_
  refine sm_newaL (ty := .boolean) (t := 2) (a0 := (.inl (fun _ => 0))) (pc' := 31) rfl rfl (fun _ _ h9 => h9) (fun _ _ => rfl) (by decide) mw164 dX2_init_29 rfl (fun h6 => ?_)
  refine sm_putFR (k := 3) (pc' := 34) kX2 (by decide) mw29 rfl rfl rfl (Or.inr ⟨_, rfl⟩) dX2_init_31 rfl (fun h7 => ?_)
  refine sm_aload_n (i := 0) (j := 0) (pc' := 35) dX2_init_34 rfl rfl rfl ?_
  refine sm_getR (k := 0) (pc' := 38) kX2 (by decide) mw162 dX2_init_35 rfl (fun x8 => ?_)
  refine sm_aload_n (i := 1) (j := 1) (pc' := 39) dX2_init_38 rfl rfl rfl ?_
  refine sm_cVU (pc' := 42) (ci := 0) (st := []) (F := fun b => fX0_copy b a1 h7) [vR a1] yY_yX0_copy rfl mw165 mw142 mw143 (fun b => mX0_copy l D aC B b a1 h7) rfl (by decide) (by decide) (by exact Nat.le_of_ble_eq_true rfl) rfl dX2_init_39 rfl (fun _ h9 => ?_)
  refine sm_aload_n (i := 0) (j := 0) (pc' := 43) dX2_init_42 rfl rfl rfl ?_
  refine sm_iload_n (i := 2) (j := 2) (pc' := 44) dX2_init_43 rfl rfl rfl ?_
  refine sm_putFZ (k := 1) (pc' := 47) kX2 (by decide) mw166 rfl rfl rfl rfl dX2_init_44 rfl (fun h10 => ?_)
  exact sm_vret rfl dX2_init_47
set_option maxRecDepth 100000 in
theorem mX2_init (l : Launch) (D : va_G) (aC : Nat → ClassId) (B : Nat) (a0 : Nat) (a1 : Option Nat) (a2 : Int32) (h : sm_H) : sm_M l D vwCl gAts aC B gTs gNs gOs yX2_init cX2_init 3 none 2 44 vlU [vR (some a0), vR a1, vI a2] h (fX2_init a0 a1 a2 h) := sm_meth [vR (some a0), vR a1, vI a2] yY_yX2_init gG gN (Nat.le_of_ble_eq_true rfl) rfl (sX2_init_0 l D aC B a0 a1 a2 h)
-- M:TreeAgent$Community.viewCount()I
noncomputable def fX2_viewCount  (a0 : Nat) (h : sm_H) : Option (Int32 × sm_H) :=
  (sm_I (sm_get h (some a0) 2 4)).bind fun x1 =>
  some (x1, h)
set_option maxRecDepth 100000 in
set_option maxHeartbeats 4000000 in
theorem sX2_viewCount_0 (l : Launch) (D : va_G) (aC : Nat → ClassId) (B : Nat)   (a0 : Nat) (h : sm_H) : zS l D aC B cX2_viewCount 1 RX2 0 0 (some .int) "viewCount" vlI (fX2_viewCount a0 h) 0 [(0, vR (some a0))] [] h := by
  unfold fX2_viewCount
  refine sm_aload_n (i := 0) (j := 0) (pc' := 1) dX2_viewCount_0 rfl rfl rfl ?_
  refine sm_getI (k := 4) (pc' := 4) kX2 (by decide) mw27 dX2_viewCount_1 rfl (fun x1 => ?_)
  exact sm_iret rfl dX2_viewCount_4
set_option maxRecDepth 100000 in
theorem mX2_viewCount (l : Launch) (D : va_G) (aC : Nat → ClassId) (B : Nat) (a0 : Nat) (h : sm_H) : sm_M l D vwCl gAts aC B gTs gNs gOs yX2_viewCount cX2_viewCount 1 (some .int) 0 0 vlI [vR (some a0)] h (fX2_viewCount a0 h) := sm_meth [vR (some a0)] yY_yX2_viewCount gG gN (Nat.le_of_ble_eq_true rfl) rfl (sX2_viewCount_0 l D aC B a0 h)
-- M:TreeAgent$Community.addView(LTreeAgent$Chain;Z)Z
noncomputable def fX2_addView  (a0 : Nat) (a1 : Option Nat) (a2 : Int32) (h : sm_H) : Option (Int32 × sm_H) :=
  (sm_I (sm_get h (some a0) 2 4)).bind fun x1 =>
  if x1 < 0 then (
    some ((0 : Int32), h)
  ) else
  (sm_I (sm_get h (some a0) 2 4)).bind fun x2 =>
  (sm_R (sm_get h (some a0) 2 2)).bind fun x3 =>
  (sm_len h x3 9).bind fun x4 =>
  if x4 ≤ x2 then (
    some ((0 : Int32), h)
  ) else
  (sm_I (sm_get h (some a0) 2 4)).bind fun x5 =>
  (sm_R (sm_get h (some a0) 2 3)).bind fun x6 =>
  (sm_len h x6 2).bind fun x7 =>
  if x5 < x7 then (
    sm_let (sm_new h 0 [.null, .int 0]) fun h8 =>
    sm_cb (fX0_init h.1 (16 : Int32) h8) fun _ h9 =>
    (sm_obj h9 (some h.1) 0).bind fun b19 =>
    sm_cb (fX0_copy b19 a1 h9) fun _ h10 =>
    (sm_R (sm_get h10 (some a0) 2 2)).bind fun x11 =>
    (sm_I (sm_get h10 (some a0) 2 4)).bind fun x12 =>
    (sm_sR h10 x11 9 0 x12 (some h.1)).bind fun h13 =>
    (sm_R (sm_get h13 (some a0) 2 3)).bind fun x14 =>
    (sm_I (sm_get h13 (some a0) 2 4)).bind fun x15 =>
    (sm_sI h13 x14 2 x15 (vp_nar .boolean a2)).bind fun h16 =>
    (sm_I (sm_get h16 (some a0) 2 4)).bind fun x17 =>
    (sm_put h16 (some a0) 2 4 (sm_v (vI (x17 + (1 : Int32))))).bind fun h18 =>
    some ((1 : Int32), h18)
  ) else
  some ((0 : Int32), h)
set_option maxRecDepth 100000 in
set_option maxHeartbeats 4000000 in
theorem sX2_addView_0 (l : Launch) (D : va_G) (aC : Nat → ClassId) (B : Nat)   (a0 : Nat) (a1 : Option Nat) (a2 : Int32) (h : sm_H) : zS l D aC B cX2_addView 4 RX2 2 44 (some .boolean) "addView" vlI (fX2_addView a0 a1 a2 h) 0 [(0, vR (some a0)), (1, vR a1), (2, vI a2)] [] h := by
  unfold fX2_addView
  refine sm_aload_n (i := 0) (j := 0) (pc' := 1) dX2_addView_0 rfl rfl rfl ?_
  refine sm_getI (k := 4) (pc' := 4) kX2 (by decide) mw27 dX2_addView_1 rfl (fun x1 => ?_)
  refine sm_if_lt (tgt := 31) (pc' := 7) dX2_addView_4 (by decide) rfl ?_ ?_
  · refine sm_iconst (v := (0 : Int32)) (pc' := 32) dX2_addView_31 rfl (by decide) ?_
    exact sm_zret0 rfl dX2_addView_32
  refine sm_aload_n (i := 0) (j := 0) (pc' := 8) dX2_addView_7 rfl rfl rfl ?_
  refine sm_getI (k := 4) (pc' := 11) kX2 (by decide) mw27 dX2_addView_8 rfl (fun x2 => ?_)
  refine sm_aload_n (i := 0) (j := 0) (pc' := 12) dX2_addView_11 rfl rfl rfl ?_
  refine sm_getR (k := 2) (pc' := 15) kX2 (by decide) mw28 dX2_addView_12 rfl (fun x3 => ?_)
  refine sm_alen (t := 9) (pc' := 16) rfl dX2_addView_15 rfl (fun x4 => ?_)
  refine sm_icmp_ge (tgt := 31) (pc' := 19) dX2_addView_16 (by decide) rfl ?_ ?_
  · refine sm_iconst (v := (0 : Int32)) (pc' := 32) dX2_addView_31 rfl (by decide) ?_
    exact sm_zret0 rfl dX2_addView_32
  refine sm_aload_n (i := 0) (j := 0) (pc' := 20) dX2_addView_19 rfl rfl rfl ?_
  refine sm_getI (k := 4) (pc' := 23) kX2 (by decide) mw27 dX2_addView_20 rfl (fun x5 => ?_)
  refine sm_aload_n (i := 0) (j := 0) (pc' := 24) dX2_addView_23 rfl rfl rfl ?_
  refine sm_getR (k := 3) (pc' := 27) kX2 (by decide) mw29 dX2_addView_24 rfl (fun x6 => ?_)
  refine sm_alen (t := 2) (pc' := 28) rfl dX2_addView_27 rfl (fun x7 => ?_)
  refine sm_icmp_lt (tgt := 33) (pc' := 31) dX2_addView_28 (by decide) rfl ?_ ?_
  · refine sm_newL (fs := [.null, .int 0]) (pc' := 36) kX0 rfl (by decide +kernel) mw163 mw168 mw169 dX2_addView_33 rfl (fun h8 => ?_)
    refine sm_dup (pc' := 37) rfl dX2_addView_36 rfl ?_
    refine sm_bipush (v := (16 : Int32)) (pc' := 39) dX2_addView_37 rfl (by decide) ?_
    refine sm_cI (pc' := 42) (b := h.1) (st := [vR (some h.1)]) [vI (16 : Int32)] yY_yX0_init mw161 mw167 rfl (mX0_init l D aC B h.1 (16 : Int32) h8) rfl (by decide) (by decide) (by exact Nat.le_of_ble_eq_true rfl) rfl dX2_addView_39 rfl (fun _ h9 => ?_)
    refine sm_astore_n (i := 3) (lv' := [(3, vR (some h.1)), (0, vR (some a0)), (1, vR a1), (2, vI a2)]) (pc' := 43) dX2_addView_42 rfl rfl (by decide) rfl ?_
    refine sm_aload_n (i := 3) (j := 0) (pc' := 44) dX2_addView_43 rfl rfl rfl ?_
    refine sm_aload_n (i := 1) (j := 2) (pc' := 45) dX2_addView_44 rfl rfl rfl ?_
    refine sm_cVU (pc' := 48) (ci := 0) (st := []) (F := fun b => fX0_copy b a1 h9) [vR a1] yY_yX0_copy rfl mw165 mw142 mw143 (fun b => mX0_copy l D aC B b a1 h9) rfl (by decide) (by decide) (by exact Nat.le_of_ble_eq_true rfl) rfl dX2_addView_45 rfl (fun _ h10 => ?_)
    refine sm_aload_n (i := 0) (j := 1) (pc' := 49) dX2_addView_48 rfl rfl rfl ?_
    refine sm_getR (k := 2) (pc' := 52) kX2 (by decide) mw28 dX2_addView_49 rfl (fun x11 => ?_)
    refine sm_aload_n (i := 0) (j := 1) (pc' := 53) dX2_addView_52 rfl rfl rfl ?_
    refine sm_getI (k := 4) (pc' := 56) kX2 (by decide) mw27 dX2_addView_53 rfl (fun x12 => ?_)
    refine sm_aload_n (i := 3) (j := 0) (pc' := 57) dX2_addView_56 rfl rfl rfl ?_
    refine sm_aast (t := 9) (ci := 0) (pc' := 58) rfl rfl dX2_addView_57 rfl (fun h13 => ?_)
    refine sm_aload_n (i := 0) (j := 1) (pc' := 59) dX2_addView_58 rfl rfl rfl ?_
    refine sm_getR (k := 3) (pc' := 62) kX2 (by decide) mw29 dX2_addView_59 rfl (fun x14 => ?_)
    refine sm_aload_n (i := 0) (j := 1) (pc' := 63) dX2_addView_62 rfl rfl rfl ?_
    refine sm_getI (k := 4) (pc' := 66) kX2 (by decide) mw27 dX2_addView_63 rfl (fun x15 => ?_)
    refine sm_iload_n (i := 2) (j := 3) (pc' := 67) dX2_addView_66 rfl rfl rfl ?_
    refine sm_zast (t := 2) (pc' := 68) rfl dX2_addView_67 rfl (fun h16 => ?_)
    refine sm_aload_n (i := 0) (j := 1) (pc' := 69) dX2_addView_68 rfl rfl rfl ?_
    refine sm_dup (pc' := 70) rfl dX2_addView_69 rfl ?_
    refine sm_getI (k := 4) (pc' := 73) kX2 (by decide) mw27 dX2_addView_70 rfl (fun x17 => ?_)
    refine sm_iconst (v := (1 : Int32)) (pc' := 74) dX2_addView_73 rfl (by decide) ?_
    refine sm_iadd (pc' := 75) dX2_addView_74 rfl ?_
    refine sm_putI (k := 4) (pc' := 78) kX2 (by decide) mw27 rfl rfl dX2_addView_75 rfl (fun h18 => ?_)
    refine sm_iconst (v := (1 : Int32)) (pc' := 79) dX2_addView_78 rfl (by decide) ?_
    exact sm_zret1 rfl dX2_addView_79
  refine sm_iconst (v := (0 : Int32)) (pc' := 32) dX2_addView_31 rfl (by decide) ?_
  exact sm_zret0 rfl dX2_addView_32
set_option maxRecDepth 100000 in
theorem mX2_addView (l : Launch) (D : va_G) (aC : Nat → ClassId) (B : Nat) (a0 : Nat) (a1 : Option Nat) (a2 : Int32) (h : sm_H) : sm_M l D vwCl gAts aC B gTs gNs gOs yX2_addView cX2_addView 4 (some .boolean) 2 44 vlI [vR (some a0), vR a1, vI a2] h (fX2_addView a0 a1 a2 h) := sm_meth [vR (some a0), vR a1, vI a2] yY_yX2_addView gG gN (Nat.le_of_ble_eq_true rfl) rfl (sX2_addView_0 l D aC B a0 a1 a2 h)
-- M:TreeAgent$Value.<init>(II)V
noncomputable def fX10_init  (a0 : Nat) (a1 : Int32) (a2 : Int32) (h : sm_H) : Option (Unit × sm_H) :=
  (sm_put h (some a0) 10 1 (sm_v (vI a1))).bind fun h1 =>
  sm_let (sm_new h1 0 [.null, .int 0]) fun h2 =>
  sm_cb (fX0_init h1.1 a2 h2) fun _ h3 =>
  (sm_put h3 (some a0) 10 0 (sm_v (vR (some h1.1)))).bind fun h4 =>
  some ((), h4)
set_option maxRecDepth 100000 in
set_option maxHeartbeats 4000000 in
theorem sX10_init_0 (l : Launch) (D : va_G) (aC : Nat → ClassId) (B : Nat)   (a0 : Nat) (a1 : Int32) (a2 : Int32) (h : sm_H) : zS l D aC B cX10_init 3 RX10 2 42 none "<init>" vlU (fX10_init a0 a1 a2 h) 0 [(0, vR (some a0)), (1, vI a1), (2, vI a2)] [] h := by
  unfold fX10_init
  refine sm_aload_n (i := 0) (j := 0) (pc' := 1) dX10_init_0 rfl rfl rfl ?_
  refine sm_objI (pc' := 4) mw170 mw1 mw2 dX10_init_1 rfl (by decide) (Nat.le_of_ble_eq_true rfl) ?_
  refine sm_aload_n (i := 0) (j := 0) (pc' := 5) dX10_init_4 rfl rfl rfl ?_
  refine sm_iload_n (i := 1) (j := 1) (pc' := 6) dX10_init_5 rfl rfl rfl ?_
  refine sm_putI (k := 1) (pc' := 9) kX10 (by decide) mw117 rfl rfl dX10_init_6 rfl (fun h1 => ?_)
  refine sm_aload_n (i := 0) (j := 0) (pc' := 10) dX10_init_9 rfl rfl rfl ?_
  refine sm_newL (fs := [.null, .int 0]) (pc' := 13) kX0 rfl (by decide +kernel) mw172 mw168 mw169 dX10_init_10 rfl (fun h2 => ?_)
  refine sm_dup (pc' := 14) rfl dX10_init_13 rfl ?_
  refine sm_iload_n (i := 2) (j := 2) (pc' := 15) dX10_init_14 rfl rfl rfl ?_
  refine sm_cI (pc' := 18) (b := h1.1) (st := [vR (some h1.1), vR (some a0)]) [vI a2] yY_yX0_init mw171 mw167 rfl (mX0_init l D aC B h1.1 a2 h2) rfl (by decide) (by decide) (by exact Nat.le_of_ble_eq_true rfl) rfl dX10_init_15 rfl (fun _ h3 => ?_)
  refine sm_putFR (k := 0) (pc' := 21) kX10 (by decide) mw119 rfl rfl rfl (Or.inl ⟨_, rfl⟩) dX10_init_18 rfl (fun h4 => ?_)
  exact sm_vret rfl dX10_init_21
set_option maxRecDepth 100000 in
theorem mX10_init (l : Launch) (D : va_G) (aC : Nat → ClassId) (B : Nat) (a0 : Nat) (a1 : Int32) (a2 : Int32) (h : sm_H) : sm_M l D vwCl gAts aC B gTs gNs gOs yX10_init cX10_init 3 none 2 42 vlU [vR (some a0), vI a1, vI a2] h (fX10_init a0 a1 a2 h) := sm_meth [vR (some a0), vI a1, vI a2] yY_yX10_init gG gN (Nat.le_of_ble_eq_true rfl) rfl (sX10_init_0 l D aC B a0 a1 a2 h)
-- M:TreeAgent$Pair.<init>(LTreeAgent$Value;)V
noncomputable def fX4_init  (a0 : Nat) (a1 : Option Nat) (h : sm_H) : Option (Unit × sm_H) :=
  sm_let (sm_new h 0 [.null, .int 0]) fun h1 =>
  sm_cb (fX0_init h.1 (16 : Int32) h1) fun _ h2 =>
  (sm_put h2 (some a0) 4 0 (sm_v (vR (some h.1)))).bind fun h3 =>
  (sm_put h3 (some a0) 4 1 (sm_v (vR a1))).bind fun h4 =>
  some ((), h4)
set_option maxRecDepth 100000 in
set_option maxHeartbeats 4000000 in
theorem sX4_init_0 (l : Launch) (D : va_G) (aC : Nat → ClassId) (B : Nat)   (a0 : Nat) (a1 : Option Nat) (h : sm_H) : zS l D aC B cX4_init 2 RX4 2 42 none "<init>" vlU (fX4_init a0 a1 h) 0 [(0, vR (some a0)), (1, vR a1)] [] h := by
  unfold fX4_init
  refine sm_aload_n (i := 0) (j := 0) (pc' := 1) dX4_init_0 rfl rfl rfl ?_
  refine sm_objI (pc' := 4) mw173 mw1 mw2 dX4_init_1 rfl (by decide) (Nat.le_of_ble_eq_true rfl) ?_
  refine sm_aload_n (i := 0) (j := 0) (pc' := 5) dX4_init_4 rfl rfl rfl ?_
  refine sm_newL (fs := [.null, .int 0]) (pc' := 8) kX0 rfl (by decide +kernel) mw177 mw168 mw169 dX4_init_5 rfl (fun h1 => ?_)
  refine sm_dup (pc' := 9) rfl dX4_init_8 rfl ?_
  refine sm_bipush (v := (16 : Int32)) (pc' := 11) dX4_init_9 rfl (by decide) ?_
  refine sm_cI (pc' := 14) (b := h.1) (st := [vR (some h.1), vR (some a0)]) [vI (16 : Int32)] yY_yX0_init mw174 mw167 rfl (mX0_init l D aC B h.1 (16 : Int32) h1) rfl (by decide) (by decide) (by exact Nat.le_of_ble_eq_true rfl) rfl dX4_init_11 rfl (fun _ h2 => ?_)
  refine sm_putFR (k := 0) (pc' := 17) kX4 (by decide) mw175 rfl rfl rfl (Or.inl ⟨_, rfl⟩) dX4_init_14 rfl (fun h3 => ?_)
  refine sm_aload_n (i := 0) (j := 0) (pc' := 18) dX4_init_17 rfl rfl rfl ?_
  refine sm_aload_n (i := 1) (j := 1) (pc' := 19) dX4_init_18 rfl rfl rfl ?_
  refine sm_putR (k := 1) (pc' := 22) kX4 (by decide) mw176 rfl (Or.inl ⟨_, rfl⟩) dX4_init_19 rfl (fun h4 => ?_)
  exact sm_vret rfl dX4_init_22
set_option maxRecDepth 100000 in
theorem mX4_init (l : Launch) (D : va_G) (aC : Nat → ClassId) (B : Nat) (a0 : Nat) (a1 : Option Nat) (h : sm_H) : sm_M l D vwCl gAts aC B gTs gNs gOs yX4_init cX4_init 2 none 2 42 vlU [vR (some a0), vR a1] h (fX4_init a0 a1 h) := sm_meth [vR (some a0), vR a1] yY_yX4_init gG gN (Nat.le_of_ble_eq_true rfl) rfl (sX4_init_0 l D aC B a0 a1 h)
-- M:TreeAgent$Message.<init>()V
noncomputable def fX3_init_28  : Nat → Nat → Int32 → sm_H → Option (Unit × sm_H)
  | 0 => fun _ _ _ => none
  | n + 1 => fun a0 a1 h =>
    (sm_R (sm_get h (some a0) 3 1)).bind fun x1 =>
    (sm_len h x1 7).bind fun x2 =>
    if x2 ≤ a1 then (
      some ((), h)
    ) else
    (sm_R (sm_get h (some a0) 3 1)).bind fun x3 =>
    sm_let (sm_new h 4 [.null, .null]) fun h4 =>
    sm_let (sm_new h4 10 [.null, .int 0, .long 0]) fun h5 =>
    sm_cb (fX10_init h4.1 (5 : Int32) (40 : Int32) h5) fun _ h6 =>
    sm_cb (fX4_init h.1 (some h4.1) h6) fun _ h7 =>
    (sm_sR h7 x3 7 4 a1 (some h.1)).bind fun h8 =>
    sm_let (a1 + (1 : Int32)) fun x9 =>
    (fX3_init_28 n) a0 x9 h8
set_option maxRecDepth 100000 in
set_option maxHeartbeats 4000000 in
theorem sX3_init_28 (l : Launch) (D : va_G) (aC : Nat → ClassId) (B : Nat)   (n : Nat) : ∀ (a0 : Nat) (a1 : Int32) (h : sm_H), zS l D aC B cX3_init 2 RX3 3 64 none "<init>" vlU (fX3_init_28 n a0 a1 h) 28 [(0, vR (some a0)), (1, vI a1)] [] h := by
  induction n with
  | zero => intro a0 a1 h; exact sm_none
  | succ n ih =>
    intro a0 a1 h
    show zS l D aC B cX3_init 2 RX3 3 64 none "<init>" vlU (fX3_init_28 (n + 1) a0 a1 h) 28 [(0, vR (some a0)), (1, vI a1)] [] h
    unfold fX3_init_28
    refine sm_iload_n (i := 1) (j := 1) (pc' := 29) dX3_init_28 rfl rfl rfl ?_
    refine sm_aload_n (i := 0) (j := 0) (pc' := 30) dX3_init_29 rfl rfl rfl ?_
    refine sm_getR (k := 1) (pc' := 33) kX3 (by decide) mw26 dX3_init_30 rfl (fun x1 => ?_)
    refine sm_alen (t := 7) (pc' := 34) rfl dX3_init_33 rfl (fun x2 => ?_)
    refine sm_icmp_ge (tgt := 66) (pc' := 37) dX3_init_34 (by decide) rfl ?_ ?_
    · exact sm_vret rfl dX3_init_66
    refine sm_aload_n (i := 0) (j := 0) (pc' := 38) dX3_init_37 rfl rfl rfl ?_
    refine sm_getR (k := 1) (pc' := 41) kX3 (by decide) mw26 dX3_init_38 rfl (fun x3 => ?_)
    refine sm_iload_n (i := 1) (j := 1) (pc' := 42) dX3_init_41 rfl rfl rfl ?_
    refine sm_newL (fs := [.null, .null]) (pc' := 45) kX4 rfl (by decide +kernel) mw185 mw186 mw187 dX3_init_42 rfl (fun h4 => ?_)
    refine sm_dup (pc' := 46) rfl dX3_init_45 rfl ?_
    refine sm_newL (fs := [.null, .int 0, .long 0]) (pc' := 49) kX10 rfl (by decide +kernel) mw182 mw183 mw184 dX3_init_46 rfl (fun h5 => ?_)
    refine sm_dup (pc' := 50) rfl dX3_init_49 rfl ?_
    refine sm_iconst (v := (5 : Int32)) (pc' := 51) dX3_init_50 rfl (by decide) ?_
    refine sm_bipush (v := (40 : Int32)) (pc' := 53) dX3_init_51 rfl (by decide) ?_
    refine sm_cI (pc' := 56) (b := h4.1) (st := [vR (some h4.1), vR (some h.1), vR (some h.1), vI a1, vR x3]) [vI (5 : Int32), vI (40 : Int32)] yY_yX10_init mw178 mw181 rfl (mX10_init l D aC B h4.1 (5 : Int32) (40 : Int32) h5) rfl (by decide) (by decide) (by exact Nat.le_of_ble_eq_true rfl) rfl dX3_init_53 rfl (fun _ h6 => ?_)
    refine sm_cI (pc' := 59) (b := h.1) (st := [vR (some h.1), vI a1, vR x3]) [vR (some h4.1)] yY_yX4_init mw179 mw180 rfl (mX4_init l D aC B h.1 (some h4.1) h6) rfl (by decide) (by decide) (by exact Nat.le_of_ble_eq_true rfl) rfl dX3_init_56 rfl (fun _ h7 => ?_)
    refine sm_aast (t := 7) (ci := 4) (pc' := 60) rfl rfl dX3_init_59 rfl (fun h8 => ?_)
    refine sm_iincL (i := 1) (j := 1) (x := a1) (d := (1 : Int32)) (fun x9 => [(1, vI x9), (0, vR (some a0))]) (pc' := 63) dX3_init_60 rfl rfl (by decide) (by decide) (fun _ => rfl) (fun x9 => ?_)
    refine sm_goto (pc' := 28) dX3_init_63 (by decide) ?_
    refine sm_lo (lv' := [(0, vR (some a0)), (1, vI x9)]) [1, 0] rfl ?_
    exact ih a0 x9 h8
noncomputable def fX3_init  (a0 : Nat) (h : sm_H) : Option (Unit × sm_H) :=
  sm_let (sm_new h 0 [.null, .int 0]) fun h1 =>
  sm_cb (fX0_init h.1 (40 : Int32) h1) fun _ h2 =>
  (sm_put h2 (some a0) 3 0 (sm_v (vR (some h.1)))).bind fun h3 =>
  if (20 : Int32) < 0 ∨ 1000000 < (20 : Int32) then none else
  sm_let (sm_nwa h3 7 (20 : Int32).toNatClampNeg (.inr (.inr (.inr (.inr (fun _ => none)))))) fun h4 =>
  (sm_put h4 (some a0) 3 1 (sm_v (vR (some h3.1)))).bind fun h5 =>
  fX3_init_28 sm_fuel a0 (0 : Int32) h5
set_option maxRecDepth 100000 in
set_option maxHeartbeats 4000000 in
theorem sX3_init_0 (l : Launch) (D : va_G) (aC : Nat → ClassId) (B : Nat)   (a0 : Nat) (h : sm_H) : zS l D aC B cX3_init 2 RX3 3 64 none "<init>" vlU (fX3_init a0 h) 0 [(0, vR (some a0))] [] h := by
  unfold fX3_init
  refine sm_aload_n (i := 0) (j := 0) (pc' := 1) dX3_init_0 rfl rfl rfl ?_
  refine sm_objI (pc' := 4) mw188 mw1 mw2 dX3_init_1 rfl (by decide) (Nat.le_of_ble_eq_true rfl) ?_
  refine sm_aload_n (i := 0) (j := 0) (pc' := 5) dX3_init_4 rfl rfl rfl ?_
  refine sm_newL (fs := [.null, .int 0]) (pc' := 8) kX0 rfl (by decide +kernel) mw191 mw168 mw169 dX3_init_5 rfl (fun h1 => ?_)
  refine sm_dup (pc' := 9) rfl dX3_init_8 rfl ?_
  refine sm_bipush (v := (40 : Int32)) (pc' := 11) dX3_init_9 rfl (by decide) ?_
  refine sm_cI (pc' := 14) (b := h.1) (st := [vR (some h.1), vR (some a0)]) [vI (40 : Int32)] yY_yX0_init mw189 mw167 rfl (mX0_init l D aC B h.1 (40 : Int32) h1) rfl (by decide) (by decide) (by exact Nat.le_of_ble_eq_true rfl) rfl dX3_init_11 rfl (fun _ h2 => ?_)
  refine sm_putFR (k := 0) (pc' := 17) kX3 (by decide) mw190 rfl rfl rfl (Or.inl ⟨_, rfl⟩) dX3_init_14 rfl (fun h3 => ?_)
  refine sm_aload_n (i := 0) (j := 0) (pc' := 18) dX3_init_17 rfl rfl rfl ?_
  refine sm_bipush (v := (20 : Int32)) (pc' := 20) dX3_init_18 rfl (by decide) ?_
  refine sm_anewL (C0 := "TreeAgent$Pair") (t := 7) (pc' := 23) rfl mw185 (by decide) dX3_init_20 rfl (fun h4 => ?_)
  refine sm_putFR (k := 1) (pc' := 26) kX3 (by decide) mw26 rfl rfl rfl (Or.inr ⟨_, rfl⟩) dX3_init_23 rfl (fun h5 => ?_)
  refine sm_iconst (v := (0 : Int32)) (pc' := 27) dX3_init_26 rfl (by decide) ?_
  refine sm_istore_n (i := 1) (lv' := [(1, vI (0 : Int32)), (0, vR (some a0))]) (pc' := 28) dX3_init_27 rfl rfl (by decide) rfl ?_
  refine sm_lo (lv' := [(0, vR (some a0)), (1, vI (0 : Int32))]) [1, 0] rfl ?_
  exact sX3_init_28 l D aC B   sm_fuel a0 (0 : Int32) h5
set_option maxRecDepth 100000 in
theorem mX3_init (l : Launch) (D : va_G) (aC : Nat → ClassId) (B : Nat) (a0 : Nat) (h : sm_H) : sm_M l D vwCl gAts aC B gTs gNs gOs yX3_init cX3_init 2 none 3 64 vlU [vR (some a0)] h (fX3_init a0 h) := sm_meth [vR (some a0)] yY_yX3_init gG gN (Nat.le_of_ble_eq_true rfl) rfl (sX3_init_0 l D aC B a0 h)
-- M:TreeAgent$Reader.<init>(LTreeAgent$Chain;)V
noncomputable def fX5_init  (a0 : Nat) (a1 : Option Nat) (h : sm_H) : Option (Unit × sm_H) :=
  sm_let (sm_new h 10 [.null, .int 0, .long 0]) fun h1 =>
  sm_cb (fX10_init h.1 (2 : Int32) (0 : Int32) h1) fun _ h2 =>
  (sm_put h2 (some a0) 5 1 (sm_v (vR (some h.1)))).bind fun h3 =>
  (sm_put h3 (some a0) 5 0 (sm_v (vR a1))).bind fun h4 =>
  some ((), h4)
set_option maxRecDepth 100000 in
set_option maxHeartbeats 4000000 in
theorem sX5_init_0 (l : Launch) (D : va_G) (aC : Nat → ClassId) (B : Nat)   (a0 : Nat) (a1 : Option Nat) (h : sm_H) : zS l D aC B cX5_init 2 RX5 3 64 none "<init>" vlU (fX5_init a0 a1 h) 0 [(0, vR (some a0)), (1, vR a1)] [] h := by
  unfold fX5_init
  refine sm_aload_n (i := 0) (j := 0) (pc' := 1) dX5_init_0 rfl rfl rfl ?_
  refine sm_objI (pc' := 4) mw192 mw1 mw2 dX5_init_1 rfl (by decide) (Nat.le_of_ble_eq_true rfl) ?_
  refine sm_aload_n (i := 0) (j := 0) (pc' := 5) dX5_init_4 rfl rfl rfl ?_
  refine sm_newL (fs := [.null, .int 0, .long 0]) (pc' := 8) kX10 rfl (by decide +kernel) mw196 mw183 mw184 dX5_init_5 rfl (fun h1 => ?_)
  refine sm_dup (pc' := 9) rfl dX5_init_8 rfl ?_
  refine sm_iconst (v := (2 : Int32)) (pc' := 10) dX5_init_9 rfl (by decide) ?_
  refine sm_iconst (v := (0 : Int32)) (pc' := 11) dX5_init_10 rfl (by decide) ?_
  refine sm_cI (pc' := 14) (b := h.1) (st := [vR (some h.1), vR (some a0)]) [vI (2 : Int32), vI (0 : Int32)] yY_yX10_init mw193 mw181 rfl (mX10_init l D aC B h.1 (2 : Int32) (0 : Int32) h1) rfl (by decide) (by decide) (by exact Nat.le_of_ble_eq_true rfl) rfl dX5_init_11 rfl (fun _ h2 => ?_)
  refine sm_putFR (k := 1) (pc' := 17) kX5 (by decide) mw194 rfl rfl rfl (Or.inl ⟨_, rfl⟩) dX5_init_14 rfl (fun h3 => ?_)
  refine sm_aload_n (i := 0) (j := 0) (pc' := 18) dX5_init_17 rfl rfl rfl ?_
  refine sm_aload_n (i := 1) (j := 1) (pc' := 19) dX5_init_18 rfl rfl rfl ?_
  refine sm_putFR (k := 0) (pc' := 22) kX5 (by decide) mw195 rfl rfl rfl (Or.inl ⟨_, rfl⟩) dX5_init_19 rfl (fun h4 => ?_)
  exact sm_vret rfl dX5_init_22
set_option maxRecDepth 100000 in
theorem mX5_init (l : Launch) (D : va_G) (aC : Nat → ClassId) (B : Nat) (a0 : Nat) (a1 : Option Nat) (h : sm_H) : sm_M l D vwCl gAts aC B gTs gNs gOs yX5_init cX5_init 2 none 3 64 vlU [vR (some a0), vR a1] h (fX5_init a0 a1 h) := sm_meth [vR (some a0), vR a1] yY_yX5_init gG gN (Nat.le_of_ble_eq_true rfl) rfl (sX5_init_0 l D aC B a0 a1 h)
-- M:TreeAgent$Reader.readLength(I)J
noncomputable def fX5_readLength_91  : Nat → Nat → Int64 → Int32 → sm_H → Option (Int64 × sm_H)
  | 0 => fun _ _ _ _ => none
  | n + 1 => fun a0 a4 a6 h =>
    if a6 ≤ 0 then (
      some (a4, h)
    ) else
    (sm_R (sm_get h (some a0) 5 0)).bind fun x1 =>
    (sm_I (sm_get h (some a0) 5 2)).bind fun x2 =>
    (sm_obj h x1 0).bind fun b9 =>
    sm_cb (fX0_at b9 x2 h) fun x3 h4 =>
    sm_let ((a4 <<< ((8 : Int32).toInt64 &&& 63)) ||| x3) fun x5 =>
    (sm_I (sm_get h4 (some a0) 5 2)).bind fun x6 =>
    (sm_put h4 (some a0) 5 2 (sm_v (vI (x6 + (1 : Int32))))).bind fun h7 =>
    sm_let (a6 + (-1 : Int32)) fun x8 =>
    (fX5_readLength_91 n) a0 x5 x8 h7
set_option maxRecDepth 100000 in
set_option maxHeartbeats 4000000 in
theorem sX5_readLength_91 (l : Launch) (D : va_G) (aC : Nat → ClassId) (B : Nat)   (n : Nat) : ∀ (a0 : Nat) (a4 : Int64) (a6 : Int32) (h : sm_H), zS l D aC B cX5_readLength 7 RX5 1 21 (some .long) "readLength" vlJ (fX5_readLength_91 n a0 a4 a6 h) 91 [(0, vR (some a0)), (4, vJ a4), (6, vI a6)] [] h := by
  induction n with
  | zero => intro a0 a4 a6 h; exact sm_none
  | succ n ih =>
    intro a0 a4 a6 h
    show zS l D aC B cX5_readLength 7 RX5 1 21 (some .long) "readLength" vlJ (fX5_readLength_91 (n + 1) a0 a4 a6 h) 91 [(0, vR (some a0)), (4, vJ a4), (6, vI a6)] [] h
    unfold fX5_readLength_91
    refine sm_iload (i := 6) (j := 2) (pc' := 93) dX5_readLength_91 rfl rfl ?_
    refine sm_if_le (tgt := 131) (pc' := 96) dX5_readLength_93 (by decide) rfl ?_ ?_
    · refine sm_lload (i := 4) (j := 1) (pc' := 133) dX5_readLength_131 rfl rfl ?_
      exact sm_lret rfl dX5_readLength_133
    refine sm_lload (i := 4) (j := 1) (pc' := 98) dX5_readLength_96 rfl rfl ?_
    refine sm_bipush (v := (8 : Int32)) (pc' := 100) dX5_readLength_98 rfl (by decide) ?_
    refine sm_lshl (pc' := 101) dX5_readLength_100 rfl ?_
    refine sm_aload_n (i := 0) (j := 0) (pc' := 102) dX5_readLength_101 rfl rfl rfl ?_
    refine sm_getR (k := 0) (pc' := 105) kX5 (by decide) mw195 dX5_readLength_102 rfl (fun x1 => ?_)
    refine sm_aload_n (i := 0) (j := 0) (pc' := 106) dX5_readLength_105 rfl rfl rfl ?_
    refine sm_getI (k := 2) (pc' := 109) kX5 (by decide) mw197 dX5_readLength_106 rfl (fun x2 => ?_)
    refine sm_cVJ (pc' := 112) (ci := 0) (st := [vJ (a4 <<< ((8 : Int32).toInt64 &&& 63))]) (F := fun b => fX0_at b x2 h) [vI x2] yY_yX0_at rfl mw198 mw15 mw16 (fun b => mX0_at l D aC B b x2 h) rfl (by decide) (by decide) (by exact Nat.le_of_ble_eq_true rfl) rfl dX5_readLength_109 rfl (fun x3 h4 => ?_)
    refine sm_lor (pc' := 113) dX5_readLength_112 rfl ?_
    refine sm_letJv (fun x5 => ?_)
    refine sm_lstore (i := 4) (lv' := [(4, vJ x5), (0, vR (some a0)), (6, vI a6)]) (pc' := 115) dX5_readLength_113 rfl (by decide) rfl ?_
    refine sm_aload_n (i := 0) (j := 1) (pc' := 116) dX5_readLength_115 rfl rfl rfl ?_
    refine sm_dup (pc' := 117) rfl dX5_readLength_116 rfl ?_
    refine sm_getI (k := 2) (pc' := 120) kX5 (by decide) mw197 dX5_readLength_117 rfl (fun x6 => ?_)
    refine sm_iconst (v := (1 : Int32)) (pc' := 121) dX5_readLength_120 rfl (by decide) ?_
    refine sm_iadd (pc' := 122) dX5_readLength_121 rfl ?_
    refine sm_putI (k := 2) (pc' := 125) kX5 (by decide) mw197 rfl rfl dX5_readLength_122 rfl (fun h7 => ?_)
    refine sm_iincL (i := 6) (j := 2) (x := a6) (d := (-1 : Int32)) (fun x8 => [(6, vI x8), (4, vJ x5), (0, vR (some a0))]) (pc' := 128) dX5_readLength_125 rfl rfl (by decide) (by decide) (fun _ => rfl) (fun x8 => ?_)
    refine sm_goto (pc' := 91) dX5_readLength_128 (by decide) ?_
    refine sm_lo (lv' := [(0, vR (some a0)), (4, vJ x5), (6, vI x8)]) [2, 1, 0] rfl ?_
    exact ih a0 x5 x8 h7
noncomputable def fX5_readLength  (a0 : Nat) (a1 : Int32) (h : sm_H) : Option (Int64 × sm_H) :=
  (sm_I (sm_get h (some a0) 5 2)).bind fun x1 =>
  if x1 < a1 then (
    (sm_R (sm_get h (some a0) 5 0)).bind fun x2 =>
    (sm_I (sm_get h (some a0) 5 2)).bind fun x3 =>
    (sm_obj h x2 0).bind fun b10 =>
    sm_cb (fX0_at b10 x3 h) fun x4 h5 =>
    (sm_I (sm_get h5 (some a0) 5 2)).bind fun x6 =>
    (sm_put h5 (some a0) 5 2 (sm_v (vI (x6 + (1 : Int32))))).bind fun h7 =>
    if 0 ≤ (lg_cmp x4 (128 : Int64)) then (
      if (lg_cmp x4 (129 : Int64)) < 0 then (
        some ((-1 : Int64), h7)
      ) else
      if 0 < (lg_cmp x4 (132 : Int64)) then (
        some ((-1 : Int64), h7)
      ) else
      (sm_I (sm_get h7 (some a0) 5 2)).bind fun x8 =>
      if (lg_cmp (x4 - (128 : Int64)) ((a1 - x8).toInt64)) ≤ 0 then (
        sm_let ((x4.toInt32) - (128 : Int32)) fun x9 =>
        fX5_readLength_91 sm_fuel a0 (0 : Int64) x9 h7
      ) else
      some ((-1 : Int64), h7)
    ) else
    some (x4, h7)
  ) else
  some ((-1 : Int64), h)
set_option maxRecDepth 100000 in
set_option maxHeartbeats 4000000 in
theorem sX5_readLength_0 (l : Launch) (D : va_G) (aC : Nat → ClassId) (B : Nat)   (a0 : Nat) (a1 : Int32) (h : sm_H) : zS l D aC B cX5_readLength 7 RX5 1 21 (some .long) "readLength" vlJ (fX5_readLength a0 a1 h) 0 [(0, vR (some a0)), (1, vI a1)] [] h := by
  unfold fX5_readLength
  refine sm_aload_n (i := 0) (j := 0) (pc' := 1) dX5_readLength_0 rfl rfl rfl ?_
  refine sm_getI (k := 2) (pc' := 4) kX5 (by decide) mw197 dX5_readLength_1 rfl (fun x1 => ?_)
  refine sm_iload_n (i := 1) (j := 1) (pc' := 5) dX5_readLength_4 rfl rfl rfl ?_
  refine sm_icmp_lt (tgt := 12) (pc' := 8) dX5_readLength_5 (by decide) rfl ?_ ?_
  · refine sm_aload_n (i := 0) (j := 0) (pc' := 13) dX5_readLength_12 rfl rfl rfl ?_
    refine sm_getR (k := 0) (pc' := 16) kX5 (by decide) mw195 dX5_readLength_13 rfl (fun x2 => ?_)
    refine sm_aload_n (i := 0) (j := 0) (pc' := 17) dX5_readLength_16 rfl rfl rfl ?_
    refine sm_getI (k := 2) (pc' := 20) kX5 (by decide) mw197 dX5_readLength_17 rfl (fun x3 => ?_)
    refine sm_cVJ (pc' := 23) (ci := 0) (st := []) (F := fun b => fX0_at b x3 h) [vI x3] yY_yX0_at rfl mw198 mw15 mw16 (fun b => mX0_at l D aC B b x3 h) rfl (by decide) (by decide) (by exact Nat.le_of_ble_eq_true rfl) rfl dX5_readLength_20 rfl (fun x4 h5 => ?_)
    refine sm_lstore_n (i := 2) (lv' := [(2, vJ x4), (0, vR (some a0)), (1, vI a1)]) (pc' := 24) dX5_readLength_23 rfl rfl (by decide) rfl ?_
    refine sm_aload_n (i := 0) (j := 1) (pc' := 25) dX5_readLength_24 rfl rfl rfl ?_
    refine sm_dup (pc' := 26) rfl dX5_readLength_25 rfl ?_
    refine sm_getI (k := 2) (pc' := 29) kX5 (by decide) mw197 dX5_readLength_26 rfl (fun x6 => ?_)
    refine sm_iconst (v := (1 : Int32)) (pc' := 30) dX5_readLength_29 rfl (by decide) ?_
    refine sm_iadd (pc' := 31) dX5_readLength_30 rfl ?_
    refine sm_putI (k := 2) (pc' := 34) kX5 (by decide) mw197 rfl rfl dX5_readLength_31 rfl (fun h7 => ?_)
    refine sm_lload_n (i := 2) (j := 0) (pc' := 35) dX5_readLength_34 rfl rfl rfl ?_
    refine sm_ldc2 (v := (128 : Int64)) (pc' := 38) dX5_readLength_35 rfl mw199 ?_
    refine sm_lcmp (pc' := 39) dX5_readLength_38 rfl ?_
    refine sm_if_ge (tgt := 44) (pc' := 42) dX5_readLength_39 (by decide) rfl ?_ ?_
    · refine sm_lload_n (i := 2) (j := 0) (pc' := 45) dX5_readLength_44 rfl rfl rfl ?_
      refine sm_ldc2 (v := (129 : Int64)) (pc' := 48) dX5_readLength_45 rfl mw200 ?_
      refine sm_lcmp (pc' := 49) dX5_readLength_48 rfl ?_
      refine sm_if_lt (tgt := 76) (pc' := 52) dX5_readLength_49 (by decide) rfl ?_ ?_
      · refine sm_ldc2 (v := (-1 : Int64)) (pc' := 79) dX5_readLength_76 rfl mw201 ?_
        exact sm_lret rfl dX5_readLength_79
      refine sm_lload_n (i := 2) (j := 0) (pc' := 53) dX5_readLength_52 rfl rfl rfl ?_
      refine sm_ldc2 (v := (132 : Int64)) (pc' := 56) dX5_readLength_53 rfl mw202 ?_
      refine sm_lcmp (pc' := 57) dX5_readLength_56 rfl ?_
      refine sm_if_gt (tgt := 76) (pc' := 60) dX5_readLength_57 (by decide) rfl ?_ ?_
      · refine sm_ldc2 (v := (-1 : Int64)) (pc' := 79) dX5_readLength_76 rfl mw201 ?_
        exact sm_lret rfl dX5_readLength_79
      refine sm_lload_n (i := 2) (j := 0) (pc' := 61) dX5_readLength_60 rfl rfl rfl ?_
      refine sm_ldc2 (v := (128 : Int64)) (pc' := 64) dX5_readLength_61 rfl mw199 ?_
      refine sm_lsub (pc' := 65) dX5_readLength_64 rfl ?_
      refine sm_iload_n (i := 1) (j := 2) (pc' := 66) dX5_readLength_65 rfl rfl rfl ?_
      refine sm_aload_n (i := 0) (j := 1) (pc' := 67) dX5_readLength_66 rfl rfl rfl ?_
      refine sm_getI (k := 2) (pc' := 70) kX5 (by decide) mw197 dX5_readLength_67 rfl (fun x8 => ?_)
      refine sm_isub (pc' := 71) dX5_readLength_70 rfl ?_
      refine sm_i2l (pc' := 72) dX5_readLength_71 rfl ?_
      refine sm_lcmp (pc' := 73) dX5_readLength_72 rfl ?_
      refine sm_if_le (tgt := 80) (pc' := 76) dX5_readLength_73 (by decide) rfl ?_ ?_
      · refine sm_lconst (v := (0 : Int64)) (pc' := 81) dX5_readLength_80 rfl (by decide) ?_
        refine sm_lstore (i := 4) (lv' := [(4, vJ (0 : Int64)), (2, vJ x4), (0, vR (some a0)), (1, vI a1)]) (pc' := 83) dX5_readLength_81 rfl (by decide) rfl ?_
        refine sm_lload_n (i := 2) (j := 1) (pc' := 84) dX5_readLength_83 rfl rfl rfl ?_
        refine sm_l2i (pc' := 85) dX5_readLength_84 rfl ?_
        refine sm_sipush (v := (128 : Int32)) (pc' := 88) dX5_readLength_85 rfl (by decide) ?_
        refine sm_isub (pc' := 89) dX5_readLength_88 rfl ?_
        refine sm_letIv (fun x9 => ?_)
        refine sm_istore (i := 6) (lv' := [(6, vI x9), (4, vJ (0 : Int64)), (2, vJ x4), (0, vR (some a0)), (1, vI a1)]) (pc' := 91) dX5_readLength_89 rfl (by decide) rfl ?_
        refine sm_lo (lv' := [(0, vR (some a0)), (4, vJ (0 : Int64)), (6, vI x9)]) [3, 1, 0] rfl ?_
        exact sX5_readLength_91 l D aC B   sm_fuel a0 (0 : Int64) x9 h7
      refine sm_ldc2 (v := (-1 : Int64)) (pc' := 79) dX5_readLength_76 rfl mw201 ?_
      exact sm_lret rfl dX5_readLength_79
    refine sm_lload_n (i := 2) (j := 0) (pc' := 43) dX5_readLength_42 rfl rfl rfl ?_
    exact sm_lret rfl dX5_readLength_43
  refine sm_ldc2 (v := (-1 : Int64)) (pc' := 11) dX5_readLength_8 rfl mw201 ?_
  exact sm_lret rfl dX5_readLength_11
set_option maxRecDepth 100000 in
theorem mX5_readLength (l : Launch) (D : va_G) (aC : Nat → ClassId) (B : Nat) (a0 : Nat) (a1 : Int32) (h : sm_H) : sm_M l D vwCl gAts aC B gTs gNs gOs yX5_readLength cX5_readLength 7 (some .long) 1 21 vlJ [vR (some a0), vI a1] h (fX5_readLength a0 a1 h) := sm_meth [vR (some a0), vI a1] yY_yX5_readLength gG gN (Nat.le_of_ble_eq_true rfl) rfl (sX5_readLength_0 l D aC B a0 a1 h)
-- M:TreeAgent$Reader.enter(II)I
noncomputable def fX5_enter  (a0 : Nat) (a1 : Int32) (a2 : Int32) (h : sm_H) : Option (Int32 × sm_H) :=
  (sm_I (sm_get h (some a0) 5 2)).bind fun x1 =>
  if a2 ≤ x1 then (
    some ((-1 : Int32), h)
  ) else
  (sm_R (sm_get h (some a0) 5 0)).bind fun x2 =>
  (sm_I (sm_get h (some a0) 5 2)).bind fun x3 =>
  (sm_obj h x2 0).bind fun b13 =>
  sm_cb (fX0_at b13 x3 h) fun x4 h5 =>
  if (lg_cmp x4 (a1.toInt64)) = 0 then (
    (sm_I (sm_get h5 (some a0) 5 2)).bind fun x6 =>
    (sm_put h5 (some a0) 5 2 (sm_v (vI (x6 + (1 : Int32))))).bind fun h7 =>
    (sm_obj h7 (some a0) 5).bind fun b12 =>
    sm_cb (fX5_readLength b12 a2 h7) fun x8 h9 =>
    if (lg_cmp x8 (0 : Int64)) < 0 then (
      some ((-1 : Int32), h9)
    ) else
    (sm_I (sm_get h9 (some a0) 5 2)).bind fun x10 =>
    if (lg_cmp x8 ((a2 - x10).toInt64)) ≤ 0 then (
      (sm_I (sm_get h9 (some a0) 5 2)).bind fun x11 =>
      some (x11 + (x8.toInt32), h9)
    ) else
    some ((-1 : Int32), h9)
  ) else
  some ((-1 : Int32), h5)
set_option maxRecDepth 100000 in
set_option maxHeartbeats 4000000 in
theorem sX5_enter_0 (l : Launch) (D : va_G) (aC : Nat → ClassId) (B : Nat)   (a0 : Nat) (a1 : Int32) (a2 : Int32) (h : sm_H) : zS l D aC B cX5_enter 5 RX5 2 47 (some .int) "enter" vlI (fX5_enter a0 a1 a2 h) 0 [(0, vR (some a0)), (1, vI a1), (2, vI a2)] [] h := by
  unfold fX5_enter
  refine sm_aload_n (i := 0) (j := 0) (pc' := 1) dX5_enter_0 rfl rfl rfl ?_
  refine sm_getI (k := 2) (pc' := 4) kX5 (by decide) mw197 dX5_enter_1 rfl (fun x1 => ?_)
  refine sm_iload_n (i := 2) (j := 2) (pc' := 5) dX5_enter_4 rfl rfl rfl ?_
  refine sm_icmp_ge (tgt := 25) (pc' := 8) dX5_enter_5 (by decide) rfl ?_ ?_
  · refine sm_iconst (v := (-1 : Int32)) (pc' := 26) dX5_enter_25 rfl (by decide) ?_
    exact sm_iret rfl dX5_enter_26
  refine sm_aload_n (i := 0) (j := 0) (pc' := 9) dX5_enter_8 rfl rfl rfl ?_
  refine sm_getR (k := 0) (pc' := 12) kX5 (by decide) mw195 dX5_enter_9 rfl (fun x2 => ?_)
  refine sm_aload_n (i := 0) (j := 0) (pc' := 13) dX5_enter_12 rfl rfl rfl ?_
  refine sm_getI (k := 2) (pc' := 16) kX5 (by decide) mw197 dX5_enter_13 rfl (fun x3 => ?_)
  refine sm_cVJ (pc' := 19) (ci := 0) (st := []) (F := fun b => fX0_at b x3 h) [vI x3] yY_yX0_at rfl mw198 mw15 mw16 (fun b => mX0_at l D aC B b x3 h) rfl (by decide) (by decide) (by exact Nat.le_of_ble_eq_true rfl) rfl dX5_enter_16 rfl (fun x4 h5 => ?_)
  refine sm_iload_n (i := 1) (j := 1) (pc' := 20) dX5_enter_19 rfl rfl rfl ?_
  refine sm_i2l (pc' := 21) dX5_enter_20 rfl ?_
  refine sm_lcmp (pc' := 22) dX5_enter_21 rfl ?_
  refine sm_if_eq (tgt := 27) (pc' := 25) dX5_enter_22 (by decide) rfl ?_ ?_
  · refine sm_aload_n (i := 0) (j := 0) (pc' := 28) dX5_enter_27 rfl rfl rfl ?_
    refine sm_dup (pc' := 29) rfl dX5_enter_28 rfl ?_
    refine sm_getI (k := 2) (pc' := 32) kX5 (by decide) mw197 dX5_enter_29 rfl (fun x6 => ?_)
    refine sm_iconst (v := (1 : Int32)) (pc' := 33) dX5_enter_32 rfl (by decide) ?_
    refine sm_iadd (pc' := 34) dX5_enter_33 rfl ?_
    refine sm_putI (k := 2) (pc' := 37) kX5 (by decide) mw197 rfl rfl dX5_enter_34 rfl (fun h7 => ?_)
    refine sm_aload_n (i := 0) (j := 0) (pc' := 38) dX5_enter_37 rfl rfl rfl ?_
    refine sm_iload_n (i := 2) (j := 2) (pc' := 39) dX5_enter_38 rfl rfl rfl ?_
    refine sm_cVJ (pc' := 42) (ci := 5) (st := []) (F := fun b => fX5_readLength b a2 h7) [vI a2] yY_yX5_readLength rfl mw203 mw204 mw205 (fun b => mX5_readLength l D aC B b a2 h7) rfl (by decide) (by decide) (by exact Nat.le_of_ble_eq_true rfl) rfl dX5_enter_39 rfl (fun x8 h9 => ?_)
    refine sm_lstore_n (i := 3) (lv' := [(3, vJ x8), (0, vR (some a0)), (1, vI a1), (2, vI a2)]) (pc' := 43) dX5_enter_42 rfl rfl (by decide) rfl ?_
    refine sm_lload_n (i := 3) (j := 0) (pc' := 44) dX5_enter_43 rfl rfl rfl ?_
    refine sm_lconst (v := (0 : Int64)) (pc' := 45) dX5_enter_44 rfl (by decide) ?_
    refine sm_lcmp (pc' := 46) dX5_enter_45 rfl ?_
    refine sm_if_lt (tgt := 61) (pc' := 49) dX5_enter_46 (by decide) rfl ?_ ?_
    · refine sm_iconst (v := (-1 : Int32)) (pc' := 62) dX5_enter_61 rfl (by decide) ?_
      refine sm_goto (pc' := 72) dX5_enter_62 (by decide) ?_
      exact sm_iret rfl dX5_enter_72
    refine sm_lload_n (i := 3) (j := 0) (pc' := 50) dX5_enter_49 rfl rfl rfl ?_
    refine sm_iload_n (i := 2) (j := 3) (pc' := 51) dX5_enter_50 rfl rfl rfl ?_
    refine sm_aload_n (i := 0) (j := 1) (pc' := 52) dX5_enter_51 rfl rfl rfl ?_
    refine sm_getI (k := 2) (pc' := 55) kX5 (by decide) mw197 dX5_enter_52 rfl (fun x10 => ?_)
    refine sm_isub (pc' := 56) dX5_enter_55 rfl ?_
    refine sm_i2l (pc' := 57) dX5_enter_56 rfl ?_
    refine sm_lcmp (pc' := 58) dX5_enter_57 rfl ?_
    refine sm_if_le (tgt := 65) (pc' := 61) dX5_enter_58 (by decide) rfl ?_ ?_
    · refine sm_aload_n (i := 0) (j := 1) (pc' := 66) dX5_enter_65 rfl rfl rfl ?_
      refine sm_getI (k := 2) (pc' := 69) kX5 (by decide) mw197 dX5_enter_66 rfl (fun x11 => ?_)
      refine sm_lload_n (i := 3) (j := 0) (pc' := 70) dX5_enter_69 rfl rfl rfl ?_
      refine sm_l2i (pc' := 71) dX5_enter_70 rfl ?_
      refine sm_iadd (pc' := 72) dX5_enter_71 rfl ?_
      exact sm_iret rfl dX5_enter_72
    refine sm_iconst (v := (-1 : Int32)) (pc' := 62) dX5_enter_61 rfl (by decide) ?_
    refine sm_goto (pc' := 72) dX5_enter_62 (by decide) ?_
    exact sm_iret rfl dX5_enter_72
  refine sm_iconst (v := (-1 : Int32)) (pc' := 26) dX5_enter_25 rfl (by decide) ?_
  exact sm_iret rfl dX5_enter_26
set_option maxRecDepth 100000 in
theorem mX5_enter (l : Launch) (D : va_G) (aC : Nat → ClassId) (B : Nat) (a0 : Nat) (a1 : Int32) (a2 : Int32) (h : sm_H) : sm_M l D vwCl gAts aC B gTs gNs gOs yX5_enter cX5_enter 5 (some .int) 2 47 vlI [vR (some a0), vI a1, vI a2] h (fX5_enter a0 a1 a2 h) := sm_meth [vR (some a0), vI a1, vI a2] yY_yX5_enter gG gN (Nat.le_of_ble_eq_true rfl) rfl (sX5_enter_0 l D aC B a0 a1 a2 h)
