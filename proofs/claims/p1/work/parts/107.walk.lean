-- M:TreeAgent$Tree.addThing(LTreeAgent$Thing;)I
noncomputable def fX9_addThing  (a0 : Nat) (a1 : Option Nat) (h : sm_H) : Option (Int32 × sm_H) :=
  (sm_I (sm_get h (some a0) 9 3)).bind fun x1 =>
  if x1 < 0 then (
    some ((-4 : Int32), h)
  ) else
  (sm_I (sm_get h (some a0) 9 3)).bind fun x2 =>
  (sm_R (sm_get h (some a0) 9 0)).bind fun x3 =>
  (sm_len h x3 4).bind fun x4 =>
  if x2 < x4 then (
    (sm_R (sm_get h (some a0) 9 0)).bind fun x5 =>
    (sm_I (sm_get h (some a0) 9 3)).bind fun x6 =>
    (sm_sR h x5 4 8 x6 a1).bind fun h7 =>
    (sm_I (sm_get h7 (some a0) 9 3)).bind fun x8 =>
    (sm_put h7 (some a0) 9 3 (sm_v (vI (x8 + (1 : Int32))))).bind fun h9 =>
    (sm_obj h9 (some a0) 9).bind fun b12 =>
    sm_cb (fX9_putInOrder b12 a1 h9) fun _ h10 =>
    (sm_I (sm_get h10 (some a0) 9 3)).bind fun x11 =>
    some (x11 - (1 : Int32), h10)
  ) else
  some ((-4 : Int32), h)
set_option maxRecDepth 100000 in
set_option maxHeartbeats 4000000 in
theorem sX9_addThing_0 (l : Launch) (D : va_G) (aC : Nat → ClassId) (B : Nat)   (a0 : Nat) (a1 : Option Nat) (h : sm_H) : zS l D aC B cX9_addThing 2 RX9 3 68 (some .int) "addThing" vlI (fX9_addThing a0 a1 h) 0 [(0, vR (some a0)), (1, vR a1)] [] h := by
  unfold fX9_addThing
  refine sm_aload_n (i := 0) (j := 0) (pc' := 1) dX9_addThing_0 rfl rfl rfl ?_
  refine sm_getI (k := 3) (pc' := 4) kX9 (by decide) mw35 dX9_addThing_1 rfl (fun x1 => ?_)
  refine sm_if_lt (tgt := 19) (pc' := 7) dX9_addThing_4 (by decide) rfl ?_ ?_
  · refine sm_bipush (v := (-4 : Int32)) (pc' := 21) dX9_addThing_19 rfl (by decide) ?_
    exact sm_iret rfl dX9_addThing_21
  refine sm_aload_n (i := 0) (j := 0) (pc' := 8) dX9_addThing_7 rfl rfl rfl ?_
  refine sm_getI (k := 3) (pc' := 11) kX9 (by decide) mw35 dX9_addThing_8 rfl (fun x2 => ?_)
  refine sm_aload_n (i := 0) (j := 0) (pc' := 12) dX9_addThing_11 rfl rfl rfl ?_
  refine sm_getR (k := 0) (pc' := 15) kX9 (by decide) mw34 dX9_addThing_12 rfl (fun x3 => ?_)
  refine sm_alen (t := 4) (pc' := 16) rfl dX9_addThing_15 rfl (fun x4 => ?_)
  refine sm_icmp_lt (tgt := 22) (pc' := 19) dX9_addThing_16 (by decide) rfl ?_ ?_
  · refine sm_aload_n (i := 0) (j := 0) (pc' := 23) dX9_addThing_22 rfl rfl rfl ?_
    refine sm_getR (k := 0) (pc' := 26) kX9 (by decide) mw34 dX9_addThing_23 rfl (fun x5 => ?_)
    refine sm_aload_n (i := 0) (j := 0) (pc' := 27) dX9_addThing_26 rfl rfl rfl ?_
    refine sm_getI (k := 3) (pc' := 30) kX9 (by decide) mw35 dX9_addThing_27 rfl (fun x6 => ?_)
    refine sm_aload_n (i := 1) (j := 1) (pc' := 31) dX9_addThing_30 rfl rfl rfl ?_
    refine sm_aast (t := 4) (ci := 8) (pc' := 32) rfl rfl dX9_addThing_31 rfl (fun h7 => ?_)
    refine sm_aload_n (i := 0) (j := 0) (pc' := 33) dX9_addThing_32 rfl rfl rfl ?_
    refine sm_dup (pc' := 34) rfl dX9_addThing_33 rfl ?_
    refine sm_getI (k := 3) (pc' := 37) kX9 (by decide) mw35 dX9_addThing_34 rfl (fun x8 => ?_)
    refine sm_iconst (v := (1 : Int32)) (pc' := 38) dX9_addThing_37 rfl (by decide) ?_
    refine sm_iadd (pc' := 39) dX9_addThing_38 rfl ?_
    refine sm_putI (k := 3) (pc' := 42) kX9 (by decide) mw35 rfl rfl dX9_addThing_39 rfl (fun h9 => ?_)
    refine sm_aload_n (i := 0) (j := 0) (pc' := 43) dX9_addThing_42 rfl rfl rfl ?_
    refine sm_aload_n (i := 1) (j := 1) (pc' := 44) dX9_addThing_43 rfl rfl rfl ?_
    refine sm_cVU (pc' := 47) (ci := 9) (st := []) (F := fun b => fX9_putInOrder b a1 h9) [vR a1] yY_yX9_putInOrder rfl mw387 mw388 mw389 (fun b => mX9_putInOrder l D aC B b a1 h9) rfl (by decide) (by decide) (by exact Nat.le_of_ble_eq_true rfl) rfl dX9_addThing_44 rfl (fun _ h10 => ?_)
    refine sm_aload_n (i := 0) (j := 0) (pc' := 48) dX9_addThing_47 rfl rfl rfl ?_
    refine sm_getI (k := 3) (pc' := 51) kX9 (by decide) mw35 dX9_addThing_48 rfl (fun x11 => ?_)
    refine sm_iconst (v := (1 : Int32)) (pc' := 52) dX9_addThing_51 rfl (by decide) ?_
    refine sm_isub (pc' := 53) dX9_addThing_52 rfl ?_
    exact sm_iret rfl dX9_addThing_53
  refine sm_bipush (v := (-4 : Int32)) (pc' := 21) dX9_addThing_19 rfl (by decide) ?_
  exact sm_iret rfl dX9_addThing_21
set_option maxRecDepth 100000 in
theorem mX9_addThing (l : Launch) (D : va_G) (aC : Nat → ClassId) (B : Nat) (a0 : Nat) (a1 : Option Nat) (h : sm_H) : sm_M l D vwCl gAts aC B gTs gNs gOs yX9_addThing cX9_addThing 2 (some .int) 3 68 vlI [vR (some a0), vR a1] h (fX9_addThing a0 a1 h) := sm_meth [vR (some a0), vR a1] yY_yX9_addThing gG gN (Nat.le_of_ble_eq_true rfl) rfl (sX9_addThing_0 l D aC B a0 a1 h)
-- M:TreeAgent$Tree.addTable(LTreeAgent$Table;)I
noncomputable def fX9_addTable  (a0 : Nat) (a1 : Option Nat) (h : sm_H) : Option (Int32 × sm_H) :=
  (sm_I (sm_get h (some a0) 9 4)).bind fun x1 =>
  if x1 < 0 then (
    some ((-4 : Int32), h)
  ) else
  (sm_I (sm_get h (some a0) 9 4)).bind fun x2 =>
  (sm_R (sm_get h (some a0) 9 2)).bind fun x3 =>
  (sm_len h x3 5).bind fun x4 =>
  if x2 < x4 then (
    (sm_R (sm_get h (some a0) 9 2)).bind fun x5 =>
    (sm_I (sm_get h (some a0) 9 4)).bind fun x6 =>
    (sm_sR h x5 5 7 x6 a1).bind fun h7 =>
    (sm_I (sm_get h7 (some a0) 9 4)).bind fun x8 =>
    (sm_put h7 (some a0) 9 4 (sm_v (vI (x8 + (1 : Int32))))).bind fun h9 =>
    (sm_I (sm_get h9 (some a0) 9 4)).bind fun x10 =>
    some (x10 - (1 : Int32), h9)
  ) else
  some ((-4 : Int32), h)
set_option maxRecDepth 100000 in
set_option maxHeartbeats 4000000 in
theorem sX9_addTable_0 (l : Launch) (D : va_G) (aC : Nat → ClassId) (B : Nat)   (a0 : Nat) (a1 : Option Nat) (h : sm_H) : zS l D aC B cX9_addTable 2 RX9 0 0 (some .int) "addTable" vlI (fX9_addTable a0 a1 h) 0 [(0, vR (some a0)), (1, vR a1)] [] h := by
  unfold fX9_addTable
  refine sm_aload_n (i := 0) (j := 0) (pc' := 1) dX9_addTable_0 rfl rfl rfl ?_
  refine sm_getI (k := 4) (pc' := 4) kX9 (by decide) mw381 dX9_addTable_1 rfl (fun x1 => ?_)
  refine sm_if_lt (tgt := 19) (pc' := 7) dX9_addTable_4 (by decide) rfl ?_ ?_
  · refine sm_bipush (v := (-4 : Int32)) (pc' := 21) dX9_addTable_19 rfl (by decide) ?_
    exact sm_iret rfl dX9_addTable_21
  refine sm_aload_n (i := 0) (j := 0) (pc' := 8) dX9_addTable_7 rfl rfl rfl ?_
  refine sm_getI (k := 4) (pc' := 11) kX9 (by decide) mw381 dX9_addTable_8 rfl (fun x2 => ?_)
  refine sm_aload_n (i := 0) (j := 0) (pc' := 12) dX9_addTable_11 rfl rfl rfl ?_
  refine sm_getR (k := 2) (pc' := 15) kX9 (by decide) mw380 dX9_addTable_12 rfl (fun x3 => ?_)
  refine sm_alen (t := 5) (pc' := 16) rfl dX9_addTable_15 rfl (fun x4 => ?_)
  refine sm_icmp_lt (tgt := 22) (pc' := 19) dX9_addTable_16 (by decide) rfl ?_ ?_
  · refine sm_aload_n (i := 0) (j := 0) (pc' := 23) dX9_addTable_22 rfl rfl rfl ?_
    refine sm_getR (k := 2) (pc' := 26) kX9 (by decide) mw380 dX9_addTable_23 rfl (fun x5 => ?_)
    refine sm_aload_n (i := 0) (j := 0) (pc' := 27) dX9_addTable_26 rfl rfl rfl ?_
    refine sm_getI (k := 4) (pc' := 30) kX9 (by decide) mw381 dX9_addTable_27 rfl (fun x6 => ?_)
    refine sm_aload_n (i := 1) (j := 1) (pc' := 31) dX9_addTable_30 rfl rfl rfl ?_
    refine sm_aast (t := 5) (ci := 7) (pc' := 32) rfl rfl dX9_addTable_31 rfl (fun h7 => ?_)
    refine sm_aload_n (i := 0) (j := 0) (pc' := 33) dX9_addTable_32 rfl rfl rfl ?_
    refine sm_dup (pc' := 34) rfl dX9_addTable_33 rfl ?_
    refine sm_getI (k := 4) (pc' := 37) kX9 (by decide) mw381 dX9_addTable_34 rfl (fun x8 => ?_)
    refine sm_iconst (v := (1 : Int32)) (pc' := 38) dX9_addTable_37 rfl (by decide) ?_
    refine sm_iadd (pc' := 39) dX9_addTable_38 rfl ?_
    refine sm_putI (k := 4) (pc' := 42) kX9 (by decide) mw381 rfl rfl dX9_addTable_39 rfl (fun h9 => ?_)
    refine sm_aload_n (i := 0) (j := 0) (pc' := 43) dX9_addTable_42 rfl rfl rfl ?_
    refine sm_getI (k := 4) (pc' := 46) kX9 (by decide) mw381 dX9_addTable_43 rfl (fun x10 => ?_)
    refine sm_iconst (v := (1 : Int32)) (pc' := 47) dX9_addTable_46 rfl (by decide) ?_
    refine sm_isub (pc' := 48) dX9_addTable_47 rfl ?_
    exact sm_iret rfl dX9_addTable_48
  refine sm_bipush (v := (-4 : Int32)) (pc' := 21) dX9_addTable_19 rfl (by decide) ?_
  exact sm_iret rfl dX9_addTable_21
set_option maxRecDepth 100000 in
theorem mX9_addTable (l : Launch) (D : va_G) (aC : Nat → ClassId) (B : Nat) (a0 : Nat) (a1 : Option Nat) (h : sm_H) : sm_M l D vwCl gAts aC B gTs gNs gOs yX9_addTable cX9_addTable 2 (some .int) 0 0 vlI [vR (some a0), vR a1] h (fX9_addTable a0 a1 h) := sm_meth [vR (some a0), vR a1] yY_yX9_addTable gG gN (Nat.le_of_ble_eq_true rfl) rfl (sX9_addTable_0 l D aC B a0 a1 h)
-- M:TreeAgent$Value.isOfParts()Z
noncomputable def fX10_isOfParts  (a0 : Nat) (h : sm_H) : Option (Int32 × sm_H) :=
  (sm_I (sm_get h (some a0) 10 1)).bind fun x1 =>
  if x1 = (4 : Int32) then (
    some ((1 : Int32), h)
  ) else
  (sm_I (sm_get h (some a0) 10 1)).bind fun x2 =>
  if x2 = (6 : Int32) then (
    some ((1 : Int32), h)
  ) else
  some ((0 : Int32), h)
set_option maxRecDepth 100000 in
set_option maxHeartbeats 4000000 in
theorem sX10_isOfParts_0 (l : Launch) (D : va_G) (aC : Nat → ClassId) (B : Nat)   (a0 : Nat) (h : sm_H) : zS l D aC B cX10_isOfParts 1 RX10 0 0 (some .boolean) "isOfParts" vlI (fX10_isOfParts a0 h) 0 [(0, vR (some a0))] [] h := by
  unfold fX10_isOfParts
  refine sm_aload_n (i := 0) (j := 0) (pc' := 1) dX10_isOfParts_0 rfl rfl rfl ?_
  refine sm_getI (k := 1) (pc' := 4) kX10 (by decide) mw117 dX10_isOfParts_1 rfl (fun x1 => ?_)
  refine sm_iconst (v := (4 : Int32)) (pc' := 5) dX10_isOfParts_4 rfl (by decide) ?_
  refine sm_icmp_eq (tgt := 17) (pc' := 8) dX10_isOfParts_5 (by decide) rfl ?_ ?_
  · refine sm_iconst (v := (1 : Int32)) (pc' := 18) dX10_isOfParts_17 rfl (by decide) ?_
    refine sm_goto (pc' := 22) dX10_isOfParts_18 (by decide) ?_
    exact sm_zret1 rfl dX10_isOfParts_22
  refine sm_aload_n (i := 0) (j := 0) (pc' := 9) dX10_isOfParts_8 rfl rfl rfl ?_
  refine sm_getI (k := 1) (pc' := 12) kX10 (by decide) mw117 dX10_isOfParts_9 rfl (fun x2 => ?_)
  refine sm_bipush (v := (6 : Int32)) (pc' := 14) dX10_isOfParts_12 rfl (by decide) ?_
  refine sm_icmp_ne (tgt := 21) (pc' := 17) dX10_isOfParts_14 (by decide) rfl ?_ ?_
  · refine sm_iconst (v := (0 : Int32)) (pc' := 22) dX10_isOfParts_21 rfl (by decide) ?_
    exact sm_zret0 rfl dX10_isOfParts_22
  refine sm_iconst (v := (1 : Int32)) (pc' := 18) dX10_isOfParts_17 rfl (by decide) ?_
  refine sm_goto (pc' := 22) dX10_isOfParts_18 (by decide) ?_
  exact sm_zret1 rfl dX10_isOfParts_22
set_option maxRecDepth 100000 in
theorem mX10_isOfParts (l : Launch) (D : va_G) (aC : Nat → ClassId) (B : Nat) (a0 : Nat) (h : sm_H) : sm_M l D vwCl gAts aC B gTs gNs gOs yX10_isOfParts cX10_isOfParts 1 (some .boolean) 0 0 vlI [vR (some a0)] h (fX10_isOfParts a0 h) := sm_meth [vR (some a0)] yY_yX10_isOfParts gG gN (Nat.le_of_ble_eq_true rfl) rfl (sX10_isOfParts_0 l D aC B a0 h)
-- M:TreeAgent$Value.isMissing()Z
noncomputable def fX10_isMissing  (a0 : Nat) (h : sm_H) : Option (Int32 × sm_H) :=
  (sm_I (sm_get h (some a0) 10 1)).bind fun x1 =>
  if x1 = (128 : Int32) then (
    some ((1 : Int32), h)
  ) else
  (sm_I (sm_get h (some a0) 10 1)).bind fun x2 =>
  if x2 = (129 : Int32) then (
    some ((1 : Int32), h)
  ) else
  (sm_I (sm_get h (some a0) 10 1)).bind fun x3 =>
  if x3 = (130 : Int32) then (
    some ((1 : Int32), h)
  ) else
  some ((0 : Int32), h)
set_option maxRecDepth 100000 in
set_option maxHeartbeats 4000000 in
theorem sX10_isMissing_0 (l : Launch) (D : va_G) (aC : Nat → ClassId) (B : Nat)   (a0 : Nat) (h : sm_H) : zS l D aC B cX10_isMissing 1 RX10 0 0 (some .boolean) "isMissing" vlI (fX10_isMissing a0 h) 0 [(0, vR (some a0))] [] h := by
  unfold fX10_isMissing
  refine sm_aload_n (i := 0) (j := 0) (pc' := 1) dX10_isMissing_0 rfl rfl rfl ?_
  refine sm_getI (k := 1) (pc' := 4) kX10 (by decide) mw117 dX10_isMissing_1 rfl (fun x1 => ?_)
  refine sm_sipush (v := (128 : Int32)) (pc' := 7) dX10_isMissing_4 rfl (by decide) ?_
  refine sm_icmp_eq (tgt := 30) (pc' := 10) dX10_isMissing_7 (by decide) rfl ?_ ?_
  · refine sm_iconst (v := (1 : Int32)) (pc' := 31) dX10_isMissing_30 rfl (by decide) ?_
    refine sm_goto (pc' := 35) dX10_isMissing_31 (by decide) ?_
    exact sm_zret1 rfl dX10_isMissing_35
  refine sm_aload_n (i := 0) (j := 0) (pc' := 11) dX10_isMissing_10 rfl rfl rfl ?_
  refine sm_getI (k := 1) (pc' := 14) kX10 (by decide) mw117 dX10_isMissing_11 rfl (fun x2 => ?_)
  refine sm_sipush (v := (129 : Int32)) (pc' := 17) dX10_isMissing_14 rfl (by decide) ?_
  refine sm_icmp_eq (tgt := 30) (pc' := 20) dX10_isMissing_17 (by decide) rfl ?_ ?_
  · refine sm_iconst (v := (1 : Int32)) (pc' := 31) dX10_isMissing_30 rfl (by decide) ?_
    refine sm_goto (pc' := 35) dX10_isMissing_31 (by decide) ?_
    exact sm_zret1 rfl dX10_isMissing_35
  refine sm_aload_n (i := 0) (j := 0) (pc' := 21) dX10_isMissing_20 rfl rfl rfl ?_
  refine sm_getI (k := 1) (pc' := 24) kX10 (by decide) mw117 dX10_isMissing_21 rfl (fun x3 => ?_)
  refine sm_sipush (v := (130 : Int32)) (pc' := 27) dX10_isMissing_24 rfl (by decide) ?_
  refine sm_icmp_ne (tgt := 34) (pc' := 30) dX10_isMissing_27 (by decide) rfl ?_ ?_
  · refine sm_iconst (v := (0 : Int32)) (pc' := 35) dX10_isMissing_34 rfl (by decide) ?_
    exact sm_zret0 rfl dX10_isMissing_35
  refine sm_iconst (v := (1 : Int32)) (pc' := 31) dX10_isMissing_30 rfl (by decide) ?_
  refine sm_goto (pc' := 35) dX10_isMissing_31 (by decide) ?_
  exact sm_zret1 rfl dX10_isMissing_35
set_option maxRecDepth 100000 in
theorem mX10_isMissing (l : Launch) (D : va_G) (aC : Nat → ClassId) (B : Nat) (a0 : Nat) (h : sm_H) : sm_M l D vwCl gAts aC B gTs gNs gOs yX10_isMissing cX10_isMissing 1 (some .boolean) 0 0 vlI [vR (some a0)] h (fX10_isMissing a0 h) := sm_meth [vR (some a0)] yY_yX10_isMissing gG gN (Nat.le_of_ble_eq_true rfl) rfl (sX10_isMissing_0 l D aC B a0 h)
-- M:TreeAgent.<init>()V
noncomputable def fX11_init  (a0 : Nat) (h : sm_H) : Option (Unit × sm_H) :=
  sm_let (sm_new h 0 [.null, .int 0]) fun h1 =>
  sm_cb (fX0_init h.1 (1200 : Int32) h1) fun _ h2 =>
  (sm_put h2 (some a0) 11 0 (sm_v (vR (some h.1)))).bind fun h3 =>
  sm_let (sm_new h3 0 [.null, .int 0]) fun h4 =>
  sm_cb (fX0_init h3.1 (16 : Int32) h4) fun _ h5 =>
  (sm_put h5 (some a0) 11 1 (sm_v (vR (some h3.1)))).bind fun h6 =>
  sm_let (sm_new h6 9 [.null, .null, .null, .int 0, .int 0]) fun h7 =>
  sm_cb (fX9_init h6.1 h7) fun _ h8 =>
  (sm_put h8 (some a0) 11 2 (sm_v (vR (some h6.1)))).bind fun h9 =>
  if (8 : Int32) < 0 ∨ 1000000 < (8 : Int32) then none else
  sm_let (sm_nwa h9 6 (8 : Int32).toNatClampNeg (.inr (.inr (.inr (.inr (fun _ => none)))))) fun h10 =>
  (sm_put h10 (some a0) 11 3 (sm_v (vR (some h9.1)))).bind fun h11 =>
  sm_let (sm_new h11 3 [.null, .null, .null, .int 0, .int 0, .int 0, .int 0, .int 0, .int 0]) fun h12 =>
  sm_cb (fX3_init h11.1 h12) fun _ h13 =>
  (sm_put h13 (some a0) 11 4 (sm_v (vR (some h11.1)))).bind fun h14 =>
  sm_let (sm_new h14 5 [.null, .null, .int 0]) fun h15 =>
  (sm_R (sm_get h15 (some a0) 11 0)).bind fun x16 =>
  sm_cb (fX5_init h14.1 x16 h15) fun _ h17 =>
  (sm_put h17 (some a0) 11 5 (sm_v (vR (some h14.1)))).bind fun h18 =>
  sm_let (sm_new h18 1 [.null, .null]) fun h19 =>
  (sm_R (sm_get h19 (some a0) 11 2)).bind fun x20 =>
  (sm_R (sm_get h19 (some a0) 11 4)).bind fun x21 =>
  sm_cb (fX1_init h18.1 x20 x21 h19) fun _ h22 =>
  (sm_put h22 (some a0) 11 6 (sm_v (vR (some h18.1)))).bind fun h23 =>
  sm_let (sm_new h23 6 [.null, .null, .int 0, .int 0, .int 0, .int 0]) fun h24 =>
  sm_cb (fX6_init h23.1 h24) fun _ h25 =>
  (sm_put h25 (some a0) 11 7 (sm_v (vR (some h23.1)))).bind fun h26 =>
  if (8 : Int32) < 0 ∨ 1000000 < (8 : Int32) then none else
  sm_let (sm_nwa h26 0 (8 : Int32).toNatClampNeg (.inl (fun _ => 0))) fun h27 =>
  (sm_put h27 (some a0) 11 8 (sm_v (vR (some h26.1)))).bind fun h28 =>
  sm_let (sm_new h28 0 [.null, .int 0]) fun h29 =>
  sm_cb (fX0_init h28.1 (16 : Int32) h29) fun _ h30 =>
  (sm_put h30 (some a0) 11 9 (sm_v (vR (some h28.1)))).bind fun h31 =>
  sm_let (sm_new h31 10 [.null, .int 0, .long 0]) fun h32 =>
  sm_cb (fX10_init h31.1 (67 : Int32) (0 : Int32) h32) fun _ h33 =>
  (sm_put h33 (some a0) 11 10 (sm_v (vR (some h31.1)))).bind fun h34 =>
  sm_let (sm_new h34 10 [.null, .int 0, .long 0]) fun h35 =>
  sm_cb (fX10_init h34.1 (128 : Int32) (0 : Int32) h35) fun _ h36 =>
  (sm_put h36 (some a0) 11 11 (sm_v (vR (some h34.1)))).bind fun h37 =>
  sm_let (sm_new h37 10 [.null, .int 0, .long 0]) fun h38 =>
  sm_cb (fX10_init h37.1 (129 : Int32) (0 : Int32) h38) fun _ h39 =>
  (sm_put h39 (some a0) 11 12 (sm_v (vR (some h37.1)))).bind fun h40 =>
  sm_let (sm_new h40 10 [.null, .int 0, .long 0]) fun h41 =>
  sm_cb (fX10_init h40.1 (130 : Int32) (0 : Int32) h41) fun _ h42 =>
  (sm_put h42 (some a0) 11 13 (sm_v (vR (some h40.1)))).bind fun h43 =>
  (sm_put h43 (some a0) 11 15 (sm_v (vI (484 : Int32)))).bind fun h44 =>
  some ((), h44)
set_option maxRecDepth 100000 in
set_option maxHeartbeats 4000000 in
theorem sX11_init_0 (l : Launch) (D : va_G) (aC : Nat → ClassId) (B : Nat)   (a0 : Nat) (h : sm_H) : zS l D aC B cX11_init 1 RX11 4 86 none "<init>" vlU (fX11_init a0 h) 0 [(0, vR (some a0))] [] h := by
  unfold fX11_init
  refine sm_aload_n (i := 0) (j := 0) (pc' := 1) dX11_init_0 rfl rfl rfl ?_
  refine sm_objI (pc' := 4) mw390 mw1 mw2 dX11_init_1 rfl (by decide) (Nat.le_of_ble_eq_true rfl) ?_
  refine sm_aload_n (i := 0) (j := 0) (pc' := 5) dX11_init_4 rfl rfl rfl ?_
  refine sm_newL (fs := [.null, .int 0]) (pc' := 8) kX0 rfl (by decide +kernel) mw415 mw168 mw169 dX11_init_5 rfl (fun h1 => ?_)
  refine sm_dup (pc' := 9) rfl dX11_init_8 rfl ?_
  refine sm_sipush (v := (1200 : Int32)) (pc' := 12) dX11_init_9 rfl (by decide) ?_
  refine sm_cI (pc' := 15) (b := h.1) (st := [vR (some h.1), vR (some a0)]) [vI (1200 : Int32)] yY_yX0_init mw391 mw167 rfl (mX0_init l D aC B h.1 (1200 : Int32) h1) rfl (by decide) (by decide) (by exact Nat.le_of_ble_eq_true rfl) rfl dX11_init_12 rfl (fun _ h2 => ?_)
  refine sm_putFR (k := 0) (pc' := 18) kX11 (by decide) mw392 rfl rfl rfl (Or.inl ⟨_, rfl⟩) dX11_init_15 rfl (fun h3 => ?_)
  refine sm_aload_n (i := 0) (j := 0) (pc' := 19) dX11_init_18 rfl rfl rfl ?_
  refine sm_newL (fs := [.null, .int 0]) (pc' := 22) kX0 rfl (by decide +kernel) mw415 mw168 mw169 dX11_init_19 rfl (fun h4 => ?_)
  refine sm_dup (pc' := 23) rfl dX11_init_22 rfl ?_
  refine sm_bipush (v := (16 : Int32)) (pc' := 25) dX11_init_23 rfl (by decide) ?_
  refine sm_cI (pc' := 28) (b := h3.1) (st := [vR (some h3.1), vR (some a0)]) [vI (16 : Int32)] yY_yX0_init mw391 mw167 rfl (mX0_init l D aC B h3.1 (16 : Int32) h4) rfl (by decide) (by decide) (by exact Nat.le_of_ble_eq_true rfl) rfl dX11_init_25 rfl (fun _ h5 => ?_)
  refine sm_putFR (k := 1) (pc' := 31) kX11 (by decide) mw393 rfl rfl rfl (Or.inl ⟨_, rfl⟩) dX11_init_28 rfl (fun h6 => ?_)
  refine sm_aload_n (i := 0) (j := 0) (pc' := 32) dX11_init_31 rfl rfl rfl ?_
  refine sm_newL (fs := [.null, .null, .null, .int 0, .int 0]) (pc' := 35) kX9 rfl (by decide +kernel) mw433 mw434 mw435 dX11_init_32 rfl (fun h7 => ?_)
  refine sm_dup (pc' := 36) rfl dX11_init_35 rfl ?_
  refine sm_cIN (pc' := 39) (b := h6.1) (st := [vR (some h6.1), vR (some a0)]) [] yY_yX9_init mw394 mw432 rfl (mX9_init l D aC B h6.1 h7) rfl (by decide) (by decide) (by exact Nat.le_of_ble_eq_true rfl) rfl dX11_init_36 rfl (fun _ h8 => ?_)
  refine sm_putFR (k := 2) (pc' := 42) kX11 (by decide) mw395 rfl rfl rfl (Or.inl ⟨_, rfl⟩) dX11_init_39 rfl (fun h9 => ?_)
  refine sm_aload_n (i := 0) (j := 0) (pc' := 43) dX11_init_42 rfl rfl rfl ?_
  refine sm_bipush (v := (8 : Int32)) (pc' := 45) dX11_init_43 rfl (by decide) ?_
  refine sm_anewL (C0 := "TreeAgent$Community") (t := 6) (pc' := 48) rfl mw396 (by decide) dX11_init_45 rfl (fun h10 => ?_)
  refine sm_putFR (k := 3) (pc' := 51) kX11 (by decide) mw397 rfl rfl rfl (Or.inr ⟨_, rfl⟩) dX11_init_48 rfl (fun h11 => ?_)
  refine sm_aload_n (i := 0) (j := 0) (pc' := 52) dX11_init_51 rfl rfl rfl ?_
  refine sm_newL (fs := [.null, .null, .null, .int 0, .int 0, .int 0, .int 0, .int 0, .int 0]) (pc' := 55) kX3 rfl (by decide +kernel) mw429 mw430 mw431 dX11_init_52 rfl (fun h12 => ?_)
  refine sm_dup (pc' := 56) rfl dX11_init_55 rfl ?_
  refine sm_cI (pc' := 59) (b := h11.1) (st := [vR (some h11.1), vR (some a0)]) [] yY_yX3_init mw398 mw428 rfl (mX3_init l D aC B h11.1 h12) rfl (by decide) (by decide) (by exact Nat.le_of_ble_eq_true rfl) rfl dX11_init_56 rfl (fun _ h13 => ?_)
  refine sm_putFR (k := 4) (pc' := 62) kX11 (by decide) mw399 rfl rfl rfl (Or.inl ⟨_, rfl⟩) dX11_init_59 rfl (fun h14 => ?_)
  refine sm_aload_n (i := 0) (j := 0) (pc' := 63) dX11_init_62 rfl rfl rfl ?_
  refine sm_newL (fs := [.null, .null, .int 0]) (pc' := 66) kX5 rfl (by decide +kernel) mw425 mw426 mw427 dX11_init_63 rfl (fun h15 => ?_)
  refine sm_dup (pc' := 67) rfl dX11_init_66 rfl ?_
  refine sm_aload_n (i := 0) (j := 0) (pc' := 68) dX11_init_67 rfl rfl rfl ?_
  refine sm_getR (k := 0) (pc' := 71) kX11 (by decide) mw392 dX11_init_68 rfl (fun x16 => ?_)
  refine sm_cI (pc' := 74) (b := h14.1) (st := [vR (some h14.1), vR (some a0)]) [vR x16] yY_yX5_init mw400 mw424 rfl (mX5_init l D aC B h14.1 x16 h15) rfl (by decide) (by decide) (by exact Nat.le_of_ble_eq_true rfl) rfl dX11_init_71 rfl (fun _ h17 => ?_)
  refine sm_putFR (k := 5) (pc' := 77) kX11 (by decide) mw401 rfl rfl rfl (Or.inl ⟨_, rfl⟩) dX11_init_74 rfl (fun h18 => ?_)
  refine sm_aload_n (i := 0) (j := 0) (pc' := 78) dX11_init_77 rfl rfl rfl ?_
  refine sm_newL (fs := [.null, .null]) (pc' := 81) kX1 rfl (by decide +kernel) mw421 mw422 mw423 dX11_init_78 rfl (fun h19 => ?_)
  refine sm_dup (pc' := 82) rfl dX11_init_81 rfl ?_
  refine sm_aload_n (i := 0) (j := 0) (pc' := 83) dX11_init_82 rfl rfl rfl ?_
  refine sm_getR (k := 2) (pc' := 86) kX11 (by decide) mw395 dX11_init_83 rfl (fun x20 => ?_)
  refine sm_aload_n (i := 0) (j := 0) (pc' := 87) dX11_init_86 rfl rfl rfl ?_
  refine sm_getR (k := 4) (pc' := 90) kX11 (by decide) mw399 dX11_init_87 rfl (fun x21 => ?_)
  refine sm_cI (pc' := 93) (b := h18.1) (st := [vR (some h18.1), vR (some a0)]) [vR x20, vR x21] yY_yX1_init mw402 mw420 rfl (mX1_init l D aC B h18.1 x20 x21 h19) rfl (by decide) (by decide) (by exact Nat.le_of_ble_eq_true rfl) rfl dX11_init_90 rfl (fun _ h22 => ?_)
  refine sm_putFR (k := 6) (pc' := 96) kX11 (by decide) mw403 rfl rfl rfl (Or.inl ⟨_, rfl⟩) dX11_init_93 rfl (fun h23 => ?_)
  refine sm_aload_n (i := 0) (j := 0) (pc' := 97) dX11_init_96 rfl rfl rfl ?_
  refine sm_newL (fs := [.null, .null, .int 0, .int 0, .int 0, .int 0]) (pc' := 100) kX6 rfl (by decide +kernel) mw417 mw418 mw419 dX11_init_97 rfl (fun h24 => ?_)
  refine sm_dup (pc' := 101) rfl dX11_init_100 rfl ?_
  refine sm_cI (pc' := 104) (b := h23.1) (st := [vR (some h23.1), vR (some a0)]) [] yY_yX6_init mw404 mw416 rfl (mX6_init l D aC B h23.1 h24) rfl (by decide) (by decide) (by exact Nat.le_of_ble_eq_true rfl) rfl dX11_init_101 rfl (fun _ h25 => ?_)
  refine sm_putFR (k := 7) (pc' := 107) kX11 (by decide) mw405 rfl rfl rfl (Or.inl ⟨_, rfl⟩) dX11_init_104 rfl (fun h26 => ?_)
  refine sm_aload_n (i := 0) (j := 0) (pc' := 108) dX11_init_107 rfl rfl rfl ?_
  refine sm_bipush (v := (8 : Int32)) (pc' := 110) dX11_init_108 rfl (by decide) ?_
  refine sm_newaL (ty := .int) (t := 0) (a0 := (.inl (fun _ => 0))) (pc' := 112) rfl rfl (fun _ _ h9 => h9) (fun _ _ => rfl) (by decide) mw351 dX11_init_110 rfl (fun h27 => ?_)
  refine sm_putFR (k := 8) (pc' := 115) kX11 (by decide) mw406 rfl rfl rfl (Or.inr ⟨_, rfl⟩) dX11_init_112 rfl (fun h28 => ?_)
  refine sm_aload_n (i := 0) (j := 0) (pc' := 116) dX11_init_115 rfl rfl rfl ?_
  refine sm_newL (fs := [.null, .int 0]) (pc' := 119) kX0 rfl (by decide +kernel) mw415 mw168 mw169 dX11_init_116 rfl (fun h29 => ?_)
  refine sm_dup (pc' := 120) rfl dX11_init_119 rfl ?_
  refine sm_bipush (v := (16 : Int32)) (pc' := 122) dX11_init_120 rfl (by decide) ?_
  refine sm_cI (pc' := 125) (b := h28.1) (st := [vR (some h28.1), vR (some a0)]) [vI (16 : Int32)] yY_yX0_init mw391 mw167 rfl (mX0_init l D aC B h28.1 (16 : Int32) h29) rfl (by decide) (by decide) (by exact Nat.le_of_ble_eq_true rfl) rfl dX11_init_122 rfl (fun _ h30 => ?_)
  refine sm_putFR (k := 9) (pc' := 128) kX11 (by decide) mw407 rfl rfl rfl (Or.inl ⟨_, rfl⟩) dX11_init_125 rfl (fun h31 => ?_)
  refine sm_aload_n (i := 0) (j := 0) (pc' := 129) dX11_init_128 rfl rfl rfl ?_
  refine sm_newL (fs := [.null, .int 0, .long 0]) (pc' := 132) kX10 rfl (by decide +kernel) mw414 mw183 mw184 dX11_init_129 rfl (fun h32 => ?_)
  refine sm_dup (pc' := 133) rfl dX11_init_132 rfl ?_
  refine sm_bipush (v := (67 : Int32)) (pc' := 135) dX11_init_133 rfl (by decide) ?_
  refine sm_iconst (v := (0 : Int32)) (pc' := 136) dX11_init_135 rfl (by decide) ?_
  refine sm_cI (pc' := 139) (b := h31.1) (st := [vR (some h31.1), vR (some a0)]) [vI (67 : Int32), vI (0 : Int32)] yY_yX10_init mw408 mw181 rfl (mX10_init l D aC B h31.1 (67 : Int32) (0 : Int32) h32) rfl (by decide) (by decide) (by exact Nat.le_of_ble_eq_true rfl) rfl dX11_init_136 rfl (fun _ h33 => ?_)
  refine sm_putFR (k := 10) (pc' := 142) kX11 (by decide) mw409 rfl rfl rfl (Or.inl ⟨_, rfl⟩) dX11_init_139 rfl (fun h34 => ?_)
  refine sm_aload_n (i := 0) (j := 0) (pc' := 143) dX11_init_142 rfl rfl rfl ?_
  refine sm_newL (fs := [.null, .int 0, .long 0]) (pc' := 146) kX10 rfl (by decide +kernel) mw414 mw183 mw184 dX11_init_143 rfl (fun h35 => ?_)
  refine sm_dup (pc' := 147) rfl dX11_init_146 rfl ?_
  refine sm_sipush (v := (128 : Int32)) (pc' := 150) dX11_init_147 rfl (by decide) ?_
  refine sm_iconst (v := (0 : Int32)) (pc' := 151) dX11_init_150 rfl (by decide) ?_
  refine sm_cI (pc' := 154) (b := h34.1) (st := [vR (some h34.1), vR (some a0)]) [vI (128 : Int32), vI (0 : Int32)] yY_yX10_init mw408 mw181 rfl (mX10_init l D aC B h34.1 (128 : Int32) (0 : Int32) h35) rfl (by decide) (by decide) (by exact Nat.le_of_ble_eq_true rfl) rfl dX11_init_151 rfl (fun _ h36 => ?_)
  refine sm_putFR (k := 11) (pc' := 157) kX11 (by decide) mw410 rfl rfl rfl (Or.inl ⟨_, rfl⟩) dX11_init_154 rfl (fun h37 => ?_)
  refine sm_aload_n (i := 0) (j := 0) (pc' := 158) dX11_init_157 rfl rfl rfl ?_
  refine sm_newL (fs := [.null, .int 0, .long 0]) (pc' := 161) kX10 rfl (by decide +kernel) mw414 mw183 mw184 dX11_init_158 rfl (fun h38 => ?_)
  refine sm_dup (pc' := 162) rfl dX11_init_161 rfl ?_
  refine sm_sipush (v := (129 : Int32)) (pc' := 165) dX11_init_162 rfl (by decide) ?_
  refine sm_iconst (v := (0 : Int32)) (pc' := 166) dX11_init_165 rfl (by decide) ?_
  refine sm_cI (pc' := 169) (b := h37.1) (st := [vR (some h37.1), vR (some a0)]) [vI (129 : Int32), vI (0 : Int32)] yY_yX10_init mw408 mw181 rfl (mX10_init l D aC B h37.1 (129 : Int32) (0 : Int32) h38) rfl (by decide) (by decide) (by exact Nat.le_of_ble_eq_true rfl) rfl dX11_init_166 rfl (fun _ h39 => ?_)
  refine sm_putFR (k := 12) (pc' := 172) kX11 (by decide) mw411 rfl rfl rfl (Or.inl ⟨_, rfl⟩) dX11_init_169 rfl (fun h40 => ?_)
  refine sm_aload_n (i := 0) (j := 0) (pc' := 173) dX11_init_172 rfl rfl rfl ?_
  refine sm_newL (fs := [.null, .int 0, .long 0]) (pc' := 176) kX10 rfl (by decide +kernel) mw414 mw183 mw184 dX11_init_173 rfl (fun h41 => ?_)
  refine sm_dup (pc' := 177) rfl dX11_init_176 rfl ?_
  refine sm_sipush (v := (130 : Int32)) (pc' := 180) dX11_init_177 rfl (by decide) ?_
  refine sm_iconst (v := (0 : Int32)) (pc' := 181) dX11_init_180 rfl (by decide) ?_
  refine sm_cI (pc' := 184) (b := h40.1) (st := [vR (some h40.1), vR (some a0)]) [vI (130 : Int32), vI (0 : Int32)] yY_yX10_init mw408 mw181 rfl (mX10_init l D aC B h40.1 (130 : Int32) (0 : Int32) h41) rfl (by decide) (by decide) (by exact Nat.le_of_ble_eq_true rfl) rfl dX11_init_181 rfl (fun _ h42 => ?_)
  refine sm_putFR (k := 13) (pc' := 187) kX11 (by decide) mw412 rfl rfl rfl (Or.inl ⟨_, rfl⟩) dX11_init_184 rfl (fun h43 => ?_)
  refine sm_aload_n (i := 0) (j := 0) (pc' := 188) dX11_init_187 rfl rfl rfl ?_
  refine sm_sipush (v := (484 : Int32)) (pc' := 191) dX11_init_188 rfl (by decide) ?_
  refine sm_putI (k := 15) (pc' := 194) kX11 (by decide) mw413 rfl rfl dX11_init_191 rfl (fun h44 => ?_)
  exact sm_vret rfl dX11_init_194
set_option maxRecDepth 100000 in
theorem mX11_init (l : Launch) (D : va_G) (aC : Nat → ClassId) (B : Nat) (a0 : Nat) (h : sm_H) : sm_M l D vwCl gAts aC B gTs gNs gOs yX11_init cX11_init 1 none 4 86 vlU [vR (some a0)] h (fX11_init a0 h) := sm_meth [vR (some a0)] yY_yX11_init gG gN (Nat.le_of_ble_eq_true rfl) rfl (sX11_init_0 l D aC B a0 h)
-- M:TreeAgent.feed(JI)I
noncomputable def fX11_feed_49  : Nat → Nat → Int64 → Int32 → sm_H → Option (Int32 × sm_H)
  | 0 => fun _ _ _ _ => none
  | n + 1 => fun a0 a1 a4 h =>
    if a4 < 0 then (
      (sm_R (sm_get h (some a0) 11 0)).bind fun x1 =>
      (sm_obj h x1 0).bind fun b4 =>
      sm_cb (fX0_size b4 h) fun x2 h3 =>
      some (x2, h3)
    ) else
    (sm_R (sm_get h (some a0) 11 0)).bind fun x5 =>
    (sm_obj h x5 0).bind fun b9 =>
    sm_cb (fX0_add b9 (((a1.toUInt64 >>> (((8 : Int32) * a4).toInt64.toUInt64 &&& Int64.toUInt64 63)).toInt64) &&& (255 : Int64)) h) fun x6 h7 =>
    sm_let (a4 + (-1 : Int32)) fun x8 =>
    (fX11_feed_49 n) a0 a1 x8 h7
set_option maxRecDepth 100000 in
set_option maxHeartbeats 4000000 in
theorem sX11_feed_49 (l : Launch) (D : va_G) (aC : Nat → ClassId) (B : Nat)   (n : Nat) : ∀ (a0 : Nat) (a1 : Int64) (a4 : Int32) (h : sm_H), zS l D aC B cX11_feed 5 RX11 1 22 (some .int) "feed" vlI (fX11_feed_49 n a0 a1 a4 h) 49 [(0, vR (some a0)), (1, vJ a1), (4, vI a4)] [] h := by
  induction n with
  | zero => intro a0 a1 a4 h; exact sm_none
  | succ n ih =>
    intro a0 a1 a4 h
    show zS l D aC B cX11_feed 5 RX11 1 22 (some .int) "feed" vlI (fX11_feed_49 (n + 1) a0 a1 a4 h) 49 [(0, vR (some a0)), (1, vJ a1), (4, vI a4)] [] h
    unfold fX11_feed_49
    refine sm_iload (i := 4) (j := 2) (pc' := 51) dX11_feed_49 rfl rfl ?_
    refine sm_if_lt (tgt := 79) (pc' := 54) dX11_feed_51 (by decide) rfl ?_ ?_
    · refine sm_aload_n (i := 0) (j := 0) (pc' := 80) dX11_feed_79 rfl rfl rfl ?_
      refine sm_getR (k := 0) (pc' := 83) kX11 (by decide) mw392 dX11_feed_80 rfl (fun x1 => ?_)
      refine sm_cVI (pc' := 86) (ci := 0) (st := []) (F := fun b => fX0_size b h) [] yY_yX0_size rfl mw436 mw32 mw33 (fun b => mX0_size l D aC B b h) rfl (by decide) (by decide) (by exact Nat.le_of_ble_eq_true rfl) rfl dX11_feed_83 rfl (fun x2 h3 => ?_)
      exact sm_iret rfl dX11_feed_86
    refine sm_aload_n (i := 0) (j := 0) (pc' := 55) dX11_feed_54 rfl rfl rfl ?_
    refine sm_getR (k := 0) (pc' := 58) kX11 (by decide) mw392 dX11_feed_55 rfl (fun x5 => ?_)
    refine sm_lload_n (i := 1) (j := 1) (pc' := 59) dX11_feed_58 rfl rfl rfl ?_
    refine sm_bipush (v := (8 : Int32)) (pc' := 61) dX11_feed_59 rfl (by decide) ?_
    refine sm_iload (i := 4) (j := 2) (pc' := 63) dX11_feed_61 rfl rfl ?_
    refine sm_imul (pc' := 64) dX11_feed_63 rfl ?_
    refine sm_lushr (pc' := 65) dX11_feed_64 rfl ?_
    refine sm_ldc2 (v := (255 : Int64)) (pc' := 68) dX11_feed_65 rfl mw437 ?_
    refine sm_land (pc' := 69) dX11_feed_68 rfl ?_
    refine sm_cVI (pc' := 72) (ci := 0) (st := []) (F := fun b => fX0_add b (((a1.toUInt64 >>> (((8 : Int32) * a4).toInt64.toUInt64 &&& Int64.toUInt64 63)).toInt64) &&& (255 : Int64)) h) [vJ (((a1.toUInt64 >>> (((8 : Int32) * a4).toInt64.toUInt64 &&& Int64.toUInt64 63)).toInt64) &&& (255 : Int64))] yY_yX0_add rfl mw438 mw13 mw14 (fun b => mX0_add l D aC B b (((a1.toUInt64 >>> (((8 : Int32) * a4).toInt64.toUInt64 &&& Int64.toUInt64 63)).toInt64) &&& (255 : Int64)) h) rfl (by decide) (by decide) (by exact Nat.le_of_ble_eq_true rfl) rfl dX11_feed_69 rfl (fun x6 h7 => ?_)
    refine sm_pop (pc' := 73) rfl dX11_feed_72 rfl ?_
    refine sm_iincL (i := 4) (j := 2) (x := a4) (d := (-1 : Int32)) (fun x8 => [(4, vI x8), (0, vR (some a0)), (1, vJ a1)]) (pc' := 76) dX11_feed_73 rfl rfl (by decide) (by decide) (fun _ => rfl) (fun x8 => ?_)
    refine sm_goto (pc' := 49) dX11_feed_76 (by decide) ?_
    refine sm_lo (lv' := [(0, vR (some a0)), (1, vJ a1), (4, vI x8)]) [1, 2, 0] rfl ?_
    exact ih a0 a1 x8 h7
noncomputable def fX11_feed  (a0 : Nat) (a1 : Int64) (a3 : Int32) (h : sm_H) : Option (Int32 × sm_H) :=
  if a3 < 0 then (
    some ((-2 : Int32), h)
  ) else
  if a3 ≤ (8 : Int32) then (
    if a3 = 0 then (
      (sm_R (sm_get h (some a0) 11 0)).bind fun x6 =>
      (sm_obj h x6 0).bind fun b8 =>
      sm_cb (fX0_clear b8 h) fun _ h7 =>
      some ((0 : Int32), h7)
    ) else
    (sm_R (sm_get h (some a0) 11 0)).bind fun x1 =>
    (sm_obj h x1 0).bind fun b5 =>
    sm_cb (fX0_size b5 h) fun x2 h3 =>
    if (x2 + a3) ≤ (1200 : Int32) then (
      sm_let (a3 - (1 : Int32)) fun x4 =>
      fX11_feed_49 sm_fuel a0 a1 x4 h3
    ) else
    some ((-4 : Int32), h3)
  ) else
  some ((-2 : Int32), h)
set_option maxRecDepth 100000 in
set_option maxHeartbeats 4000000 in
theorem sX11_feed_0 (l : Launch) (D : va_G) (aC : Nat → ClassId) (B : Nat)   (a0 : Nat) (a1 : Int64) (a3 : Int32) (h : sm_H) : zS l D aC B cX11_feed 5 RX11 1 22 (some .int) "feed" vlI (fX11_feed a0 a1 a3 h) 0 [(0, vR (some a0)), (1, vJ a1), (3, vI a3)] [] h := by
  unfold fX11_feed
  refine sm_iload_n (i := 3) (j := 2) (pc' := 1) dX11_feed_0 rfl rfl rfl ?_
  refine sm_if_lt (tgt := 10) (pc' := 4) dX11_feed_1 (by decide) rfl ?_ ?_
  · refine sm_bipush (v := (-2 : Int32)) (pc' := 12) dX11_feed_10 rfl (by decide) ?_
    exact sm_iret rfl dX11_feed_12
  refine sm_iload_n (i := 3) (j := 2) (pc' := 5) dX11_feed_4 rfl rfl rfl ?_
  refine sm_bipush (v := (8 : Int32)) (pc' := 7) dX11_feed_5 rfl (by decide) ?_
  refine sm_icmp_le (tgt := 13) (pc' := 10) dX11_feed_7 (by decide) rfl ?_ ?_
  · refine sm_iload_n (i := 3) (j := 2) (pc' := 14) dX11_feed_13 rfl rfl rfl ?_
    refine sm_if_ne (tgt := 26) (pc' := 17) dX11_feed_14 (by decide) rfl ?_ ?_
    · refine sm_aload_n (i := 0) (j := 0) (pc' := 27) dX11_feed_26 rfl rfl rfl ?_
      refine sm_getR (k := 0) (pc' := 30) kX11 (by decide) mw392 dX11_feed_27 rfl (fun x1 => ?_)
      refine sm_cVI (pc' := 33) (ci := 0) (st := []) (F := fun b => fX0_size b h) [] yY_yX0_size rfl mw436 mw32 mw33 (fun b => mX0_size l D aC B b h) rfl (by decide) (by decide) (by exact Nat.le_of_ble_eq_true rfl) rfl dX11_feed_30 rfl (fun x2 h3 => ?_)
      refine sm_iload_n (i := 3) (j := 2) (pc' := 34) dX11_feed_33 rfl rfl rfl ?_
      refine sm_iadd (pc' := 35) dX11_feed_34 rfl ?_
      refine sm_sipush (v := (1200 : Int32)) (pc' := 38) dX11_feed_35 rfl (by decide) ?_
      refine sm_icmp_le (tgt := 44) (pc' := 41) dX11_feed_38 (by decide) rfl ?_ ?_
      · refine sm_iload_n (i := 3) (j := 2) (pc' := 45) dX11_feed_44 rfl rfl rfl ?_
        refine sm_iconst (v := (1 : Int32)) (pc' := 46) dX11_feed_45 rfl (by decide) ?_
        refine sm_isub (pc' := 47) dX11_feed_46 rfl ?_
        refine sm_letIv (fun x4 => ?_)
        refine sm_istore (i := 4) (lv' := [(4, vI x4), (0, vR (some a0)), (1, vJ a1), (3, vI a3)]) (pc' := 49) dX11_feed_47 rfl (by decide) rfl ?_
        refine sm_lo (lv' := [(0, vR (some a0)), (1, vJ a1), (4, vI x4)]) [1, 2, 0] rfl ?_
        exact sX11_feed_49 l D aC B   sm_fuel a0 a1 x4 h3
      refine sm_bipush (v := (-4 : Int32)) (pc' := 43) dX11_feed_41 rfl (by decide) ?_
      exact sm_iret rfl dX11_feed_43
    refine sm_aload_n (i := 0) (j := 0) (pc' := 18) dX11_feed_17 rfl rfl rfl ?_
    refine sm_getR (k := 0) (pc' := 21) kX11 (by decide) mw392 dX11_feed_18 rfl (fun x6 => ?_)
    refine sm_cVU (pc' := 24) (ci := 0) (st := []) (F := fun b => fX0_clear b h) [] yY_yX0_clear rfl mw439 mw121 mw122 (fun b => mX0_clear l D aC B b h) rfl (by decide) (by decide) (by exact Nat.le_of_ble_eq_true rfl) rfl dX11_feed_21 rfl (fun _ h7 => ?_)
    refine sm_iconst (v := (0 : Int32)) (pc' := 25) dX11_feed_24 rfl (by decide) ?_
    exact sm_iret rfl dX11_feed_25
  refine sm_bipush (v := (-2 : Int32)) (pc' := 12) dX11_feed_10 rfl (by decide) ?_
  exact sm_iret rfl dX11_feed_12
set_option maxRecDepth 100000 in
theorem mX11_feed (l : Launch) (D : va_G) (aC : Nat → ClassId) (B : Nat) (a0 : Nat) (a1 : Int64) (a3 : Int32) (h : sm_H) : sm_M l D vwCl gAts aC B gTs gNs gOs yX11_feed cX11_feed 5 (some .int) 1 22 vlI [vR (some a0), vJ a1, vI a3] h (fX11_feed a0 a1 a3 h) := sm_meth [vR (some a0), vJ a1, vI a3] yY_yX11_feed gG gN (Nat.le_of_ble_eq_true rfl) rfl (sX11_feed_0 l D aC B a0 a1 a3 h)
-- M:TreeAgent.mostNumberAt(I)J
noncomputable def fX11_mostNumberAt  (a0 : Int32) (h : sm_H) : Option (Int64 × sm_H) :=
  if a0 = 0 then (
    some ((2 : Int64), h)
  ) else
  if a0 = (1 : Int32) then (
    some ((39 : Int64), h)
  ) else
  some ((4294967295 : Int64), h)
set_option maxRecDepth 100000 in
set_option maxHeartbeats 4000000 in
theorem sX11_mostNumberAt_0 (l : Launch) (D : va_G) (aC : Nat → ClassId) (B : Nat)   (a0 : Int32) (h : sm_H) : zS l D aC B cX11_mostNumberAt 1 RX11 0 0 (some .long) "mostNumberAt" vlJ (fX11_mostNumberAt a0 h) 0 [(0, vI a0)] [] h := by
  unfold fX11_mostNumberAt
  refine sm_iload_n (i := 0) (j := 0) (pc' := 1) dX11_mostNumberAt_0 rfl rfl rfl ?_
  refine sm_if_ne (tgt := 8) (pc' := 4) dX11_mostNumberAt_1 (by decide) rfl ?_ ?_
  · refine sm_iload_n (i := 0) (j := 0) (pc' := 9) dX11_mostNumberAt_8 rfl rfl rfl ?_
    refine sm_iconst (v := (1 : Int32)) (pc' := 10) dX11_mostNumberAt_9 rfl (by decide) ?_
    refine sm_icmp_ne (tgt := 19) (pc' := 13) dX11_mostNumberAt_10 (by decide) rfl ?_ ?_
    · refine sm_ldc2 (v := (4294967295 : Int64)) (pc' := 22) dX11_mostNumberAt_19 rfl mw212 ?_
      exact sm_lret rfl dX11_mostNumberAt_22
    refine sm_ldc2 (v := (39 : Int64)) (pc' := 16) dX11_mostNumberAt_13 rfl mw440 ?_
    refine sm_goto (pc' := 22) dX11_mostNumberAt_16 (by decide) ?_
    exact sm_lret rfl dX11_mostNumberAt_22
  refine sm_ldc2 (v := (2 : Int64)) (pc' := 7) dX11_mostNumberAt_4 rfl mw441 ?_
  exact sm_lret rfl dX11_mostNumberAt_7
set_option maxRecDepth 100000 in
theorem mX11_mostNumberAt (l : Launch) (D : va_G) (aC : Nat → ClassId) (B : Nat) (a0 : Int32) (h : sm_H) : sm_M l D vwCl gAts aC B gTs gNs gOs yX11_mostNumberAt cX11_mostNumberAt 1 (some .long) 0 0 vlJ [vI a0] h (fX11_mostNumberAt a0 h) := sm_meth [vI a0] yY_yX11_mostNumberAt gG gN (Nat.le_of_ble_eq_true rfl) rfl (sX11_mostNumberAt_0 l D aC B a0 h)
-- M:TreeAgent.number(J)I
noncomputable def fX11_number  (a0 : Nat) (a1 : Int64) (h : sm_H) : Option (Int32 × sm_H) :=
  if (lg_cmp a1 (-1 : Int64)) = 0 then (
    (sm_R (sm_get h (some a0) 11 1)).bind fun x15 =>
    (sm_obj h x15 0).bind fun b17 =>
    sm_cb (fX0_clear b17 h) fun _ h16 =>
    some ((0 : Int32), h16)
  ) else
  if (lg_cmp a1 (0 : Int64)) < 0 then (
    some ((-2 : Int32), h)
  ) else
  (sm_R (sm_get h (some a0) 11 1)).bind fun x1 =>
  (sm_obj h x1 0).bind fun b14 =>
  sm_cb (fX0_size b14 h) fun x2 h3 =>
  sm_cb (fX11_mostNumberAt x2 h3) fun x4 h5 =>
  if (lg_cmp a1 x4) ≤ 0 then (
    (sm_R (sm_get h5 (some a0) 11 1)).bind fun x6 =>
    (sm_obj h5 x6 0).bind fun b13 =>
    sm_cb (fX0_add b13 a1 h5) fun x7 h8 =>
    if x7 = 0 then (
      some ((-4 : Int32), h8)
    ) else
    (sm_R (sm_get h8 (some a0) 11 1)).bind fun x9 =>
    (sm_obj h8 x9 0).bind fun b12 =>
    sm_cb (fX0_size b12 h8) fun x10 h11 =>
    some (x10, h11)
  ) else
  some ((-2 : Int32), h5)
set_option maxRecDepth 100000 in
set_option maxHeartbeats 4000000 in
theorem sX11_number_0 (l : Launch) (D : va_G) (aC : Nat → ClassId) (B : Nat)   (a0 : Nat) (a1 : Int64) (h : sm_H) : zS l D aC B cX11_number 3 RX11 1 22 (some .int) "number" vlI (fX11_number a0 a1 h) 0 [(0, vR (some a0)), (1, vJ a1)] [] h := by
  unfold fX11_number
  refine sm_lload_n (i := 1) (j := 1) (pc' := 1) dX11_number_0 rfl rfl rfl ?_
  refine sm_ldc2 (v := (-1 : Int64)) (pc' := 4) dX11_number_1 rfl mw442 ?_
  refine sm_lcmp (pc' := 5) dX11_number_4 rfl ?_
  refine sm_if_ne (tgt := 17) (pc' := 8) dX11_number_5 (by decide) rfl ?_ ?_
  · refine sm_lload_n (i := 1) (j := 1) (pc' := 18) dX11_number_17 rfl rfl rfl ?_
    refine sm_lconst (v := (0 : Int64)) (pc' := 19) dX11_number_18 rfl (by decide) ?_
    refine sm_lcmp (pc' := 20) dX11_number_19 rfl ?_
    refine sm_if_lt (tgt := 38) (pc' := 23) dX11_number_20 (by decide) rfl ?_ ?_
    · refine sm_bipush (v := (-2 : Int32)) (pc' := 40) dX11_number_38 rfl (by decide) ?_
      exact sm_iret rfl dX11_number_40
    refine sm_lload_n (i := 1) (j := 1) (pc' := 24) dX11_number_23 rfl rfl rfl ?_
    refine sm_aload_n (i := 0) (j := 0) (pc' := 25) dX11_number_24 rfl rfl rfl ?_
    refine sm_getR (k := 1) (pc' := 28) kX11 (by decide) mw393 dX11_number_25 rfl (fun x1 => ?_)
    refine sm_cVI (pc' := 31) (ci := 0) (st := [vJ a1]) (F := fun b => fX0_size b h) [] yY_yX0_size rfl mw436 mw32 mw33 (fun b => mX0_size l D aC B b h) rfl (by decide) (by decide) (by exact Nat.le_of_ble_eq_true rfl) rfl dX11_number_28 rfl (fun x2 h3 => ?_)
    refine sm_cSJ (pc' := 34) (st := [vJ a1]) [vI x2] yY_yX11_mostNumberAt mw443 mw444 (mX11_mostNumberAt l D aC B x2 h3) rfl (by decide) (by decide) (by exact Nat.le_of_ble_eq_true rfl) rfl dX11_number_31 rfl (fun x4 h5 => ?_)
    refine sm_lcmp (pc' := 35) dX11_number_34 rfl ?_
    refine sm_if_le (tgt := 41) (pc' := 38) dX11_number_35 (by decide) rfl ?_ ?_
    · refine sm_aload_n (i := 0) (j := 0) (pc' := 42) dX11_number_41 rfl rfl rfl ?_
      refine sm_getR (k := 1) (pc' := 45) kX11 (by decide) mw393 dX11_number_42 rfl (fun x6 => ?_)
      refine sm_lload_n (i := 1) (j := 1) (pc' := 46) dX11_number_45 rfl rfl rfl ?_
      refine sm_cVI (pc' := 49) (ci := 0) (st := []) (F := fun b => fX0_add b a1 h5) [vJ a1] yY_yX0_add rfl mw438 mw13 mw14 (fun b => mX0_add l D aC B b a1 h5) rfl (by decide) (by decide) (by exact Nat.le_of_ble_eq_true rfl) rfl dX11_number_46 rfl (fun x7 h8 => ?_)
      refine sm_if_eq (tgt := 62) (pc' := 52) dX11_number_49 (by decide) rfl ?_ ?_
      · refine sm_bipush (v := (-4 : Int32)) (pc' := 64) dX11_number_62 rfl (by decide) ?_
        exact sm_iret rfl dX11_number_64
      refine sm_aload_n (i := 0) (j := 0) (pc' := 53) dX11_number_52 rfl rfl rfl ?_
      refine sm_getR (k := 1) (pc' := 56) kX11 (by decide) mw393 dX11_number_53 rfl (fun x9 => ?_)
      refine sm_cVI (pc' := 59) (ci := 0) (st := []) (F := fun b => fX0_size b h8) [] yY_yX0_size rfl mw436 mw32 mw33 (fun b => mX0_size l D aC B b h8) rfl (by decide) (by decide) (by exact Nat.le_of_ble_eq_true rfl) rfl dX11_number_56 rfl (fun x10 h11 => ?_)
      refine sm_goto (pc' := 64) dX11_number_59 (by decide) ?_
      exact sm_iret rfl dX11_number_64
    refine sm_bipush (v := (-2 : Int32)) (pc' := 40) dX11_number_38 rfl (by decide) ?_
    exact sm_iret rfl dX11_number_40
  refine sm_aload_n (i := 0) (j := 0) (pc' := 9) dX11_number_8 rfl rfl rfl ?_
  refine sm_getR (k := 1) (pc' := 12) kX11 (by decide) mw393 dX11_number_9 rfl (fun x15 => ?_)
  refine sm_cVU (pc' := 15) (ci := 0) (st := []) (F := fun b => fX0_clear b h) [] yY_yX0_clear rfl mw439 mw121 mw122 (fun b => mX0_clear l D aC B b h) rfl (by decide) (by decide) (by exact Nat.le_of_ble_eq_true rfl) rfl dX11_number_12 rfl (fun _ h16 => ?_)
  refine sm_iconst (v := (0 : Int32)) (pc' := 16) dX11_number_15 rfl (by decide) ?_
  exact sm_iret rfl dX11_number_16
set_option maxRecDepth 100000 in
theorem mX11_number (l : Launch) (D : va_G) (aC : Nat → ClassId) (B : Nat) (a0 : Nat) (a1 : Int64) (h : sm_H) : sm_M l D vwCl gAts aC B gTs gNs gOs yX11_number cX11_number 3 (some .int) 1 22 vlI [vR (some a0), vJ a1] h (fX11_number a0 a1 h) := sm_meth [vR (some a0), vJ a1] yY_yX11_number gG gN (Nat.le_of_ble_eq_true rfl) rfl (sX11_number_0 l D aC B a0 a1 h)
-- M:TreeAgent.isAccess(I)Z
noncomputable def fX11_isAccess  (a0 : Int32) (h : sm_H) : Option (Int32 × sm_H) :=
  if a0 < 0 then (
    some ((0 : Int32), h)
  ) else
  if (2 : Int32) < a0 then (
    some ((0 : Int32), h)
  ) else
  some ((1 : Int32), h)
set_option maxRecDepth 100000 in
set_option maxHeartbeats 4000000 in
theorem sX11_isAccess_0 (l : Launch) (D : va_G) (aC : Nat → ClassId) (B : Nat)   (a0 : Int32) (h : sm_H) : zS l D aC B cX11_isAccess 1 RX11 0 0 (some .boolean) "isAccess" vlI (fX11_isAccess a0 h) 0 [(0, vI a0)] [] h := by
  unfold fX11_isAccess
  refine sm_iload_n (i := 0) (j := 0) (pc' := 1) dX11_isAccess_0 rfl rfl rfl ?_
  refine sm_if_lt (tgt := 13) (pc' := 4) dX11_isAccess_1 (by decide) rfl ?_ ?_
  · refine sm_iconst (v := (0 : Int32)) (pc' := 14) dX11_isAccess_13 rfl (by decide) ?_
    exact sm_zret0 rfl dX11_isAccess_14
  refine sm_iload_n (i := 0) (j := 0) (pc' := 5) dX11_isAccess_4 rfl rfl rfl ?_
  refine sm_iconst (v := (2 : Int32)) (pc' := 6) dX11_isAccess_5 rfl (by decide) ?_
  refine sm_icmp_gt (tgt := 13) (pc' := 9) dX11_isAccess_6 (by decide) rfl ?_ ?_
  · refine sm_iconst (v := (0 : Int32)) (pc' := 14) dX11_isAccess_13 rfl (by decide) ?_
    exact sm_zret0 rfl dX11_isAccess_14
  refine sm_iconst (v := (1 : Int32)) (pc' := 10) dX11_isAccess_9 rfl (by decide) ?_
  refine sm_goto (pc' := 14) dX11_isAccess_10 (by decide) ?_
  exact sm_zret1 rfl dX11_isAccess_14
set_option maxRecDepth 100000 in
theorem mX11_isAccess (l : Launch) (D : va_G) (aC : Nat → ClassId) (B : Nat) (a0 : Int32) (h : sm_H) : sm_M l D vwCl gAts aC B gTs gNs gOs yX11_isAccess cX11_isAccess 1 (some .boolean) 0 0 vlI [vI a0] h (fX11_isAccess a0 h) := sm_meth [vI a0] yY_yX11_isAccess gG gN (Nat.le_of_ble_eq_true rfl) rfl (sX11_isAccess_0 l D aC B a0 h)
-- M:TreeAgent.isNameAtHand(I)Z
noncomputable def fX11_isNameAtHand  (a0 : Nat) (a1 : Int32) (h : sm_H) : Option (Int32 × sm_H) :=
  (sm_R (sm_get h (some a0) 11 1)).bind fun x1 =>
  (sm_obj h x1 0).bind fun b8 =>
  sm_cb (fX0_size b8 h) fun x2 h3 =>
  if x2 < (2 : Int32) then (
    some ((0 : Int32), h3)
  ) else
  (sm_R (sm_get h3 (some a0) 11 1)).bind fun x4 =>
  (sm_obj h3 x4 0).bind fun b7 =>
  sm_cb (fX0_size b7 h3) fun x5 h6 =>
  if a1 < x5 then (
    some ((0 : Int32), h6)
  ) else
  some ((1 : Int32), h6)
set_option maxRecDepth 100000 in
set_option maxHeartbeats 4000000 in
theorem sX11_isNameAtHand_0 (l : Launch) (D : va_G) (aC : Nat → ClassId) (B : Nat)   (a0 : Nat) (a1 : Int32) (h : sm_H) : zS l D aC B cX11_isNameAtHand 2 RX11 1 20 (some .boolean) "isNameAtHand" vlI (fX11_isNameAtHand a0 a1 h) 0 [(0, vR (some a0)), (1, vI a1)] [] h := by
  unfold fX11_isNameAtHand
  refine sm_aload_n (i := 0) (j := 0) (pc' := 1) dX11_isNameAtHand_0 rfl rfl rfl ?_
  refine sm_getR (k := 1) (pc' := 4) kX11 (by decide) mw393 dX11_isNameAtHand_1 rfl (fun x1 => ?_)
  refine sm_cVI (pc' := 7) (ci := 0) (st := []) (F := fun b => fX0_size b h) [] yY_yX0_size rfl mw436 mw32 mw33 (fun b => mX0_size l D aC B b h) rfl (by decide) (by decide) (by exact Nat.le_of_ble_eq_true rfl) rfl dX11_isNameAtHand_4 rfl (fun x2 h3 => ?_)
  refine sm_iconst (v := (2 : Int32)) (pc' := 8) dX11_isNameAtHand_7 rfl (by decide) ?_
  refine sm_icmp_lt (tgt := 26) (pc' := 11) dX11_isNameAtHand_8 (by decide) rfl ?_ ?_
  · refine sm_iconst (v := (0 : Int32)) (pc' := 27) dX11_isNameAtHand_26 rfl (by decide) ?_
    exact sm_zret0 rfl dX11_isNameAtHand_27
  refine sm_aload_n (i := 0) (j := 0) (pc' := 12) dX11_isNameAtHand_11 rfl rfl rfl ?_
  refine sm_getR (k := 1) (pc' := 15) kX11 (by decide) mw393 dX11_isNameAtHand_12 rfl (fun x4 => ?_)
  refine sm_cVI (pc' := 18) (ci := 0) (st := []) (F := fun b => fX0_size b h3) [] yY_yX0_size rfl mw436 mw32 mw33 (fun b => mX0_size l D aC B b h3) rfl (by decide) (by decide) (by exact Nat.le_of_ble_eq_true rfl) rfl dX11_isNameAtHand_15 rfl (fun x5 h6 => ?_)
  refine sm_iload_n (i := 1) (j := 1) (pc' := 19) dX11_isNameAtHand_18 rfl rfl rfl ?_
  refine sm_icmp_gt (tgt := 26) (pc' := 22) dX11_isNameAtHand_19 (by decide) rfl ?_ ?_
  · refine sm_iconst (v := (0 : Int32)) (pc' := 27) dX11_isNameAtHand_26 rfl (by decide) ?_
    exact sm_zret0 rfl dX11_isNameAtHand_27
  refine sm_iconst (v := (1 : Int32)) (pc' := 23) dX11_isNameAtHand_22 rfl (by decide) ?_
  refine sm_goto (pc' := 27) dX11_isNameAtHand_23 (by decide) ?_
  exact sm_zret1 rfl dX11_isNameAtHand_27
set_option maxRecDepth 100000 in
theorem mX11_isNameAtHand (l : Launch) (D : va_G) (aC : Nat → ClassId) (B : Nat) (a0 : Nat) (a1 : Int32) (h : sm_H) : sm_M l D vwCl gAts aC B gTs gNs gOs yX11_isNameAtHand cX11_isNameAtHand 2 (some .boolean) 1 20 vlI [vR (some a0), vI a1] h (fX11_isNameAtHand a0 a1 h) := sm_meth [vR (some a0), vI a1] yY_yX11_isNameAtHand gG gN (Nat.le_of_ble_eq_true rfl) rfl (sX11_isNameAtHand_0 l D aC B a0 a1 h)
-- M:TreeAgent.newScalar(IIJJ)I
noncomputable def fX11_newScalar  (a0 : Nat) (a1 : Int32) (a2 : Int32) (a3 : Int64) (a5 : Int64) (h : sm_H) : Option (Int32 × sm_H) :=
  sm_cb (fX11_isObjectTag a1 h) fun x1 h2 =>
  if x1 = 0 then (
    some ((-2 : Int32), h2)
  ) else
  sm_cb (fX11_isAccess a2 h2) fun x3 h4 =>
  if x3 = 0 then (
    some ((-2 : Int32), h4)
  ) else
  if 0 < (lg_cmp a3 a5) then (
    some ((-2 : Int32), h4)
  ) else
  (sm_obj h4 (some a0) 11).bind fun b23 =>
  sm_cb (fX11_isNameAtHand b23 (15 : Int32) h4) fun x5 h6 =>
  if x5 = 0 then (
    some ((-2 : Int32), h6)
  ) else
  (sm_R (sm_get h6 (some a0) 11 2)).bind fun x7 =>
  (sm_R (sm_get h6 (some a0) 11 1)).bind fun x8 =>
  (sm_obj h6 x7 9).bind fun b22 =>
  sm_cb (fX9_isTaken b22 x8 h6) fun x9 h10 =>
  if x9 = 0 then (
    (sm_R (sm_get h10 (some a0) 11 2)).bind fun x11 =>
    (sm_obj h10 x11 9).bind fun b21 =>
    sm_cb (fX9_thingCount b21 h10) fun x12 h13 =>
    if x12 < (40 : Int32) then (
      (sm_R (sm_get h13 (some a0) 11 2)).bind fun x14 =>
      sm_let (sm_new h13 8 [.null, .int 0, .int 0, .long 0, .long 0, .null, .null]) fun h15 =>
      (sm_R (sm_get h15 (some a0) 11 1)).bind fun x16 =>
      sm_cb (fX8_init h13.1 x16 a1 a2 a3 a5 none h15) fun _ h17 =>
      (sm_obj h17 x14 9).bind fun b20 =>
      sm_cb (fX9_addThing b20 (some h13.1) h17) fun x18 h19 =>
      some (x18, h19)
    ) else
    some ((-4 : Int32), h13)
  ) else
  some ((-3 : Int32), h10)
set_option maxRecDepth 100000 in
set_option maxHeartbeats 4000000 in
theorem sX11_newScalar_0 (l : Launch) (D : va_G) (aC : Nat → ClassId) (B : Nat)   (a0 : Nat) (a1 : Int32) (a2 : Int32) (a3 : Int64) (a5 : Int64) (h : sm_H) : zS l D aC B cX11_newScalar 7 RX11 4 95 (some .int) "newScalar" vlI (fX11_newScalar a0 a1 a2 a3 a5 h) 0 [(0, vR (some a0)), (1, vI a1), (2, vI a2), (3, vJ a3), (5, vJ a5)] [] h := by
  unfold fX11_newScalar
  refine sm_iload_n (i := 1) (j := 1) (pc' := 1) dX11_newScalar_0 rfl rfl rfl ?_
  refine sm_cSI (pc' := 4) (st := []) [vI a1] yY_yX11_isObjectTag mw445 mw248 (mX11_isObjectTag l D aC B a1 h) rfl (by decide) (by decide) (by exact Nat.le_of_ble_eq_true rfl) rfl dX11_newScalar_1 rfl (fun x1 h2 => ?_)
  refine sm_if_eq (tgt := 30) (pc' := 7) dX11_newScalar_4 (by decide) rfl ?_ ?_
  · refine sm_bipush (v := (-2 : Int32)) (pc' := 32) dX11_newScalar_30 rfl (by decide) ?_
    exact sm_iret rfl dX11_newScalar_32
  refine sm_iload_n (i := 2) (j := 2) (pc' := 8) dX11_newScalar_7 rfl rfl rfl ?_
  refine sm_cSI (pc' := 11) (st := []) [vI a2] yY_yX11_isAccess mw446 mw464 (mX11_isAccess l D aC B a2 h2) rfl (by decide) (by decide) (by exact Nat.le_of_ble_eq_true rfl) rfl dX11_newScalar_8 rfl (fun x3 h4 => ?_)
  refine sm_if_eq (tgt := 30) (pc' := 14) dX11_newScalar_11 (by decide) rfl ?_ ?_
  · refine sm_bipush (v := (-2 : Int32)) (pc' := 32) dX11_newScalar_30 rfl (by decide) ?_
    exact sm_iret rfl dX11_newScalar_32
  refine sm_lload_n (i := 3) (j := 3) (pc' := 15) dX11_newScalar_14 rfl rfl rfl ?_
  refine sm_lload (i := 5) (j := 4) (pc' := 17) dX11_newScalar_15 rfl rfl ?_
  refine sm_lcmp (pc' := 18) dX11_newScalar_17 rfl ?_
  refine sm_if_gt (tgt := 30) (pc' := 21) dX11_newScalar_18 (by decide) rfl ?_ ?_
  · refine sm_bipush (v := (-2 : Int32)) (pc' := 32) dX11_newScalar_30 rfl (by decide) ?_
    exact sm_iret rfl dX11_newScalar_32
  refine sm_aload_n (i := 0) (j := 0) (pc' := 22) dX11_newScalar_21 rfl rfl rfl ?_
  refine sm_bipush (v := (15 : Int32)) (pc' := 24) dX11_newScalar_22 rfl (by decide) ?_
  refine sm_cVI (pc' := 27) (ci := 11) (st := []) (F := fun b => fX11_isNameAtHand b (15 : Int32) h4) [vI (15 : Int32)] yY_yX11_isNameAtHand rfl mw447 mw462 mw463 (fun b => mX11_isNameAtHand l D aC B b (15 : Int32) h4) rfl (by decide) (by decide) (by exact Nat.le_of_ble_eq_true rfl) rfl dX11_newScalar_24 rfl (fun x5 h6 => ?_)
  refine sm_if_ne (tgt := 33) (pc' := 30) dX11_newScalar_27 (by decide) rfl ?_ ?_
  · refine sm_aload_n (i := 0) (j := 0) (pc' := 34) dX11_newScalar_33 rfl rfl rfl ?_
    refine sm_getR (k := 2) (pc' := 37) kX11 (by decide) mw395 dX11_newScalar_34 rfl (fun x7 => ?_)
    refine sm_aload_n (i := 0) (j := 0) (pc' := 38) dX11_newScalar_37 rfl rfl rfl ?_
    refine sm_getR (k := 1) (pc' := 41) kX11 (by decide) mw393 dX11_newScalar_38 rfl (fun x8 => ?_)
    refine sm_cVI (pc' := 44) (ci := 9) (st := []) (F := fun b => fX9_isTaken b x8 h6) [vR x8] yY_yX9_isTaken rfl mw448 mw460 mw461 (fun b => mX9_isTaken l D aC B b x8 h6) rfl (by decide) (by decide) (by exact Nat.le_of_ble_eq_true rfl) rfl dX11_newScalar_41 rfl (fun x9 h10 => ?_)
    refine sm_if_eq (tgt := 50) (pc' := 47) dX11_newScalar_44 (by decide) rfl ?_ ?_
    · refine sm_aload_n (i := 0) (j := 0) (pc' := 51) dX11_newScalar_50 rfl rfl rfl ?_
      refine sm_getR (k := 2) (pc' := 54) kX11 (by decide) mw395 dX11_newScalar_51 rfl (fun x11 => ?_)
      refine sm_cVI (pc' := 57) (ci := 9) (st := []) (F := fun b => fX9_thingCount b h10) [] yY_yX9_thingCount rfl mw449 mw458 mw459 (fun b => mX9_thingCount l D aC B b h10) rfl (by decide) (by decide) (by exact Nat.le_of_ble_eq_true rfl) rfl dX11_newScalar_54 rfl (fun x12 h13 => ?_)
      refine sm_bipush (v := (40 : Int32)) (pc' := 59) dX11_newScalar_57 rfl (by decide) ?_
      refine sm_icmp_lt (tgt := 65) (pc' := 62) dX11_newScalar_59 (by decide) rfl ?_ ?_
      · refine sm_aload_n (i := 0) (j := 0) (pc' := 66) dX11_newScalar_65 rfl rfl rfl ?_
        refine sm_getR (k := 2) (pc' := 69) kX11 (by decide) mw395 dX11_newScalar_66 rfl (fun x14 => ?_)
        refine sm_newL (fs := [.null, .int 0, .int 0, .long 0, .long 0, .null, .null]) (pc' := 72) kX8 rfl (by decide +kernel) mw455 mw456 mw457 dX11_newScalar_69 rfl (fun h15 => ?_)
        refine sm_dup (pc' := 73) rfl dX11_newScalar_72 rfl ?_
        refine sm_aload_n (i := 0) (j := 0) (pc' := 74) dX11_newScalar_73 rfl rfl rfl ?_
        refine sm_getR (k := 1) (pc' := 77) kX11 (by decide) mw393 dX11_newScalar_74 rfl (fun x16 => ?_)
        refine sm_iload_n (i := 1) (j := 1) (pc' := 78) dX11_newScalar_77 rfl rfl rfl ?_
        refine sm_iload_n (i := 2) (j := 2) (pc' := 79) dX11_newScalar_78 rfl rfl rfl ?_
        refine sm_lload_n (i := 3) (j := 3) (pc' := 80) dX11_newScalar_79 rfl rfl rfl ?_
        refine sm_lload (i := 5) (j := 4) (pc' := 82) dX11_newScalar_80 rfl rfl ?_
        refine sm_null (pc' := 83) dX11_newScalar_82 rfl ?_
        refine sm_cI (pc' := 86) (b := h13.1) (st := [vR (some h13.1), vR x14]) [vR x16, vI a1, vI a2, vJ a3, vJ a5, vR none] yY_yX8_init mw450 mw454 rfl (mX8_init l D aC B h13.1 x16 a1 a2 a3 a5 none h15) rfl (by decide) (by decide) (by exact Nat.le_of_ble_eq_true rfl) rfl dX11_newScalar_83 rfl (fun _ h17 => ?_)
        refine sm_cVI (pc' := 89) (ci := 9) (st := []) (F := fun b => fX9_addThing b (some h13.1) h17) [vR (some h13.1)] yY_yX9_addThing rfl mw451 mw452 mw453 (fun b => mX9_addThing l D aC B b (some h13.1) h17) rfl (by decide) (by decide) (by exact Nat.le_of_ble_eq_true rfl) rfl dX11_newScalar_86 rfl (fun x18 h19 => ?_)
        exact sm_iret rfl dX11_newScalar_89
      refine sm_bipush (v := (-4 : Int32)) (pc' := 64) dX11_newScalar_62 rfl (by decide) ?_
      exact sm_iret rfl dX11_newScalar_64
    refine sm_bipush (v := (-3 : Int32)) (pc' := 49) dX11_newScalar_47 rfl (by decide) ?_
    exact sm_iret rfl dX11_newScalar_49
  refine sm_bipush (v := (-2 : Int32)) (pc' := 32) dX11_newScalar_30 rfl (by decide) ?_
  exact sm_iret rfl dX11_newScalar_32
set_option maxRecDepth 100000 in
theorem mX11_newScalar (l : Launch) (D : va_G) (aC : Nat → ClassId) (B : Nat) (a0 : Nat) (a1 : Int32) (a2 : Int32) (a3 : Int64) (a5 : Int64) (h : sm_H) : sm_M l D vwCl gAts aC B gTs gNs gOs yX11_newScalar cX11_newScalar 7 (some .int) 4 95 vlI [vR (some a0), vI a1, vI a2, vJ a3, vJ a5] h (fX11_newScalar a0 a1 a2 a3 a5 h) := sm_meth [vR (some a0), vI a1, vI a2, vJ a3, vJ a5] yY_yX11_newScalar gG gN (Nat.le_of_ble_eq_true rfl) rfl (sX11_newScalar_0 l D aC B a0 a1 a2 a3 a5 h)
-- M:TreeAgent.scalar(IIJJ)I
noncomputable def fX11_scalar  (a0 : Nat) (a1 : Int32) (a2 : Int32) (a3 : Int64) (a5 : Int64) (h : sm_H) : Option (Int32 × sm_H) :=
  (sm_obj h (some a0) 11).bind fun b6 =>
  sm_cb (fX11_newScalar b6 a1 a2 a3 a5 h) fun x1 h2 =>
  (sm_R (sm_get h2 (some a0) 11 1)).bind fun x3 =>
  (sm_obj h2 x3 0).bind fun b5 =>
  sm_cb (fX0_clear b5 h2) fun _ h4 =>
  some (x1, h4)
set_option maxRecDepth 100000 in
set_option maxHeartbeats 4000000 in
theorem sX11_scalar_0 (l : Launch) (D : va_G) (aC : Nat → ClassId) (B : Nat)   (a0 : Nat) (a1 : Int32) (a2 : Int32) (a3 : Int64) (a5 : Int64) (h : sm_H) : zS l D aC B cX11_scalar 8 RX11 5 121 (some .int) "scalar" vlI (fX11_scalar a0 a1 a2 a3 a5 h) 0 [(0, vR (some a0)), (1, vI a1), (2, vI a2), (3, vJ a3), (5, vJ a5)] [] h := by
  unfold fX11_scalar
  refine sm_aload_n (i := 0) (j := 0) (pc' := 1) dX11_scalar_0 rfl rfl rfl ?_
  refine sm_iload_n (i := 1) (j := 1) (pc' := 2) dX11_scalar_1 rfl rfl rfl ?_
  refine sm_iload_n (i := 2) (j := 2) (pc' := 3) dX11_scalar_2 rfl rfl rfl ?_
  refine sm_lload_n (i := 3) (j := 3) (pc' := 4) dX11_scalar_3 rfl rfl rfl ?_
  refine sm_lload (i := 5) (j := 4) (pc' := 6) dX11_scalar_4 rfl rfl ?_
  refine sm_cVI (pc' := 9) (ci := 11) (st := []) (F := fun b => fX11_newScalar b a1 a2 a3 a5 h) [vI a1, vI a2, vJ a3, vJ a5] yY_yX11_newScalar rfl mw465 mw466 mw467 (fun b => mX11_newScalar l D aC B b a1 a2 a3 a5 h) rfl (by decide) (by decide) (by exact Nat.le_of_ble_eq_true rfl) rfl dX11_scalar_6 rfl (fun x1 h2 => ?_)
  refine sm_istore (i := 7) (lv' := [(7, vI x1), (0, vR (some a0)), (1, vI a1), (2, vI a2), (3, vJ a3), (5, vJ a5)]) (pc' := 11) dX11_scalar_9 rfl (by decide) rfl ?_
  refine sm_aload_n (i := 0) (j := 1) (pc' := 12) dX11_scalar_11 rfl rfl rfl ?_
  refine sm_getR (k := 1) (pc' := 15) kX11 (by decide) mw393 dX11_scalar_12 rfl (fun x3 => ?_)
  refine sm_cVU (pc' := 18) (ci := 0) (st := []) (F := fun b => fX0_clear b h2) [] yY_yX0_clear rfl mw439 mw121 mw122 (fun b => mX0_clear l D aC B b h2) rfl (by decide) (by decide) (by exact Nat.le_of_ble_eq_true rfl) rfl dX11_scalar_15 rfl (fun _ h4 => ?_)
  refine sm_iload (i := 7) (j := 0) (pc' := 20) dX11_scalar_18 rfl rfl ?_
  exact sm_iret rfl dX11_scalar_20
set_option maxRecDepth 100000 in
theorem mX11_scalar (l : Launch) (D : va_G) (aC : Nat → ClassId) (B : Nat) (a0 : Nat) (a1 : Int32) (a2 : Int32) (a3 : Int64) (a5 : Int64) (h : sm_H) : sm_M l D vwCl gAts aC B gTs gNs gOs yX11_scalar cX11_scalar 8 (some .int) 5 121 vlI [vR (some a0), vI a1, vI a2, vJ a3, vJ a5] h (fX11_scalar a0 a1 a2 a3 a5 h) := sm_meth [vR (some a0), vI a1, vI a2, vJ a3, vJ a5] yY_yX11_scalar gG gN (Nat.le_of_ble_eq_true rfl) rfl (sX11_scalar_0 l D aC B a0 a1 a2 a3 a5 h)
-- M:TreeAgent.newTable()I
noncomputable def fX11_newTable  (a0 : Nat) (h : sm_H) : Option (Int32 × sm_H) :=
  (sm_obj h (some a0) 11).bind fun b19 =>
  sm_cb (fX11_isNameAtHand b19 (14 : Int32) h) fun x1 h2 =>
  if x1 = 0 then (
    some ((-2 : Int32), h2)
  ) else
  (sm_R (sm_get h2 (some a0) 11 2)).bind fun x3 =>
  (sm_R (sm_get h2 (some a0) 11 1)).bind fun x4 =>
  (sm_obj h2 x3 9).bind fun b18 =>
  sm_cb (fX9_isTaken b18 x4 h2) fun x5 h6 =>
  if x5 = 0 then (
    (sm_R (sm_get h6 (some a0) 11 2)).bind fun x7 =>
    (sm_obj h6 x7 9).bind fun b17 =>
    sm_cb (fX9_tableCount b17 h6) fun x8 h9 =>
    if x8 < (4 : Int32) then (
      (sm_R (sm_get h9 (some a0) 11 2)).bind fun x10 =>
      sm_let (sm_new h9 7 [.null, .null, .null, .null, .int 0, .int 0]) fun h11 =>
      (sm_R (sm_get h11 (some a0) 11 1)).bind fun x12 =>
      sm_cb (fX7_init h9.1 x12 h11) fun _ h13 =>
      (sm_obj h13 x10 9).bind fun b16 =>
      sm_cb (fX9_addTable b16 (some h9.1) h13) fun x14 h15 =>
      some (x14, h15)
    ) else
    some ((-4 : Int32), h9)
  ) else
  some ((-3 : Int32), h6)
set_option maxRecDepth 100000 in
set_option maxHeartbeats 4000000 in
theorem sX11_newTable_0 (l : Launch) (D : va_G) (aC : Nat → ClassId) (B : Nat)   (a0 : Nat) (h : sm_H) : zS l D aC B cX11_newTable 1 RX11 3 66 (some .int) "newTable" vlI (fX11_newTable a0 h) 0 [(0, vR (some a0))] [] h := by
  unfold fX11_newTable
  refine sm_aload_n (i := 0) (j := 0) (pc' := 1) dX11_newTable_0 rfl rfl rfl ?_
  refine sm_bipush (v := (14 : Int32)) (pc' := 3) dX11_newTable_1 rfl (by decide) ?_
  refine sm_cVI (pc' := 6) (ci := 11) (st := []) (F := fun b => fX11_isNameAtHand b (14 : Int32) h) [vI (14 : Int32)] yY_yX11_isNameAtHand rfl mw447 mw462 mw463 (fun b => mX11_isNameAtHand l D aC B b (14 : Int32) h) rfl (by decide) (by decide) (by exact Nat.le_of_ble_eq_true rfl) rfl dX11_newTable_3 rfl (fun x1 h2 => ?_)
  refine sm_if_ne (tgt := 12) (pc' := 9) dX11_newTable_6 (by decide) rfl ?_ ?_
  · refine sm_aload_n (i := 0) (j := 0) (pc' := 13) dX11_newTable_12 rfl rfl rfl ?_
    refine sm_getR (k := 2) (pc' := 16) kX11 (by decide) mw395 dX11_newTable_13 rfl (fun x3 => ?_)
    refine sm_aload_n (i := 0) (j := 0) (pc' := 17) dX11_newTable_16 rfl rfl rfl ?_
    refine sm_getR (k := 1) (pc' := 20) kX11 (by decide) mw393 dX11_newTable_17 rfl (fun x4 => ?_)
    refine sm_cVI (pc' := 23) (ci := 9) (st := []) (F := fun b => fX9_isTaken b x4 h2) [vR x4] yY_yX9_isTaken rfl mw448 mw460 mw461 (fun b => mX9_isTaken l D aC B b x4 h2) rfl (by decide) (by decide) (by exact Nat.le_of_ble_eq_true rfl) rfl dX11_newTable_20 rfl (fun x5 h6 => ?_)
    refine sm_if_eq (tgt := 29) (pc' := 26) dX11_newTable_23 (by decide) rfl ?_ ?_
    · refine sm_aload_n (i := 0) (j := 0) (pc' := 30) dX11_newTable_29 rfl rfl rfl ?_
      refine sm_getR (k := 2) (pc' := 33) kX11 (by decide) mw395 dX11_newTable_30 rfl (fun x7 => ?_)
      refine sm_cVI (pc' := 36) (ci := 9) (st := []) (F := fun b => fX9_tableCount b h6) [] yY_yX9_tableCount rfl mw468 mw477 mw478 (fun b => mX9_tableCount l D aC B b h6) rfl (by decide) (by decide) (by exact Nat.le_of_ble_eq_true rfl) rfl dX11_newTable_33 rfl (fun x8 h9 => ?_)
      refine sm_iconst (v := (4 : Int32)) (pc' := 37) dX11_newTable_36 rfl (by decide) ?_
      refine sm_icmp_lt (tgt := 43) (pc' := 40) dX11_newTable_37 (by decide) rfl ?_ ?_
      · refine sm_aload_n (i := 0) (j := 0) (pc' := 44) dX11_newTable_43 rfl rfl rfl ?_
        refine sm_getR (k := 2) (pc' := 47) kX11 (by decide) mw395 dX11_newTable_44 rfl (fun x10 => ?_)
        refine sm_newL (fs := [.null, .null, .null, .null, .int 0, .int 0]) (pc' := 50) kX7 rfl (by decide +kernel) mw474 mw475 mw476 dX11_newTable_47 rfl (fun h11 => ?_)
        refine sm_dup (pc' := 51) rfl dX11_newTable_50 rfl ?_
        refine sm_aload_n (i := 0) (j := 0) (pc' := 52) dX11_newTable_51 rfl rfl rfl ?_
        refine sm_getR (k := 1) (pc' := 55) kX11 (by decide) mw393 dX11_newTable_52 rfl (fun x12 => ?_)
        refine sm_cI (pc' := 58) (b := h9.1) (st := [vR (some h9.1), vR x10]) [vR x12] yY_yX7_init mw469 mw473 rfl (mX7_init l D aC B h9.1 x12 h11) rfl (by decide) (by decide) (by exact Nat.le_of_ble_eq_true rfl) rfl dX11_newTable_55 rfl (fun _ h13 => ?_)
        refine sm_cVI (pc' := 61) (ci := 9) (st := []) (F := fun b => fX9_addTable b (some h9.1) h13) [vR (some h9.1)] yY_yX9_addTable rfl mw470 mw471 mw472 (fun b => mX9_addTable l D aC B b (some h9.1) h13) rfl (by decide) (by decide) (by exact Nat.le_of_ble_eq_true rfl) rfl dX11_newTable_58 rfl (fun x14 h15 => ?_)
        exact sm_iret rfl dX11_newTable_61
      refine sm_bipush (v := (-4 : Int32)) (pc' := 42) dX11_newTable_40 rfl (by decide) ?_
      exact sm_iret rfl dX11_newTable_42
    refine sm_bipush (v := (-3 : Int32)) (pc' := 28) dX11_newTable_26 rfl (by decide) ?_
    exact sm_iret rfl dX11_newTable_28
  refine sm_bipush (v := (-2 : Int32)) (pc' := 11) dX11_newTable_9 rfl (by decide) ?_
  exact sm_iret rfl dX11_newTable_11
set_option maxRecDepth 100000 in
theorem mX11_newTable (l : Launch) (D : va_G) (aC : Nat → ClassId) (B : Nat) (a0 : Nat) (h : sm_H) : sm_M l D vwCl gAts aC B gTs gNs gOs yX11_newTable cX11_newTable 1 (some .int) 3 66 vlI [vR (some a0)] h (fX11_newTable a0 h) := sm_meth [vR (some a0)] yY_yX11_newTable gG gN (Nat.le_of_ble_eq_true rfl) rfl (sX11_newTable_0 l D aC B a0 h)
-- M:TreeAgent.table()I
noncomputable def fX11_table  (a0 : Nat) (h : sm_H) : Option (Int32 × sm_H) :=
  (sm_obj h (some a0) 11).bind fun b6 =>
  sm_cb (fX11_newTable b6 h) fun x1 h2 =>
  (sm_R (sm_get h2 (some a0) 11 1)).bind fun x3 =>
  (sm_obj h2 x3 0).bind fun b5 =>
  sm_cb (fX0_clear b5 h2) fun _ h4 =>
  some (x1, h4)
set_option maxRecDepth 100000 in
set_option maxHeartbeats 4000000 in
theorem sX11_table_0 (l : Launch) (D : va_G) (aC : Nat → ClassId) (B : Nat)   (a0 : Nat) (h : sm_H) : zS l D aC B cX11_table 2 RX11 4 86 (some .int) "table" vlI (fX11_table a0 h) 0 [(0, vR (some a0))] [] h := by
  unfold fX11_table
  refine sm_aload_n (i := 0) (j := 0) (pc' := 1) dX11_table_0 rfl rfl rfl ?_
  refine sm_cVI (pc' := 4) (ci := 11) (st := []) (F := fun b => fX11_newTable b h) [] yY_yX11_newTable rfl mw479 mw480 mw481 (fun b => mX11_newTable l D aC B b h) rfl (by decide) (by decide) (by exact Nat.le_of_ble_eq_true rfl) rfl dX11_table_1 rfl (fun x1 h2 => ?_)
  refine sm_istore_n (i := 1) (lv' := [(1, vI x1), (0, vR (some a0))]) (pc' := 5) dX11_table_4 rfl rfl (by decide) rfl ?_
  refine sm_aload_n (i := 0) (j := 1) (pc' := 6) dX11_table_5 rfl rfl rfl ?_
  refine sm_getR (k := 1) (pc' := 9) kX11 (by decide) mw393 dX11_table_6 rfl (fun x3 => ?_)
  refine sm_cVU (pc' := 12) (ci := 0) (st := []) (F := fun b => fX0_clear b h2) [] yY_yX0_clear rfl mw439 mw121 mw122 (fun b => mX0_clear l D aC B b h2) rfl (by decide) (by decide) (by exact Nat.le_of_ble_eq_true rfl) rfl dX11_table_9 rfl (fun _ h4 => ?_)
  refine sm_iload_n (i := 1) (j := 0) (pc' := 13) dX11_table_12 rfl rfl rfl ?_
  exact sm_iret rfl dX11_table_13
set_option maxRecDepth 100000 in
theorem mX11_table (l : Launch) (D : va_G) (aC : Nat → ClassId) (B : Nat) (a0 : Nat) (h : sm_H) : sm_M l D vwCl gAts aC B gTs gNs gOs yX11_table cX11_table 2 (some .int) 4 86 vlI [vR (some a0)] h (fX11_table a0 h) := sm_meth [vR (some a0)] yY_yX11_table gG gN (Nat.le_of_ble_eq_true rfl) rfl (sX11_table_0 l D aC B a0 h)
-- M:TreeAgent.columnRefusal(LTreeAgent$Table;I)I
noncomputable def fX11_columnRefusal_44  (s0 : Int32) (h : sm_H) : Option (Int32 × sm_H) :=
  if s0 = 0 then (
    some ((0 : Int32), h)
  ) else
  some ((-4 : Int32), h)
set_option maxRecDepth 100000 in
set_option maxHeartbeats 4000000 in
theorem sX11_columnRefusal_44 (l : Launch) (D : va_G) (aC : Nat → ClassId) (B : Nat)   (s0 : Int32) (h : sm_H) : zS l D aC B cX11_columnRefusal 4 RX11 2 44 (some .int) "columnRefusal" vlI (fX11_columnRefusal_44 s0 h) 44 [] [vI s0] h := by
  unfold fX11_columnRefusal_44
  refine sm_istore_n (i := 3) (lv' := [(3, vI s0)]) (pc' := 45) dX11_columnRefusal_44 rfl rfl (by decide) rfl ?_
  refine sm_iload_n (i := 3) (j := 0) (pc' := 46) dX11_columnRefusal_45 rfl rfl rfl ?_
  refine sm_if_eq (tgt := 54) (pc' := 49) dX11_columnRefusal_46 (by decide) rfl ?_ ?_
  · refine sm_iconst (v := (0 : Int32)) (pc' := 55) dX11_columnRefusal_54 rfl (by decide) ?_
    exact sm_iret rfl dX11_columnRefusal_55
  refine sm_bipush (v := (-4 : Int32)) (pc' := 51) dX11_columnRefusal_49 rfl (by decide) ?_
  refine sm_goto (pc' := 55) dX11_columnRefusal_51 (by decide) ?_
  exact sm_iret rfl dX11_columnRefusal_55
noncomputable def fX11_columnRefusal  (a0 : Nat) (a1 : Option Nat) (a2 : Int32) (h : sm_H) : Option (Int32 × sm_H) :=
  (sm_obj h a1 7).bind fun b13 =>
  sm_cb (fX7_hasColumn b13 a2 h) fun x1 h2 =>
  if x1 = 0 then (
    (sm_obj h2 a1 7).bind fun b12 =>
    sm_cb (fX7_rowCount b12 h2) fun x3 h4 =>
    if x3 ≤ 0 then (
      (sm_obj h4 a1 7).bind fun b11 =>
      sm_cb (fX7_columnCount b11 h4) fun x5 h6 =>
      if (6 : Int32) ≤ x5 then (
        fX11_columnRefusal_44 (1 : Int32) h6
      ) else
      (sm_R (sm_get h6 (some a0) 11 2)).bind fun x7 =>
      (sm_obj h6 x7 9).bind fun b10 =>
      sm_cb (fX9_thingCount b10 h6) fun x8 h9 =>
      if x8 < (40 : Int32) then (
        fX11_columnRefusal_44 (0 : Int32) h9
      ) else
      fX11_columnRefusal_44 (1 : Int32) h9
    ) else
    some ((-3 : Int32), h4)
  ) else
  some ((-3 : Int32), h2)
set_option maxRecDepth 100000 in
set_option maxHeartbeats 4000000 in
theorem sX11_columnRefusal_0 (l : Launch) (D : va_G) (aC : Nat → ClassId) (B : Nat)   (a0 : Nat) (a1 : Option Nat) (a2 : Int32) (h : sm_H) : zS l D aC B cX11_columnRefusal 4 RX11 2 44 (some .int) "columnRefusal" vlI (fX11_columnRefusal a0 a1 a2 h) 0 [(0, vR (some a0)), (1, vR a1), (2, vI a2)] [] h := by
  unfold fX11_columnRefusal
  refine sm_aload_n (i := 1) (j := 1) (pc' := 1) dX11_columnRefusal_0 rfl rfl rfl ?_
  refine sm_iload_n (i := 2) (j := 2) (pc' := 2) dX11_columnRefusal_1 rfl rfl rfl ?_
  refine sm_cVI (pc' := 5) (ci := 7) (st := []) (F := fun b => fX7_hasColumn b a2 h) [vI a2] yY_yX7_hasColumn rfl mw482 mw487 mw488 (fun b => mX7_hasColumn l D aC B b a2 h) rfl (by decide) (by decide) (by exact Nat.le_of_ble_eq_true rfl) rfl dX11_columnRefusal_2 rfl (fun x1 h2 => ?_)
  refine sm_if_ne (tgt := 15) (pc' := 8) dX11_columnRefusal_5 (by decide) rfl ?_ ?_
  · refine sm_bipush (v := (-3 : Int32)) (pc' := 17) dX11_columnRefusal_15 rfl (by decide) ?_
    exact sm_iret rfl dX11_columnRefusal_17
  refine sm_aload_n (i := 1) (j := 1) (pc' := 9) dX11_columnRefusal_8 rfl rfl rfl ?_
  refine sm_cVI (pc' := 12) (ci := 7) (st := []) (F := fun b => fX7_rowCount b h2) [] yY_yX7_rowCount rfl mw483 mw88 mw89 (fun b => mX7_rowCount l D aC B b h2) rfl (by decide) (by decide) (by exact Nat.le_of_ble_eq_true rfl) rfl dX11_columnRefusal_9 rfl (fun x3 h4 => ?_)
  refine sm_if_le (tgt := 18) (pc' := 15) dX11_columnRefusal_12 (by decide) rfl ?_ ?_
  · refine sm_aload_n (i := 1) (j := 1) (pc' := 19) dX11_columnRefusal_18 rfl rfl rfl ?_
    refine sm_cVI (pc' := 22) (ci := 7) (st := []) (F := fun b => fX7_columnCount b h4) [] yY_yX7_columnCount rfl mw484 mw485 mw486 (fun b => mX7_columnCount l D aC B b h4) rfl (by decide) (by decide) (by exact Nat.le_of_ble_eq_true rfl) rfl dX11_columnRefusal_19 rfl (fun x5 h6 => ?_)
    refine sm_bipush (v := (6 : Int32)) (pc' := 24) dX11_columnRefusal_22 rfl (by decide) ?_
    refine sm_icmp_ge (tgt := 39) (pc' := 27) dX11_columnRefusal_24 (by decide) rfl ?_ ?_
    · refine sm_iconst (v := (1 : Int32)) (pc' := 40) dX11_columnRefusal_39 rfl (by decide) ?_
      refine sm_goto (pc' := 44) dX11_columnRefusal_40 (by decide) ?_
      refine sm_lo (lv' := []) [] rfl ?_
      exact sX11_columnRefusal_44 l D aC B  (1 : Int32) h6
    refine sm_aload_n (i := 0) (j := 0) (pc' := 28) dX11_columnRefusal_27 rfl rfl rfl ?_
    refine sm_getR (k := 2) (pc' := 31) kX11 (by decide) mw395 dX11_columnRefusal_28 rfl (fun x7 => ?_)
    refine sm_cVI (pc' := 34) (ci := 9) (st := []) (F := fun b => fX9_thingCount b h6) [] yY_yX9_thingCount rfl mw449 mw458 mw459 (fun b => mX9_thingCount l D aC B b h6) rfl (by decide) (by decide) (by exact Nat.le_of_ble_eq_true rfl) rfl dX11_columnRefusal_31 rfl (fun x8 h9 => ?_)
    refine sm_bipush (v := (40 : Int32)) (pc' := 36) dX11_columnRefusal_34 rfl (by decide) ?_
    refine sm_icmp_lt (tgt := 43) (pc' := 39) dX11_columnRefusal_36 (by decide) rfl ?_ ?_
    · refine sm_iconst (v := (0 : Int32)) (pc' := 44) dX11_columnRefusal_43 rfl (by decide) ?_
      refine sm_lo (lv' := []) [] rfl ?_
      exact sX11_columnRefusal_44 l D aC B  (0 : Int32) h9
    refine sm_iconst (v := (1 : Int32)) (pc' := 40) dX11_columnRefusal_39 rfl (by decide) ?_
    refine sm_goto (pc' := 44) dX11_columnRefusal_40 (by decide) ?_
    refine sm_lo (lv' := []) [] rfl ?_
    exact sX11_columnRefusal_44 l D aC B  (1 : Int32) h9
  refine sm_bipush (v := (-3 : Int32)) (pc' := 17) dX11_columnRefusal_15 rfl (by decide) ?_
  exact sm_iret rfl dX11_columnRefusal_17
set_option maxRecDepth 100000 in
theorem mX11_columnRefusal (l : Launch) (D : va_G) (aC : Nat → ClassId) (B : Nat) (a0 : Nat) (a1 : Option Nat) (a2 : Int32) (h : sm_H) : sm_M l D vwCl gAts aC B gTs gNs gOs yX11_columnRefusal cX11_columnRefusal 4 (some .int) 2 44 vlI [vR (some a0), vR a1, vI a2] h (fX11_columnRefusal a0 a1 a2 h) := sm_meth [vR (some a0), vR a1, vI a2] yY_yX11_columnRefusal gG gN (Nat.le_of_ble_eq_true rfl) rfl (sX11_columnRefusal_0 l D aC B a0 a1 a2 h)
-- M:TreeAgent.columnName(LTreeAgent$Table;I)LTreeAgent$Chain;
noncomputable def fX11_columnName  (a0 : Nat) (a1 : Option Nat) (a2 : Int32) (h : sm_H) : Option (Option Nat × sm_H) :=
  (sm_R (sm_get h (some a0) 11 9)).bind fun x1 =>
  (sm_R (sm_get h a1 7 0)).bind fun x2 =>
  (sm_obj h x1 0).bind fun b9 =>
  sm_cb (fX0_copy b9 x2 h) fun _ h3 =>
  (sm_R (sm_get h3 (some a0) 11 9)).bind fun x4 =>
  (sm_obj h3 x4 0).bind fun b8 =>
  sm_cb (fX0_add b8 (a2.toInt64) h3) fun x5 h6 =>
  (sm_R (sm_get h6 (some a0) 11 9)).bind fun x7 =>
  some (x7, h6)
set_option maxRecDepth 100000 in
set_option maxHeartbeats 4000000 in
theorem sX11_columnName_0 (l : Launch) (D : va_G) (aC : Nat → ClassId) (B : Nat)   (a0 : Nat) (a1 : Option Nat) (a2 : Int32) (h : sm_H) : zS l D aC B cX11_columnName 3 RX11 2 44 (some (.object "TreeAgent$Chain")) "columnName" vlR (fX11_columnName a0 a1 a2 h) 0 [(0, vR (some a0)), (1, vR a1), (2, vI a2)] [] h := by
  unfold fX11_columnName
  refine sm_aload_n (i := 0) (j := 0) (pc' := 1) dX11_columnName_0 rfl rfl rfl ?_
  refine sm_getR (k := 9) (pc' := 4) kX11 (by decide) mw407 dX11_columnName_1 rfl (fun x1 => ?_)
  refine sm_aload_n (i := 1) (j := 1) (pc' := 5) dX11_columnName_4 rfl rfl rfl ?_
  refine sm_getRN (k := 0) (pc' := 8) kX7 (by decide) mw489 dX11_columnName_5 rfl (fun x2 => ?_)
  refine sm_cVU (pc' := 11) (ci := 0) (st := []) (F := fun b => fX0_copy b x2 h) [vR x2] yY_yX0_copy rfl mw490 mw142 mw143 (fun b => mX0_copy l D aC B b x2 h) rfl (by decide) (by decide) (by exact Nat.le_of_ble_eq_true rfl) rfl dX11_columnName_8 rfl (fun _ h3 => ?_)
  refine sm_aload_n (i := 0) (j := 0) (pc' := 12) dX11_columnName_11 rfl rfl rfl ?_
  refine sm_getR (k := 9) (pc' := 15) kX11 (by decide) mw407 dX11_columnName_12 rfl (fun x4 => ?_)
  refine sm_iload_n (i := 2) (j := 2) (pc' := 16) dX11_columnName_15 rfl rfl rfl ?_
  refine sm_i2l (pc' := 17) dX11_columnName_16 rfl ?_
  refine sm_cVI (pc' := 20) (ci := 0) (st := []) (F := fun b => fX0_add b (a2.toInt64) h3) [vJ (a2.toInt64)] yY_yX0_add rfl mw438 mw13 mw14 (fun b => mX0_add l D aC B b (a2.toInt64) h3) rfl (by decide) (by decide) (by exact Nat.le_of_ble_eq_true rfl) rfl dX11_columnName_17 rfl (fun x5 h6 => ?_)
  refine sm_pop (pc' := 21) rfl dX11_columnName_20 rfl ?_
  refine sm_aload_n (i := 0) (j := 0) (pc' := 22) dX11_columnName_21 rfl rfl rfl ?_
  refine sm_getR (k := 9) (pc' := 25) kX11 (by decide) mw407 dX11_columnName_22 rfl (fun x7 => ?_)
  exact sm_aret rfl dX11_columnName_25
set_option maxRecDepth 100000 in
theorem mX11_columnName (l : Launch) (D : va_G) (aC : Nat → ClassId) (B : Nat) (a0 : Nat) (a1 : Option Nat) (a2 : Int32) (h : sm_H) : sm_M l D vwCl gAts aC B gTs gNs gOs yX11_columnName cX11_columnName 3 (some (.object "TreeAgent$Chain")) 2 44 vlR [vR (some a0), vR a1, vI a2] h (fX11_columnName a0 a1 a2 h) := sm_meth [vR (some a0), vR a1, vI a2] yY_yX11_columnName gG gN (Nat.le_of_ble_eq_true rfl) rfl (sX11_columnName_0 l D aC B a0 a1 a2 h)
-- M:TreeAgent.newColumn(LTreeAgent$Table;LTreeAgent$Chain;IIJJ)I
noncomputable def fX11_newColumn  (a0 : Nat) (a1 : Option Nat) (a2 : Option Nat) (a3 : Int32) (a4 : Int32) (a5 : Int64) (a7 : Int64) (h : sm_H) : Option (Int32 × sm_H) :=
  sm_let (sm_new h 8 [.null, .int 0, .int 0, .long 0, .long 0, .null, .null]) fun h1 =>
  sm_cb (fX8_init h.1 a2 a3 a4 a5 a7 a1 h1) fun _ h2 =>
  (sm_obj h2 a1 7).bind fun b8 =>
  sm_cb (fX7_addColumn b8 (some h.1) h2) fun _ h3 =>
  (sm_R (sm_get h3 (some a0) 11 2)).bind fun x4 =>
  (sm_obj h3 x4 9).bind fun b7 =>
  sm_cb (fX9_addThing b7 (some h.1) h3) fun x5 h6 =>
  some (x5, h6)
set_option maxRecDepth 100000 in
set_option maxHeartbeats 4000000 in
theorem sX11_newColumn_0 (l : Launch) (D : va_G) (aC : Nat → ClassId) (B : Nat)   (a0 : Nat) (a1 : Option Nat) (a2 : Option Nat) (a3 : Int32) (a4 : Int32) (a5 : Int64) (a7 : Int64) (h : sm_H) : zS l D aC B cX11_newColumn 10 RX11 4 95 (some .int) "newColumn" vlI (fX11_newColumn a0 a1 a2 a3 a4 a5 a7 h) 0 [(0, vR (some a0)), (1, vR a1), (2, vR a2), (3, vI a3), (4, vI a4), (5, vJ a5), (7, vJ a7)] [] h := by
  unfold fX11_newColumn
  refine sm_newL (fs := [.null, .int 0, .int 0, .long 0, .long 0, .null, .null]) (pc' := 3) kX8 rfl (by decide +kernel) mw455 mw456 mw457 dX11_newColumn_0 rfl (fun h1 => ?_)
  refine sm_dup (pc' := 4) rfl dX11_newColumn_3 rfl ?_
  refine sm_aload_n (i := 2) (j := 2) (pc' := 5) dX11_newColumn_4 rfl rfl rfl ?_
  refine sm_iload_n (i := 3) (j := 3) (pc' := 6) dX11_newColumn_5 rfl rfl rfl ?_
  refine sm_iload (i := 4) (j := 4) (pc' := 8) dX11_newColumn_6 rfl rfl ?_
  refine sm_lload (i := 5) (j := 5) (pc' := 10) dX11_newColumn_8 rfl rfl ?_
  refine sm_lload (i := 7) (j := 6) (pc' := 12) dX11_newColumn_10 rfl rfl ?_
  refine sm_aload_n (i := 1) (j := 1) (pc' := 13) dX11_newColumn_12 rfl rfl rfl ?_
  refine sm_cI (pc' := 16) (b := h.1) (st := [vR (some h.1)]) [vR a2, vI a3, vI a4, vJ a5, vJ a7, vR a1] yY_yX8_init mw450 mw454 rfl (mX8_init l D aC B h.1 a2 a3 a4 a5 a7 a1 h1) rfl (by decide) (by decide) (by exact Nat.le_of_ble_eq_true rfl) rfl dX11_newColumn_13 rfl (fun _ h2 => ?_)
  refine sm_astore (i := 9) (lv' := [(9, vR (some h.1)), (0, vR (some a0)), (1, vR a1), (2, vR a2), (3, vI a3), (4, vI a4), (5, vJ a5), (7, vJ a7)]) (pc' := 18) dX11_newColumn_16 rfl (by decide) rfl ?_
  refine sm_aload_n (i := 1) (j := 2) (pc' := 19) dX11_newColumn_18 rfl rfl rfl ?_
  refine sm_aload (i := 9) (j := 0) (pc' := 21) dX11_newColumn_19 rfl rfl ?_
  refine sm_cVU (pc' := 24) (ci := 7) (st := []) (F := fun b => fX7_addColumn b (some h.1) h2) [vR (some h.1)] yY_yX7_addColumn rfl mw491 mw492 mw493 (fun b => mX7_addColumn l D aC B b (some h.1) h2) rfl (by decide) (by decide) (by exact Nat.le_of_ble_eq_true rfl) rfl dX11_newColumn_21 rfl (fun _ h3 => ?_)
  refine sm_aload_n (i := 0) (j := 1) (pc' := 25) dX11_newColumn_24 rfl rfl rfl ?_
  refine sm_getR (k := 2) (pc' := 28) kX11 (by decide) mw395 dX11_newColumn_25 rfl (fun x4 => ?_)
  refine sm_aload (i := 9) (j := 0) (pc' := 30) dX11_newColumn_28 rfl rfl ?_
  refine sm_cVI (pc' := 33) (ci := 9) (st := []) (F := fun b => fX9_addThing b (some h.1) h3) [vR (some h.1)] yY_yX9_addThing rfl mw451 mw452 mw453 (fun b => mX9_addThing l D aC B b (some h.1) h3) rfl (by decide) (by decide) (by exact Nat.le_of_ble_eq_true rfl) rfl dX11_newColumn_30 rfl (fun x5 h6 => ?_)
  exact sm_iret rfl dX11_newColumn_33
set_option maxRecDepth 100000 in
theorem mX11_newColumn (l : Launch) (D : va_G) (aC : Nat → ClassId) (B : Nat) (a0 : Nat) (a1 : Option Nat) (a2 : Option Nat) (a3 : Int32) (a4 : Int32) (a5 : Int64) (a7 : Int64) (h : sm_H) : sm_M l D vwCl gAts aC B gTs gNs gOs yX11_newColumn cX11_newColumn 10 (some .int) 4 95 vlI [vR (some a0), vR a1, vR a2, vI a3, vI a4, vJ a5, vJ a7] h (fX11_newColumn a0 a1 a2 a3 a4 a5 a7 h) := sm_meth [vR (some a0), vR a1, vR a2, vI a3, vI a4, vJ a5, vJ a7] yY_yX11_newColumn gG gN (Nat.le_of_ble_eq_true rfl) rfl (sX11_newColumn_0 l D aC B a0 a1 a2 a3 a4 a5 a7 h)
