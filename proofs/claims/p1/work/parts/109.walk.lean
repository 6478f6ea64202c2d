-- M:TreeAgent.takeMessage()I
noncomputable def fX11_takeMessage  (a0 : Nat) (h : sm_H) : Option (Int32 × sm_H) :=
  (sm_R (sm_get h (some a0) 11 5)).bind fun x1 =>
  (sm_R (sm_get h (some a0) 11 4)).bind fun x2 =>
  (sm_obj h x1 5).bind fun b19 =>
  sm_cb (fX5_readHead b19 x2 h) fun x3 h4 =>
  if x3 = 0 then (
    (sm_R (sm_get h4 (some a0) 11 4)).bind fun x5 =>
    (sm_R (sm_get h4 (some a0) 11 4)).bind fun x6 =>
    (sm_R (sm_get h4 x6 3 0)).bind fun x7 =>
    (sm_obj h4 (some a0) 11).bind fun b18 =>
    sm_cb (fX11_communityNamed b18 x7 h4) fun x8 h9 =>
    (sm_put h9 x5 3 2 (sm_v (vR x8))).bind fun h10 =>
    (sm_R (sm_get h10 (some a0) 11 4)).bind fun x11 =>
    (sm_R (sm_get h10 x11 3 2)).bind fun x12 =>
    if x12 = none then (
      some ((3 : Int32), h10)
    ) else
    (sm_R (sm_get h10 (some a0) 11 5)).bind fun x13 =>
    (sm_R (sm_get h10 (some a0) 11 4)).bind fun x14 =>
    (sm_obj h10 x13 5).bind fun b17 =>
    sm_cb (fX5_readBody b17 x14 h10) fun x15 h16 =>
    if x15 = 0 then (
      some ((1 : Int32), h16)
    ) else
    some ((0 : Int32), h16)
  ) else
  some (x3, h4)
set_option maxRecDepth 100000 in
set_option maxHeartbeats 4000000 in
theorem sX11_takeMessage_0 (l : Launch) (D : va_G) (aC : Nat → ClassId) (B : Nat)   (a0 : Nat) (h : sm_H) : zS l D aC B cX11_takeMessage 2 RX11 6 141 (some .int) "takeMessage" vlI (fX11_takeMessage a0 h) 0 [(0, vR (some a0))] [] h := by
  unfold fX11_takeMessage
  refine sm_aload_n (i := 0) (j := 0) (pc' := 1) dX11_takeMessage_0 rfl rfl rfl ?_
  refine sm_getR (k := 5) (pc' := 4) kX11 (by decide) mw401 dX11_takeMessage_1 rfl (fun x1 => ?_)
  refine sm_aload_n (i := 0) (j := 0) (pc' := 5) dX11_takeMessage_4 rfl rfl rfl ?_
  refine sm_getR (k := 4) (pc' := 8) kX11 (by decide) mw399 dX11_takeMessage_5 rfl (fun x2 => ?_)
  refine sm_cVI (pc' := 11) (ci := 5) (st := []) (F := fun b => fX5_readHead b x2 h) [vR x2] yY_yX5_readHead rfl mw556 mw562 mw563 (fun b => mX5_readHead l D aC B b x2 h) rfl (by decide) (by decide) (by exact Nat.le_of_ble_eq_true rfl) rfl dX11_takeMessage_8 rfl (fun x3 h4 => ?_)
  refine sm_istore_n (i := 1) (lv' := [(1, vI x3), (0, vR (some a0))]) (pc' := 12) dX11_takeMessage_11 rfl rfl (by decide) rfl ?_
  refine sm_iload_n (i := 1) (j := 0) (pc' := 13) dX11_takeMessage_12 rfl rfl rfl ?_
  refine sm_if_eq (tgt := 18) (pc' := 16) dX11_takeMessage_13 (by decide) rfl ?_ ?_
  · refine sm_aload_n (i := 0) (j := 1) (pc' := 19) dX11_takeMessage_18 rfl rfl rfl ?_
    refine sm_getR (k := 4) (pc' := 22) kX11 (by decide) mw399 dX11_takeMessage_19 rfl (fun x5 => ?_)
    refine sm_aload_n (i := 0) (j := 1) (pc' := 23) dX11_takeMessage_22 rfl rfl rfl ?_
    refine sm_aload_n (i := 0) (j := 1) (pc' := 24) dX11_takeMessage_23 rfl rfl rfl ?_
    refine sm_getR (k := 4) (pc' := 27) kX11 (by decide) mw399 dX11_takeMessage_24 rfl (fun x6 => ?_)
    refine sm_getRN (k := 0) (pc' := 30) kX3 (by decide) mw557 dX11_takeMessage_27 rfl (fun x7 => ?_)
    refine sm_cVR (pc' := 33) (ci := 11) (st := [vR x5]) (F := fun b => fX11_communityNamed b x7 h4) [vR x7] yY_yX11_communityNamed rfl mw533 mw539 mw540 (fun b => mX11_communityNamed l D aC B b x7 h4) rfl (by decide) (by decide) (by exact Nat.le_of_ble_eq_true rfl) rfl dX11_takeMessage_30 rfl (fun x8 h9 => ?_)
    refine sm_putNR (k := 2) (pc' := 36) kX3 (by decide) mw558 rfl (Or.inl ⟨_, rfl⟩) dX11_takeMessage_33 rfl (fun h10 => ?_)
    refine sm_aload_n (i := 0) (j := 1) (pc' := 37) dX11_takeMessage_36 rfl rfl rfl ?_
    refine sm_getR (k := 4) (pc' := 40) kX11 (by decide) mw399 dX11_takeMessage_37 rfl (fun x11 => ?_)
    refine sm_getRN (k := 2) (pc' := 43) kX3 (by decide) mw558 dX11_takeMessage_40 rfl (fun x12 => ?_)
    refine sm_ifnonnull (tgt := 48) (pc' := 46) dX11_takeMessage_43 (by decide) rfl ?_ ?_
    · refine sm_aload_n (i := 0) (j := 1) (pc' := 49) dX11_takeMessage_48 rfl rfl rfl ?_
      refine sm_getR (k := 5) (pc' := 52) kX11 (by decide) mw401 dX11_takeMessage_49 rfl (fun x13 => ?_)
      refine sm_aload_n (i := 0) (j := 1) (pc' := 53) dX11_takeMessage_52 rfl rfl rfl ?_
      refine sm_getR (k := 4) (pc' := 56) kX11 (by decide) mw399 dX11_takeMessage_53 rfl (fun x14 => ?_)
      refine sm_cVI (pc' := 59) (ci := 5) (st := []) (F := fun b => fX5_readBody b x14 h10) [vR x14] yY_yX5_readBody rfl mw559 mw560 mw561 (fun b => mX5_readBody l D aC B b x14 h10) rfl (by decide) (by decide) (by exact Nat.le_of_ble_eq_true rfl) rfl dX11_takeMessage_56 rfl (fun x15 h16 => ?_)
      refine sm_if_eq (tgt := 66) (pc' := 62) dX11_takeMessage_59 (by decide) rfl ?_ ?_
      · refine sm_iconst (v := (1 : Int32)) (pc' := 67) dX11_takeMessage_66 rfl (by decide) ?_
        exact sm_iret rfl dX11_takeMessage_67
      refine sm_iconst (v := (0 : Int32)) (pc' := 63) dX11_takeMessage_62 rfl (by decide) ?_
      refine sm_goto (pc' := 67) dX11_takeMessage_63 (by decide) ?_
      exact sm_iret rfl dX11_takeMessage_67
    refine sm_iconst (v := (3 : Int32)) (pc' := 47) dX11_takeMessage_46 rfl (by decide) ?_
    exact sm_iret rfl dX11_takeMessage_47
  refine sm_iload_n (i := 1) (j := 0) (pc' := 17) dX11_takeMessage_16 rfl rfl rfl ?_
  exact sm_iret rfl dX11_takeMessage_17
set_option maxRecDepth 100000 in
theorem mX11_takeMessage (l : Launch) (D : va_G) (aC : Nat → ClassId) (B : Nat) (a0 : Nat) (h : sm_H) : sm_M l D vwCl gAts aC B gTs gNs gOs yX11_takeMessage cX11_takeMessage 2 (some .int) 6 141 vlI [vR (some a0)] h (fX11_takeMessage a0 h) := sm_meth [vR (some a0)] yY_yX11_takeMessage gG gN (Nat.le_of_ble_eq_true rfl) rfl (sX11_takeMessage_0 l D aC B a0 h)
-- M:TreeAgent.countOne(I)V
noncomputable def fX11_countOne  (a0 : Nat) (a1 : Int32) (h : sm_H) : Option (Unit × sm_H) :=
  if a1 < 0 then (
    some ((), h)
  ) else
  (sm_R (sm_get h (some a0) 11 8)).bind fun x1 =>
  (sm_len h x1 0).bind fun x2 =>
  if x2 ≤ a1 then (
    some ((), h)
  ) else
  (sm_R (sm_get h (some a0) 11 8)).bind fun x3 =>
  (sm_aI h x3 0 a1).bind fun x4 =>
  (sm_sI h x3 0 a1 (x4 + (1 : Int32))).bind fun h5 =>
  some ((), h5)
set_option maxRecDepth 100000 in
set_option maxHeartbeats 4000000 in
theorem sX11_countOne_0 (l : Launch) (D : va_G) (aC : Nat → ClassId) (B : Nat)   (a0 : Nat) (a1 : Int32) (h : sm_H) : zS l D aC B cX11_countOne 2 RX11 0 0 none "countOne" vlU (fX11_countOne a0 a1 h) 0 [(0, vR (some a0)), (1, vI a1)] [] h := by
  unfold fX11_countOne
  refine sm_iload_n (i := 1) (j := 1) (pc' := 1) dX11_countOne_0 rfl rfl rfl ?_
  refine sm_if_lt (tgt := 23) (pc' := 4) dX11_countOne_1 (by decide) rfl ?_ ?_
  · exact sm_vret rfl dX11_countOne_23
  refine sm_iload_n (i := 1) (j := 1) (pc' := 5) dX11_countOne_4 rfl rfl rfl ?_
  refine sm_aload_n (i := 0) (j := 0) (pc' := 6) dX11_countOne_5 rfl rfl rfl ?_
  refine sm_getR (k := 8) (pc' := 9) kX11 (by decide) mw406 dX11_countOne_6 rfl (fun x1 => ?_)
  refine sm_alen (t := 0) (pc' := 10) rfl dX11_countOne_9 rfl (fun x2 => ?_)
  refine sm_icmp_ge (tgt := 23) (pc' := 13) dX11_countOne_10 (by decide) rfl ?_ ?_
  · exact sm_vret rfl dX11_countOne_23
  refine sm_aload_n (i := 0) (j := 0) (pc' := 14) dX11_countOne_13 rfl rfl rfl ?_
  refine sm_getR (k := 8) (pc' := 17) kX11 (by decide) mw406 dX11_countOne_14 rfl (fun x3 => ?_)
  refine sm_iload_n (i := 1) (j := 1) (pc' := 18) dX11_countOne_17 rfl rfl rfl ?_
  refine sm_dup2 (pc' := 19) rfl rfl dX11_countOne_18 rfl ?_
  refine sm_iald (t := 0) (pc' := 20) rfl dX11_countOne_19 rfl (fun x4 => ?_)
  refine sm_iconst (v := (1 : Int32)) (pc' := 21) dX11_countOne_20 rfl (by decide) ?_
  refine sm_iadd (pc' := 22) dX11_countOne_21 rfl ?_
  refine sm_iast (t := 0) (pc' := 23) rfl dX11_countOne_22 rfl (fun h5 => ?_)
  exact sm_vret rfl dX11_countOne_23
set_option maxRecDepth 100000 in
theorem mX11_countOne (l : Launch) (D : va_G) (aC : Nat → ClassId) (B : Nat) (a0 : Nat) (a1 : Int32) (h : sm_H) : sm_M l D vwCl gAts aC B gTs gNs gOs yX11_countOne cX11_countOne 2 none 0 0 vlU [vR (some a0), vI a1] h (fX11_countOne a0 a1 h) := sm_meth [vR (some a0), vI a1] yY_yX11_countOne gG gN (Nat.le_of_ble_eq_true rfl) rfl (sX11_countOne_0 l D aC B a0 a1 h)
-- M:TreeAgent.valueFor(LTreeAgent$Chain;)LTreeAgent$Value;
noncomputable def fX11_valueFor_79  (a0 : Nat) (a2 : Option Nat) (s0 : Option Nat) (h : sm_H) : Option (Option Nat × sm_H) :=
  if s0 = none then (
    (sm_R (sm_get h (some a0) 11 12)).bind fun x5 =>
    some (x5, h)
  ) else
  (sm_obj h a2 8).bind fun b4 =>
  sm_cb (fX8_tellsClock b4 h) fun x1 h2 =>
  if x1 = 0 then (
    some (s0, h2)
  ) else
  (sm_R (sm_get h2 (some a0) 11 10)).bind fun x3 =>
  some (x3, h2)
set_option maxRecDepth 100000 in
set_option maxHeartbeats 4000000 in
theorem sX11_valueFor_79 (l : Launch) (D : va_G) (aC : Nat → ClassId) (B : Nat)   (a0 : Nat) (a2 : Option Nat) (s0 : Option Nat) (h : sm_H) : zS l D aC B cX11_valueFor 6 RX11 3 68 (some (.object "TreeAgent$Value")) "valueFor" vlR (fX11_valueFor_79 a0 a2 s0 h) 79 [(0, vR (some a0)), (2, vR a2)] [vR s0] h := by
  unfold fX11_valueFor_79
  refine sm_astore (i := 5) (lv' := [(5, vR s0), (0, vR (some a0)), (2, vR a2)]) (pc' := 81) dX11_valueFor_79 rfl (by decide) rfl ?_
  refine sm_aload (i := 5) (j := 0) (pc' := 83) dX11_valueFor_81 rfl rfl ?_
  refine sm_ifnonnull (tgt := 91) (pc' := 86) dX11_valueFor_83 (by decide) rfl ?_ ?_
  · refine sm_aload_n (i := 2) (j := 2) (pc' := 92) dX11_valueFor_91 rfl rfl rfl ?_
    refine sm_cVI (pc' := 95) (ci := 8) (st := []) (F := fun b => fX8_tellsClock b h) [] yY_yX8_tellsClock rfl mw564 mw565 mw566 (fun b => mX8_tellsClock l D aC B b h) rfl (by decide) (by decide) (by exact Nat.le_of_ble_eq_true rfl) rfl dX11_valueFor_92 rfl (fun x1 h2 => ?_)
    refine sm_if_eq (tgt := 105) (pc' := 98) dX11_valueFor_95 (by decide) rfl ?_ ?_
    · refine sm_aload (i := 5) (j := 0) (pc' := 107) dX11_valueFor_105 rfl rfl ?_
      exact sm_aret rfl dX11_valueFor_107
    refine sm_aload_n (i := 0) (j := 1) (pc' := 99) dX11_valueFor_98 rfl rfl rfl ?_
    refine sm_getR (k := 10) (pc' := 102) kX11 (by decide) mw409 dX11_valueFor_99 rfl (fun x3 => ?_)
    refine sm_goto (pc' := 107) dX11_valueFor_102 (by decide) ?_
    exact sm_aret rfl dX11_valueFor_107
  refine sm_aload_n (i := 0) (j := 1) (pc' := 87) dX11_valueFor_86 rfl rfl rfl ?_
  refine sm_getR (k := 12) (pc' := 90) kX11 (by decide) mw411 dX11_valueFor_87 rfl (fun x5 => ?_)
  exact sm_aret rfl dX11_valueFor_90
noncomputable def fX11_valueFor  (a0 : Nat) (a1 : Option Nat) (h : sm_H) : Option (Option Nat × sm_H) :=
  (sm_R (sm_get h (some a0) 11 2)).bind fun x1 =>
  (sm_obj h x1 9).bind fun b27 =>
  sm_cb (fX9_thingFor b27 a1 h) fun x2 h3 =>
  (sm_R (sm_get h3 (some a0) 11 4)).bind fun x4 =>
  (sm_R (sm_get h3 x4 3 2)).bind fun x5 =>
  if x2 = none then (
    (sm_R (sm_get h3 (some a0) 11 11)).bind fun x6 =>
    some (x6, h3)
  ) else
  (sm_I (sm_get h3 x2 8 2)).bind fun x7 =>
  if x7 = 0 then (
    (sm_R (sm_get h3 (some a0) 11 11)).bind fun x8 =>
    some (x8, h3)
  ) else
  if x5 = none then (
    (sm_R (sm_get h3 (some a0) 11 11)).bind fun x9 =>
    some (x9, h3)
  ) else
  (sm_obj h3 x5 2).bind fun b26 =>
  sm_cb (fX2_shows b26 a1 h3) fun x10 h11 =>
  if x10 = 0 then (
    (sm_R (sm_get h11 (some a0) 11 11)).bind fun x25 =>
    some (x25, h11)
  ) else
  (sm_R (sm_get h11 x2 8 0)).bind fun x12 =>
  (sm_obj h11 x12 0).bind fun b24 =>
  sm_cb (fX0_size b24 h11) fun x13 h14 =>
  (sm_obj h14 a1 0).bind fun b23 =>
  sm_cb (fX0_size b23 h14) fun x15 h16 =>
  if x15 = (x13 + (1 : Int32)) then (
    (sm_obj h16 a1 0).bind fun b22 =>
    sm_cb (fX0_at b22 x13 h16) fun x17 h18 =>
    (sm_obj h18 x2 8).bind fun b21 =>
    sm_cb (fX8_cellFor b21 x17 h18) fun x19 h20 =>
    fX11_valueFor_79 a0 x2 x19 h20
  ) else
  fX11_valueFor_79 a0 x2 none h16
set_option maxRecDepth 100000 in
set_option maxHeartbeats 4000000 in
theorem sX11_valueFor_0 (l : Launch) (D : va_G) (aC : Nat → ClassId) (B : Nat)   (a0 : Nat) (a1 : Option Nat) (h : sm_H) : zS l D aC B cX11_valueFor 6 RX11 3 68 (some (.object "TreeAgent$Value")) "valueFor" vlR (fX11_valueFor a0 a1 h) 0 [(0, vR (some a0)), (1, vR a1)] [] h := by
  unfold fX11_valueFor
  refine sm_aload_n (i := 0) (j := 0) (pc' := 1) dX11_valueFor_0 rfl rfl rfl ?_
  refine sm_getR (k := 2) (pc' := 4) kX11 (by decide) mw395 dX11_valueFor_1 rfl (fun x1 => ?_)
  refine sm_aload_n (i := 1) (j := 1) (pc' := 5) dX11_valueFor_4 rfl rfl rfl ?_
  refine sm_cVR (pc' := 8) (ci := 9) (st := []) (F := fun b => fX9_thingFor b a1 h) [vR a1] yY_yX9_thingFor rfl mw567 mw112 mw113 (fun b => mX9_thingFor l D aC B b a1 h) rfl (by decide) (by decide) (by exact Nat.le_of_ble_eq_true rfl) rfl dX11_valueFor_5 rfl (fun x2 h3 => ?_)
  refine sm_astore_n (i := 2) (lv' := [(2, vR x2), (0, vR (some a0)), (1, vR a1)]) (pc' := 9) dX11_valueFor_8 rfl rfl (by decide) rfl ?_
  refine sm_aload_n (i := 0) (j := 1) (pc' := 10) dX11_valueFor_9 rfl rfl rfl ?_
  refine sm_getR (k := 4) (pc' := 13) kX11 (by decide) mw399 dX11_valueFor_10 rfl (fun x4 => ?_)
  refine sm_getRN (k := 2) (pc' := 16) kX3 (by decide) mw558 dX11_valueFor_13 rfl (fun x5 => ?_)
  refine sm_astore_n (i := 3) (lv' := [(3, vR x5), (2, vR x2), (0, vR (some a0)), (1, vR a1)]) (pc' := 17) dX11_valueFor_16 rfl rfl (by decide) rfl ?_
  refine sm_aload_n (i := 2) (j := 1) (pc' := 18) dX11_valueFor_17 rfl rfl rfl ?_
  refine sm_ifnull (tgt := 40) (pc' := 21) dX11_valueFor_18 (by decide) rfl ?_ ?_
  · refine sm_aload_n (i := 0) (j := 2) (pc' := 41) dX11_valueFor_40 rfl rfl rfl ?_
    refine sm_getR (k := 11) (pc' := 44) kX11 (by decide) mw410 dX11_valueFor_41 rfl (fun x6 => ?_)
    exact sm_aret rfl dX11_valueFor_44
  refine sm_aload_n (i := 2) (j := 1) (pc' := 22) dX11_valueFor_21 rfl rfl rfl ?_
  refine sm_getIN (k := 2) (pc' := 25) kX8 (by decide) mw568 dX11_valueFor_22 rfl (fun x7 => ?_)
  refine sm_if_eq (tgt := 40) (pc' := 28) dX11_valueFor_25 (by decide) rfl ?_ ?_
  · refine sm_aload_n (i := 0) (j := 2) (pc' := 41) dX11_valueFor_40 rfl rfl rfl ?_
    refine sm_getR (k := 11) (pc' := 44) kX11 (by decide) mw410 dX11_valueFor_41 rfl (fun x8 => ?_)
    exact sm_aret rfl dX11_valueFor_44
  refine sm_aload_n (i := 3) (j := 0) (pc' := 29) dX11_valueFor_28 rfl rfl rfl ?_
  refine sm_ifnull (tgt := 40) (pc' := 32) dX11_valueFor_29 (by decide) rfl ?_ ?_
  · refine sm_aload_n (i := 0) (j := 2) (pc' := 41) dX11_valueFor_40 rfl rfl rfl ?_
    refine sm_getR (k := 11) (pc' := 44) kX11 (by decide) mw410 dX11_valueFor_41 rfl (fun x9 => ?_)
    exact sm_aret rfl dX11_valueFor_44
  refine sm_aload_n (i := 3) (j := 0) (pc' := 33) dX11_valueFor_32 rfl rfl rfl ?_
  refine sm_aload_n (i := 1) (j := 3) (pc' := 34) dX11_valueFor_33 rfl rfl rfl ?_
  refine sm_cVI (pc' := 37) (ci := 2) (st := []) (F := fun b => fX2_shows b a1 h3) [vR a1] yY_yX2_shows rfl mw569 mw114 mw115 (fun b => mX2_shows l D aC B b a1 h3) rfl (by decide) (by decide) (by exact Nat.le_of_ble_eq_true rfl) rfl dX11_valueFor_34 rfl (fun x10 h11 => ?_)
  refine sm_if_ne (tgt := 45) (pc' := 40) dX11_valueFor_37 (by decide) rfl ?_ ?_
  · refine sm_aload_n (i := 2) (j := 1) (pc' := 46) dX11_valueFor_45 rfl rfl rfl ?_
    refine sm_getRN (k := 0) (pc' := 49) kX8 (by decide) mw570 dX11_valueFor_46 rfl (fun x12 => ?_)
    refine sm_cVI (pc' := 52) (ci := 0) (st := []) (F := fun b => fX0_size b h11) [] yY_yX0_size rfl mw436 mw32 mw33 (fun b => mX0_size l D aC B b h11) rfl (by decide) (by decide) (by exact Nat.le_of_ble_eq_true rfl) rfl dX11_valueFor_49 rfl (fun x13 h14 => ?_)
    refine sm_istore (i := 4) (lv' := [(4, vI x13), (3, vR x5), (2, vR x2), (0, vR (some a0)), (1, vR a1)]) (pc' := 54) dX11_valueFor_52 rfl (by decide) rfl ?_
    refine sm_aload_n (i := 1) (j := 4) (pc' := 55) dX11_valueFor_54 rfl rfl rfl ?_
    refine sm_cVI (pc' := 58) (ci := 0) (st := []) (F := fun b => fX0_size b h14) [] yY_yX0_size rfl mw436 mw32 mw33 (fun b => mX0_size l D aC B b h14) rfl (by decide) (by decide) (by exact Nat.le_of_ble_eq_true rfl) rfl dX11_valueFor_55 rfl (fun x15 h16 => ?_)
    refine sm_iload (i := 4) (j := 0) (pc' := 60) dX11_valueFor_58 rfl rfl ?_
    refine sm_iconst (v := (1 : Int32)) (pc' := 61) dX11_valueFor_60 rfl (by decide) ?_
    refine sm_iadd (pc' := 62) dX11_valueFor_61 rfl ?_
    refine sm_icmp_ne (tgt := 78) (pc' := 65) dX11_valueFor_62 (by decide) rfl ?_ ?_
    · refine sm_null (pc' := 79) dX11_valueFor_78 rfl ?_
      refine sm_lo (lv' := [(0, vR (some a0)), (2, vR x2)]) [3, 2] rfl ?_
      exact sX11_valueFor_79 l D aC B  a0 x2 none h16
    refine sm_aload_n (i := 2) (j := 2) (pc' := 66) dX11_valueFor_65 rfl rfl rfl ?_
    refine sm_aload_n (i := 1) (j := 4) (pc' := 67) dX11_valueFor_66 rfl rfl rfl ?_
    refine sm_iload (i := 4) (j := 0) (pc' := 69) dX11_valueFor_67 rfl rfl ?_
    refine sm_cVJ (pc' := 72) (ci := 0) (st := [vR x2]) (F := fun b => fX0_at b x13 h16) [vI x13] yY_yX0_at rfl mw571 mw15 mw16 (fun b => mX0_at l D aC B b x13 h16) rfl (by decide) (by decide) (by exact Nat.le_of_ble_eq_true rfl) rfl dX11_valueFor_69 rfl (fun x17 h18 => ?_)
    refine sm_cVR (pc' := 75) (ci := 8) (st := []) (F := fun b => fX8_cellFor b x17 h18) [vJ x17] yY_yX8_cellFor rfl mw511 mw152 mw153 (fun b => mX8_cellFor l D aC B b x17 h18) rfl (by decide) (by decide) (by exact Nat.le_of_ble_eq_true rfl) rfl dX11_valueFor_72 rfl (fun x19 h20 => ?_)
    refine sm_goto (pc' := 79) dX11_valueFor_75 (by decide) ?_
    refine sm_lo (lv' := [(0, vR (some a0)), (2, vR x2)]) [3, 2] rfl ?_
    exact sX11_valueFor_79 l D aC B  a0 x2 x19 h20
  refine sm_aload_n (i := 0) (j := 2) (pc' := 41) dX11_valueFor_40 rfl rfl rfl ?_
  refine sm_getR (k := 11) (pc' := 44) kX11 (by decide) mw410 dX11_valueFor_41 rfl (fun x25 => ?_)
  exact sm_aret rfl dX11_valueFor_44
set_option maxRecDepth 100000 in
theorem mX11_valueFor (l : Launch) (D : va_G) (aC : Nat → ClassId) (B : Nat) (a0 : Nat) (a1 : Option Nat) (h : sm_H) : sm_M l D vwCl gAts aC B gTs gNs gOs yX11_valueFor cX11_valueFor 6 (some (.object "TreeAgent$Value")) 3 68 vlR [vR (some a0), vR a1] h (fX11_valueFor a0 a1 h) := sm_meth [vR (some a0), vR a1] yY_yX11_valueFor gG gN (Nat.le_of_ble_eq_true rfl) rfl (sX11_valueFor_0 l D aC B a0 a1 h)
-- M:TreeAgent.tellValues()V
noncomputable def fX11_tellValues_65 (K2 : Nat → Int32 → sm_H → Option (Unit × sm_H)) (a0 : Nat) (a1 : Int32) (a2 : Option Nat) (a3 : Option Nat) (h : sm_H) : Option (Unit × sm_H) :=
  (sm_R (sm_get h (some a0) 11 7)).bind fun x1 =>
  (sm_R (sm_get h a2 4 0)).bind fun x2 =>
  (sm_obj h x1 6).bind fun b5 =>
  sm_cb (fX6_tell b5 x2 a3 h) fun _ h3 =>
  sm_let (a1 + (1 : Int32)) fun x4 =>
  K2 a0 x4 h3
set_option maxRecDepth 100000 in
set_option maxHeartbeats 4000000 in
theorem sX11_tellValues_65 (l : Launch) (D : va_G) (aC : Nat → ClassId) (B : Nat) (K2 : Nat → Int32 → sm_H → Option (Unit × sm_H)) (hK2 : ∀ (a0 : Nat) (a1 : Int32) (h : sm_H), zS l D aC B cX11_tellValues 4 RX11 5 108 none "tellValues" vlU (K2 a0 a1 h) 2 [(0, vR (some a0)), (1, vI a1)] [] h) (a0 : Nat) (a1 : Int32) (a2 : Option Nat) (a3 : Option Nat) (h : sm_H) : zS l D aC B cX11_tellValues 4 RX11 5 108 none "tellValues" vlU (fX11_tellValues_65 K2 a0 a1 a2 a3 h) 65 [(0, vR (some a0)), (1, vI a1), (2, vR a2), (3, vR a3)] [] h := by
  unfold fX11_tellValues_65
  refine sm_aload_n (i := 0) (j := 0) (pc' := 66) dX11_tellValues_65 rfl rfl rfl ?_
  refine sm_getR (k := 7) (pc' := 69) kX11 (by decide) mw405 dX11_tellValues_66 rfl (fun x1 => ?_)
  refine sm_aload_n (i := 2) (j := 2) (pc' := 70) dX11_tellValues_69 rfl rfl rfl ?_
  refine sm_getRN (k := 0) (pc' := 73) kX4 (by decide) mw572 dX11_tellValues_70 rfl (fun x2 => ?_)
  refine sm_aload_n (i := 3) (j := 3) (pc' := 74) dX11_tellValues_73 rfl rfl rfl ?_
  refine sm_cVU (pc' := 77) (ci := 6) (st := []) (F := fun b => fX6_tell b x2 a3 h) [vR x2, vR a3] yY_yX6_tell rfl mw573 mw306 mw307 (fun b => mX6_tell l D aC B b x2 a3 h) rfl (by decide) (by decide) (by exact Nat.le_of_ble_eq_true rfl) rfl dX11_tellValues_74 rfl (fun _ h3 => ?_)
  refine sm_iincL (i := 1) (j := 1) (x := a1) (d := (1 : Int32)) (fun x4 => [(1, vI x4), (0, vR (some a0)), (2, vR a2), (3, vR a3)]) (pc' := 80) dX11_tellValues_77 rfl rfl (by decide) (by decide) (fun _ => rfl) (fun x4 => ?_)
  refine sm_goto (pc' := 2) dX11_tellValues_80 (by decide) ?_
  refine sm_lo (lv' := [(0, vR (some a0)), (1, vI x4)]) [1, 0] rfl ?_
  exact hK2 a0 x4 h3
noncomputable def fX11_tellValues_2  : Nat → Nat → Int32 → sm_H → Option (Unit × sm_H)
  | 0 => fun _ _ _ => none
  | n + 1 => fun a0 a1 h =>
    (sm_R (sm_get h (some a0) 11 4)).bind fun x1 =>
    (sm_I (sm_get h x1 3 8)).bind fun x2 =>
    if x2 ≤ a1 then (
      some ((), h)
    ) else
    (sm_R (sm_get h (some a0) 11 4)).bind fun x3 =>
    (sm_obj h x3 3).bind fun b18 =>
    sm_cb (fX3_pairAt b18 a1 h) fun x4 h5 =>
    if x4 = none then (
      some ((), h5)
    ) else
    (sm_R (sm_get h5 x4 4 0)).bind fun x6 =>
    (sm_obj h5 (some a0) 11).bind fun b17 =>
    sm_cb (fX11_valueFor b17 x6 h5) fun x7 h8 =>
    (sm_R (sm_get h8 (some a0) 11 4)).bind fun x9 =>
    (sm_I (sm_get h8 x9 3 3)).bind fun x10 =>
    if x10 = 0 then (
      (sm_obj h8 x7 10).bind fun b16 =>
      sm_cb (fX10_isMissing b16 h8) fun x11 h12 =>
      if x11 = 0 then (
        fX11_tellValues_65 (fX11_tellValues_2 n) a0 a1 x4 x7 h12
      ) else
      (sm_R (sm_get h12 (some a0) 11 7)).bind fun x13 =>
      (sm_obj h12 x13 6).bind fun b15 =>
      sm_cb (fX6_fail b15 (2 : Int32) (a1 + (1 : Int32)) h12) fun _ h14 =>
      some ((), h14)
    ) else
    fX11_tellValues_65 (fX11_tellValues_2 n) a0 a1 x4 x7 h8
set_option maxRecDepth 100000 in
set_option maxHeartbeats 4000000 in
theorem sX11_tellValues_2 (l : Launch) (D : va_G) (aC : Nat → ClassId) (B : Nat)   (n : Nat) : ∀ (a0 : Nat) (a1 : Int32) (h : sm_H), zS l D aC B cX11_tellValues 4 RX11 5 108 none "tellValues" vlU (fX11_tellValues_2 n a0 a1 h) 2 [(0, vR (some a0)), (1, vI a1)] [] h := by
  induction n with
  | zero => intro a0 a1 h; exact sm_none
  | succ n ih =>
    intro a0 a1 h
    show zS l D aC B cX11_tellValues 4 RX11 5 108 none "tellValues" vlU (fX11_tellValues_2 (n + 1) a0 a1 h) 2 [(0, vR (some a0)), (1, vI a1)] [] h
    unfold fX11_tellValues_2
    refine sm_iload_n (i := 1) (j := 1) (pc' := 3) dX11_tellValues_2 rfl rfl rfl ?_
    refine sm_aload_n (i := 0) (j := 0) (pc' := 4) dX11_tellValues_3 rfl rfl rfl ?_
    refine sm_getR (k := 4) (pc' := 7) kX11 (by decide) mw399 dX11_tellValues_4 rfl (fun x1 => ?_)
    refine sm_getIN (k := 8) (pc' := 10) kX3 (by decide) mw574 dX11_tellValues_7 rfl (fun x2 => ?_)
    refine sm_icmp_ge (tgt := 83) (pc' := 13) dX11_tellValues_10 (by decide) rfl ?_ ?_
    · exact sm_vret rfl dX11_tellValues_83
    refine sm_aload_n (i := 0) (j := 0) (pc' := 14) dX11_tellValues_13 rfl rfl rfl ?_
    refine sm_getR (k := 4) (pc' := 17) kX11 (by decide) mw399 dX11_tellValues_14 rfl (fun x3 => ?_)
    refine sm_iload_n (i := 1) (j := 1) (pc' := 18) dX11_tellValues_17 rfl rfl rfl ?_
    refine sm_cVR (pc' := 21) (ci := 3) (st := []) (F := fun b => fX3_pairAt b a1 h) [vI a1] yY_yX3_pairAt rfl mw575 mw78 mw79 (fun b => mX3_pairAt l D aC B b a1 h) rfl (by decide) (by decide) (by exact Nat.le_of_ble_eq_true rfl) rfl dX11_tellValues_18 rfl (fun x4 h5 => ?_)
    refine sm_astore_n (i := 2) (lv' := [(2, vR x4), (0, vR (some a0)), (1, vI a1)]) (pc' := 22) dX11_tellValues_21 rfl rfl (by decide) rfl ?_
    refine sm_aload_n (i := 2) (j := 0) (pc' := 23) dX11_tellValues_22 rfl rfl rfl ?_
    refine sm_ifnonnull (tgt := 27) (pc' := 26) dX11_tellValues_23 (by decide) rfl ?_ ?_
    · refine sm_aload_n (i := 0) (j := 1) (pc' := 28) dX11_tellValues_27 rfl rfl rfl ?_
      refine sm_aload_n (i := 2) (j := 0) (pc' := 29) dX11_tellValues_28 rfl rfl rfl ?_
      refine sm_getRN (k := 0) (pc' := 32) kX4 (by decide) mw572 dX11_tellValues_29 rfl (fun x6 => ?_)
      refine sm_cVR (pc' := 35) (ci := 11) (st := []) (F := fun b => fX11_valueFor b x6 h5) [vR x6] yY_yX11_valueFor rfl mw576 mw582 mw583 (fun b => mX11_valueFor l D aC B b x6 h5) rfl (by decide) (by decide) (by exact Nat.le_of_ble_eq_true rfl) rfl dX11_tellValues_32 rfl (fun x7 h8 => ?_)
      refine sm_astore_n (i := 3) (lv' := [(3, vR x7), (2, vR x4), (0, vR (some a0)), (1, vI a1)]) (pc' := 36) dX11_tellValues_35 rfl rfl (by decide) rfl ?_
      refine sm_aload_n (i := 0) (j := 2) (pc' := 37) dX11_tellValues_36 rfl rfl rfl ?_
      refine sm_getR (k := 4) (pc' := 40) kX11 (by decide) mw399 dX11_tellValues_37 rfl (fun x9 => ?_)
      refine sm_getIN (k := 3) (pc' := 43) kX3 (by decide) mw577 dX11_tellValues_40 rfl (fun x10 => ?_)
      refine sm_if_ne (tgt := 65) (pc' := 46) dX11_tellValues_43 (by decide) rfl ?_ ?_
      · refine sm_lo (lv' := [(0, vR (some a0)), (1, vI a1), (2, vR x4), (3, vR x7)]) [2, 3, 1, 0] rfl ?_
        exact sX11_tellValues_65 l D aC B  (fX11_tellValues_2 n) ih a0 a1 x4 x7 h8
      refine sm_aload_n (i := 3) (j := 0) (pc' := 47) dX11_tellValues_46 rfl rfl rfl ?_
      refine sm_cVI (pc' := 50) (ci := 10) (st := []) (F := fun b => fX10_isMissing b h8) [] yY_yX10_isMissing rfl mw578 mw580 mw581 (fun b => mX10_isMissing l D aC B b h8) rfl (by decide) (by decide) (by exact Nat.le_of_ble_eq_true rfl) rfl dX11_tellValues_47 rfl (fun x11 h12 => ?_)
      refine sm_if_eq (tgt := 65) (pc' := 53) dX11_tellValues_50 (by decide) rfl ?_ ?_
      · refine sm_lo (lv' := [(0, vR (some a0)), (1, vI a1), (2, vR x4), (3, vR x7)]) [2, 3, 1, 0] rfl ?_
        exact sX11_tellValues_65 l D aC B  (fX11_tellValues_2 n) ih a0 a1 x4 x7 h12
      refine sm_aload_n (i := 0) (j := 2) (pc' := 54) dX11_tellValues_53 rfl rfl rfl ?_
      refine sm_getR (k := 7) (pc' := 57) kX11 (by decide) mw405 dX11_tellValues_54 rfl (fun x13 => ?_)
      refine sm_iconst (v := (2 : Int32)) (pc' := 58) dX11_tellValues_57 rfl (by decide) ?_
      refine sm_iload_n (i := 1) (j := 3) (pc' := 59) dX11_tellValues_58 rfl rfl rfl ?_
      refine sm_iconst (v := (1 : Int32)) (pc' := 60) dX11_tellValues_59 rfl (by decide) ?_
      refine sm_iadd (pc' := 61) dX11_tellValues_60 rfl ?_
      refine sm_cVU (pc' := 64) (ci := 6) (st := []) (F := fun b => fX6_fail b (2 : Int32) (a1 + (1 : Int32)) h12) [vI (2 : Int32), vI (a1 + (1 : Int32))] yY_yX6_fail rfl mw579 mw280 mw281 (fun b => mX6_fail l D aC B b (2 : Int32) (a1 + (1 : Int32)) h12) rfl (by decide) (by decide) (by exact Nat.le_of_ble_eq_true rfl) rfl dX11_tellValues_61 rfl (fun _ h14 => ?_)
      exact sm_vret rfl dX11_tellValues_64
    exact sm_vret rfl dX11_tellValues_26
noncomputable def fX11_tellValues  (a0 : Nat) (h : sm_H) : Option (Unit × sm_H) :=
  fX11_tellValues_2 sm_fuel a0 (0 : Int32) h
set_option maxRecDepth 100000 in
set_option maxHeartbeats 4000000 in
theorem sX11_tellValues_0 (l : Launch) (D : va_G) (aC : Nat → ClassId) (B : Nat)   (a0 : Nat) (h : sm_H) : zS l D aC B cX11_tellValues 4 RX11 5 108 none "tellValues" vlU (fX11_tellValues a0 h) 0 [(0, vR (some a0))] [] h := by
  unfold fX11_tellValues
  refine sm_iconst (v := (0 : Int32)) (pc' := 1) dX11_tellValues_0 rfl (by decide) ?_
  refine sm_istore_n (i := 1) (lv' := [(1, vI (0 : Int32)), (0, vR (some a0))]) (pc' := 2) dX11_tellValues_1 rfl rfl (by decide) rfl ?_
  refine sm_lo (lv' := [(0, vR (some a0)), (1, vI (0 : Int32))]) [1, 0] rfl ?_
  exact sX11_tellValues_2 l D aC B   sm_fuel a0 (0 : Int32) h
set_option maxRecDepth 100000 in
theorem mX11_tellValues (l : Launch) (D : va_G) (aC : Nat → ClassId) (B : Nat) (a0 : Nat) (h : sm_H) : sm_M l D vwCl gAts aC B gTs gNs gOs yX11_tellValues cX11_tellValues 4 none 5 108 vlU [vR (some a0)] h (fX11_tellValues a0 h) := sm_meth [vR (some a0)] yY_yX11_tellValues gG gN (Nat.le_of_ble_eq_true rfl) rfl (sX11_tellValues_0 l D aC B a0 h)
-- M:TreeAgent.nextOf(LTreeAgent$Thing;LTreeAgent$Chain;)LTreeAgent$Value;
noncomputable def fX11_nextOf_22  : Nat → Nat → Option Nat → Option Nat → Int64 → Int32 → sm_H → Option (Option Nat × sm_H)
  | 0 => fun _ _ _ _ _ _ => none
  | n + 1 => fun a0 a1 a3 a4 a6 h =>
    if (16 : Int32) ≤ a6 then (
      some (none, h)
    ) else
    if (lg_cmp a4 (0 : Int64)) < 0 then (
      some (none, h)
    ) else
    if a3 = none then (
      some (none, h)
    ) else
    (sm_R (sm_get h (some a0) 11 9)).bind fun x1 =>
    (sm_R (sm_get h a1 8 0)).bind fun x2 =>
    (sm_obj h x1 0).bind fun b23 =>
    sm_cb (fX0_copy b23 x2 h) fun _ h3 =>
    (sm_R (sm_get h3 (some a0) 11 9)).bind fun x4 =>
    (sm_obj h3 x4 0).bind fun b22 =>
    sm_cb (fX0_add b22 a4 h3) fun x5 h6 =>
    (sm_R (sm_get h6 (some a0) 11 9)).bind fun x7 =>
    (sm_obj h6 a3 2).bind fun b21 =>
    sm_cb (fX2_shows b21 x7 h6) fun x8 h9 =>
    if x8 = 0 then (
      (sm_obj h9 a1 8).bind fun b13 =>
      sm_cb (fX8_indexAbove b13 a4 h9) fun x10 h11 =>
      sm_let (a6 + (1 : Int32)) fun x12 =>
      (fX11_nextOf_22 n) a0 a1 a3 x10 x12 h11
    ) else
    (sm_obj h9 a1 8).bind fun b20 =>
    sm_cb (fX8_tellsClock b20 h9) fun x14 h15 =>
    if x14 = 0 then (
      (sm_obj h15 a1 8).bind fun b18 =>
      sm_cb (fX8_cellFor b18 a4 h15) fun x16 h17 =>
      some (x16, h17)
    ) else
    (sm_R (sm_get h15 (some a0) 11 10)).bind fun x19 =>
    some (x19, h15)
set_option maxRecDepth 100000 in
set_option maxHeartbeats 4000000 in
theorem sX11_nextOf_22 (l : Launch) (D : va_G) (aC : Nat → ClassId) (B : Nat)   (n : Nat) : ∀ (a0 : Nat) (a1 : Option Nat) (a3 : Option Nat) (a4 : Int64) (a6 : Int32) (h : sm_H), zS l D aC B cX11_nextOf 7 RX11 3 68 (some (.object "TreeAgent$Value")) "nextOf" vlR (fX11_nextOf_22 n a0 a1 a3 a4 a6 h) 22 [(0, vR (some a0)), (1, vR a1), (3, vR a3), (4, vJ a4), (6, vI a6)] [] h := by
  induction n with
  | zero => intro a0 a1 a3 a4 a6 h; exact sm_none
  | succ n ih =>
    intro a0 a1 a3 a4 a6 h
    show zS l D aC B cX11_nextOf 7 RX11 3 68 (some (.object "TreeAgent$Value")) "nextOf" vlR (fX11_nextOf_22 (n + 1) a0 a1 a3 a4 a6 h) 22 [(0, vR (some a0)), (1, vR a1), (3, vR a3), (4, vJ a4), (6, vI a6)] [] h
    unfold fX11_nextOf_22
    refine sm_iload (i := 6) (j := 4) (pc' := 24) dX11_nextOf_22 rfl rfl ?_
    refine sm_bipush (v := (16 : Int32)) (pc' := 26) dX11_nextOf_24 rfl (by decide) ?_
    refine sm_icmp_ge (tgt := 107) (pc' := 29) dX11_nextOf_26 (by decide) rfl ?_ ?_
    · refine sm_null (pc' := 108) dX11_nextOf_107 rfl ?_
      exact sm_aret rfl dX11_nextOf_108
    refine sm_lload (i := 4) (j := 3) (pc' := 31) dX11_nextOf_29 rfl rfl ?_
    refine sm_lconst (v := (0 : Int64)) (pc' := 32) dX11_nextOf_31 rfl (by decide) ?_
    refine sm_lcmp (pc' := 33) dX11_nextOf_32 rfl ?_
    refine sm_if_lt (tgt := 107) (pc' := 36) dX11_nextOf_33 (by decide) rfl ?_ ?_
    · refine sm_null (pc' := 108) dX11_nextOf_107 rfl ?_
      exact sm_aret rfl dX11_nextOf_108
    refine sm_aload_n (i := 3) (j := 2) (pc' := 37) dX11_nextOf_36 rfl rfl rfl ?_
    refine sm_ifnull (tgt := 107) (pc' := 40) dX11_nextOf_37 (by decide) rfl ?_ ?_
    · refine sm_null (pc' := 108) dX11_nextOf_107 rfl ?_
      exact sm_aret rfl dX11_nextOf_108
    refine sm_aload_n (i := 0) (j := 0) (pc' := 41) dX11_nextOf_40 rfl rfl rfl ?_
    refine sm_getR (k := 9) (pc' := 44) kX11 (by decide) mw407 dX11_nextOf_41 rfl (fun x1 => ?_)
    refine sm_aload_n (i := 1) (j := 1) (pc' := 45) dX11_nextOf_44 rfl rfl rfl ?_
    refine sm_getRN (k := 0) (pc' := 48) kX8 (by decide) mw570 dX11_nextOf_45 rfl (fun x2 => ?_)
    refine sm_cVU (pc' := 51) (ci := 0) (st := []) (F := fun b => fX0_copy b x2 h) [vR x2] yY_yX0_copy rfl mw490 mw142 mw143 (fun b => mX0_copy l D aC B b x2 h) rfl (by decide) (by decide) (by exact Nat.le_of_ble_eq_true rfl) rfl dX11_nextOf_48 rfl (fun _ h3 => ?_)
    refine sm_aload_n (i := 0) (j := 0) (pc' := 52) dX11_nextOf_51 rfl rfl rfl ?_
    refine sm_getR (k := 9) (pc' := 55) kX11 (by decide) mw407 dX11_nextOf_52 rfl (fun x4 => ?_)
    refine sm_lload (i := 4) (j := 3) (pc' := 57) dX11_nextOf_55 rfl rfl ?_
    refine sm_cVI (pc' := 60) (ci := 0) (st := []) (F := fun b => fX0_add b a4 h3) [vJ a4] yY_yX0_add rfl mw438 mw13 mw14 (fun b => mX0_add l D aC B b a4 h3) rfl (by decide) (by decide) (by exact Nat.le_of_ble_eq_true rfl) rfl dX11_nextOf_57 rfl (fun x5 h6 => ?_)
    refine sm_pop (pc' := 61) rfl dX11_nextOf_60 rfl ?_
    refine sm_aload_n (i := 3) (j := 2) (pc' := 62) dX11_nextOf_61 rfl rfl rfl ?_
    refine sm_aload_n (i := 0) (j := 0) (pc' := 63) dX11_nextOf_62 rfl rfl rfl ?_
    refine sm_getR (k := 9) (pc' := 66) kX11 (by decide) mw407 dX11_nextOf_63 rfl (fun x7 => ?_)
    refine sm_cVI (pc' := 69) (ci := 2) (st := []) (F := fun b => fX2_shows b x7 h6) [vR x7] yY_yX2_shows rfl mw569 mw114 mw115 (fun b => mX2_shows l D aC B b x7 h6) rfl (by decide) (by decide) (by exact Nat.le_of_ble_eq_true rfl) rfl dX11_nextOf_66 rfl (fun x8 h9 => ?_)
    refine sm_if_eq (tgt := 93) (pc' := 72) dX11_nextOf_69 (by decide) rfl ?_ ?_
    · refine sm_aload_n (i := 1) (j := 1) (pc' := 94) dX11_nextOf_93 rfl rfl rfl ?_
      refine sm_lload (i := 4) (j := 3) (pc' := 96) dX11_nextOf_94 rfl rfl ?_
      refine sm_cVJ (pc' := 99) (ci := 8) (st := []) (F := fun b => fX8_indexAbove b a4 h9) [vJ a4] yY_yX8_indexAbove rfl mw584 mw585 mw586 (fun b => mX8_indexAbove l D aC B b a4 h9) rfl (by decide) (by decide) (by exact Nat.le_of_ble_eq_true rfl) rfl dX11_nextOf_96 rfl (fun x10 h11 => ?_)
      refine sm_lstore (i := 4) (lv' := [(4, vJ x10), (0, vR (some a0)), (1, vR a1), (3, vR a3), (6, vI a6)]) (pc' := 101) dX11_nextOf_99 rfl (by decide) rfl ?_
      refine sm_iincL (i := 6) (j := 4) (x := a6) (d := (1 : Int32)) (fun x12 => [(6, vI x12), (4, vJ x10), (0, vR (some a0)), (1, vR a1), (3, vR a3)]) (pc' := 104) dX11_nextOf_101 rfl rfl (by decide) (by decide) (fun _ => rfl) (fun x12 => ?_)
      refine sm_goto (pc' := 22) dX11_nextOf_104 (by decide) ?_
      refine sm_lo (lv' := [(0, vR (some a0)), (1, vR a1), (3, vR a3), (4, vJ x10), (6, vI x12)]) [2, 3, 4, 1, 0] rfl ?_
      exact ih a0 a1 a3 x10 x12 h11
    refine sm_aload_n (i := 1) (j := 1) (pc' := 73) dX11_nextOf_72 rfl rfl rfl ?_
    refine sm_cVI (pc' := 76) (ci := 8) (st := []) (F := fun b => fX8_tellsClock b h9) [] yY_yX8_tellsClock rfl mw564 mw565 mw566 (fun b => mX8_tellsClock l D aC B b h9) rfl (by decide) (by decide) (by exact Nat.le_of_ble_eq_true rfl) rfl dX11_nextOf_73 rfl (fun x14 h15 => ?_)
    refine sm_if_eq (tgt := 86) (pc' := 79) dX11_nextOf_76 (by decide) rfl ?_ ?_
    · refine sm_aload_n (i := 1) (j := 1) (pc' := 87) dX11_nextOf_86 rfl rfl rfl ?_
      refine sm_lload (i := 4) (j := 3) (pc' := 89) dX11_nextOf_87 rfl rfl ?_
      refine sm_cVR (pc' := 92) (ci := 8) (st := []) (F := fun b => fX8_cellFor b a4 h15) [vJ a4] yY_yX8_cellFor rfl mw511 mw152 mw153 (fun b => mX8_cellFor l D aC B b a4 h15) rfl (by decide) (by decide) (by exact Nat.le_of_ble_eq_true rfl) rfl dX11_nextOf_89 rfl (fun x16 h17 => ?_)
      exact sm_aret rfl dX11_nextOf_92
    refine sm_aload_n (i := 0) (j := 0) (pc' := 80) dX11_nextOf_79 rfl rfl rfl ?_
    refine sm_getR (k := 10) (pc' := 83) kX11 (by decide) mw409 dX11_nextOf_80 rfl (fun x19 => ?_)
    refine sm_goto (pc' := 92) dX11_nextOf_83 (by decide) ?_
    exact sm_aret rfl dX11_nextOf_92
noncomputable def fX11_nextOf  (a0 : Nat) (a1 : Option Nat) (a2 : Option Nat) (h : sm_H) : Option (Option Nat × sm_H) :=
  (sm_R (sm_get h (some a0) 11 4)).bind fun x1 =>
  (sm_R (sm_get h x1 3 2)).bind fun x2 =>
  (sm_obj h a1 8).bind fun b8 =>
  sm_cb (fX8_passedBy b8 a2 h) fun x3 h4 =>
  (sm_obj h4 a1 8).bind fun b7 =>
  sm_cb (fX8_indexAbove b7 x3 h4) fun x5 h6 =>
  fX11_nextOf_22 sm_fuel a0 a1 x2 x5 (0 : Int32) h6
set_option maxRecDepth 100000 in
set_option maxHeartbeats 4000000 in
theorem sX11_nextOf_0 (l : Launch) (D : va_G) (aC : Nat → ClassId) (B : Nat)   (a0 : Nat) (a1 : Option Nat) (a2 : Option Nat) (h : sm_H) : zS l D aC B cX11_nextOf 7 RX11 3 68 (some (.object "TreeAgent$Value")) "nextOf" vlR (fX11_nextOf a0 a1 a2 h) 0 [(0, vR (some a0)), (1, vR a1), (2, vR a2)] [] h := by
  unfold fX11_nextOf
  refine sm_aload_n (i := 0) (j := 0) (pc' := 1) dX11_nextOf_0 rfl rfl rfl ?_
  refine sm_getR (k := 4) (pc' := 4) kX11 (by decide) mw399 dX11_nextOf_1 rfl (fun x1 => ?_)
  refine sm_getRN (k := 2) (pc' := 7) kX3 (by decide) mw558 dX11_nextOf_4 rfl (fun x2 => ?_)
  refine sm_astore_n (i := 3) (lv' := [(3, vR x2), (0, vR (some a0)), (1, vR a1), (2, vR a2)]) (pc' := 8) dX11_nextOf_7 rfl rfl (by decide) rfl ?_
  refine sm_aload_n (i := 1) (j := 2) (pc' := 9) dX11_nextOf_8 rfl rfl rfl ?_
  refine sm_aload_n (i := 1) (j := 2) (pc' := 10) dX11_nextOf_9 rfl rfl rfl ?_
  refine sm_aload_n (i := 2) (j := 3) (pc' := 11) dX11_nextOf_10 rfl rfl rfl ?_
  refine sm_cVJ (pc' := 14) (ci := 8) (st := [vR a1]) (F := fun b => fX8_passedBy b a2 h) [vR a2] yY_yX8_passedBy rfl mw587 mw588 mw589 (fun b => mX8_passedBy l D aC B b a2 h) rfl (by decide) (by decide) (by exact Nat.le_of_ble_eq_true rfl) rfl dX11_nextOf_11 rfl (fun x3 h4 => ?_)
  refine sm_cVJ (pc' := 17) (ci := 8) (st := []) (F := fun b => fX8_indexAbove b x3 h4) [vJ x3] yY_yX8_indexAbove rfl mw584 mw585 mw586 (fun b => mX8_indexAbove l D aC B b x3 h4) rfl (by decide) (by decide) (by exact Nat.le_of_ble_eq_true rfl) rfl dX11_nextOf_14 rfl (fun x5 h6 => ?_)
  refine sm_lstore (i := 4) (lv' := [(4, vJ x5), (3, vR x2), (0, vR (some a0)), (1, vR a1), (2, vR a2)]) (pc' := 19) dX11_nextOf_17 rfl (by decide) rfl ?_
  refine sm_iconst (v := (0 : Int32)) (pc' := 20) dX11_nextOf_19 rfl (by decide) ?_
  refine sm_istore (i := 6) (lv' := [(6, vI (0 : Int32)), (4, vJ x5), (3, vR x2), (0, vR (some a0)), (1, vR a1), (2, vR a2)]) (pc' := 22) dX11_nextOf_20 rfl (by decide) rfl ?_
  refine sm_lo (lv' := [(0, vR (some a0)), (1, vR a1), (3, vR x2), (4, vJ x5), (6, vI (0 : Int32))]) [3, 4, 2, 1, 0] rfl ?_
  exact sX11_nextOf_22 l D aC B   sm_fuel a0 a1 x2 x5 (0 : Int32) h6
set_option maxRecDepth 100000 in
theorem mX11_nextOf (l : Launch) (D : va_G) (aC : Nat → ClassId) (B : Nat) (a0 : Nat) (a1 : Option Nat) (a2 : Option Nat) (h : sm_H) : sm_M l D vwCl gAts aC B gTs gNs gOs yX11_nextOf cX11_nextOf 7 (some (.object "TreeAgent$Value")) 3 68 vlR [vR (some a0), vR a1, vR a2] h (fX11_nextOf a0 a1 a2 h) := sm_meth [vR (some a0), vR a1, vR a2] yY_yX11_nextOf gG gN (Nat.le_of_ble_eq_true rfl) rfl (sX11_nextOf_0 l D aC B a0 a1 a2 h)
-- M:TreeAgent.nextAfter(LTreeAgent$Chain;)LTreeAgent$Value;
noncomputable def fX11_nextAfter_43 (K2 : Nat → Option Nat → Int32 → sm_H → Option (Option Nat × sm_H)) (a0 : Nat) (a1 : Option Nat) (a2 : Int32) (s0 : Option Nat) (h : sm_H) : Option (Option Nat × sm_H) :=
  if s0 = none then (
    sm_let (a2 + (1 : Int32)) fun x1 =>
    K2 a0 a1 x1 h
  ) else
  some (s0, h)
set_option maxRecDepth 100000 in
set_option maxHeartbeats 4000000 in
theorem sX11_nextAfter_43 (l : Launch) (D : va_G) (aC : Nat → ClassId) (B : Nat) (K2 : Nat → Option Nat → Int32 → sm_H → Option (Option Nat × sm_H)) (hK2 : ∀ (a0 : Nat) (a1 : Option Nat) (a2 : Int32) (h : sm_H), zS l D aC B cX11_nextAfter 5 RX11 4 94 (some (.object "TreeAgent$Value")) "nextAfter" vlR (K2 a0 a1 a2 h) 2 [(0, vR (some a0)), (1, vR a1), (2, vI a2)] [] h) (a0 : Nat) (a1 : Option Nat) (a2 : Int32) (s0 : Option Nat) (h : sm_H) : zS l D aC B cX11_nextAfter 5 RX11 4 94 (some (.object "TreeAgent$Value")) "nextAfter" vlR (fX11_nextAfter_43 K2 a0 a1 a2 s0 h) 43 [(0, vR (some a0)), (1, vR a1), (2, vI a2)] [vR s0] h := by
  unfold fX11_nextAfter_43
  refine sm_astore (i := 4) (lv' := [(4, vR s0), (0, vR (some a0)), (1, vR a1), (2, vI a2)]) (pc' := 45) dX11_nextAfter_43 rfl (by decide) rfl ?_
  refine sm_aload (i := 4) (j := 0) (pc' := 47) dX11_nextAfter_45 rfl rfl ?_
  refine sm_ifnull (tgt := 53) (pc' := 50) dX11_nextAfter_47 (by decide) rfl ?_ ?_
  · refine sm_iincL (i := 2) (j := 3) (x := a2) (d := (1 : Int32)) (fun x1 => [(2, vI x1), (4, vR s0), (0, vR (some a0)), (1, vR a1)]) (pc' := 56) dX11_nextAfter_53 rfl rfl (by decide) (by decide) (fun _ => rfl) (fun x1 => ?_)
    refine sm_goto (pc' := 2) dX11_nextAfter_56 (by decide) ?_
    refine sm_lo (lv' := [(0, vR (some a0)), (1, vR a1), (2, vI x1)]) [2, 3, 0] rfl ?_
    exact hK2 a0 a1 x1 h
  refine sm_aload (i := 4) (j := 0) (pc' := 52) dX11_nextAfter_50 rfl rfl ?_
  exact sm_aret rfl dX11_nextAfter_52
noncomputable def fX11_nextAfter_2  : Nat → Nat → Option Nat → Int32 → sm_H → Option (Option Nat × sm_H)
  | 0 => fun _ _ _ _ => none
  | n + 1 => fun a0 a1 a2 h =>
    (sm_R (sm_get h (some a0) 11 2)).bind fun x1 =>
    (sm_obj h x1 9).bind fun b16 =>
    sm_cb (fX9_thingCount b16 h) fun x2 h3 =>
    if x2 ≤ a2 then (
      (sm_R (sm_get h3 (some a0) 11 9)).bind fun x4 =>
      (sm_obj h3 x4 0).bind fun b7 =>
      sm_cb (fX0_copy b7 a1 h3) fun _ h5 =>
      (sm_R (sm_get h5 (some a0) 11 13)).bind fun x6 =>
      some (x6, h5)
    ) else
    (sm_R (sm_get h3 (some a0) 11 2)).bind fun x8 =>
    (sm_obj h3 x8 9).bind fun b15 =>
    sm_cb (fX9_thingInOrder b15 a2 h3) fun x9 h10 =>
    if x9 = none then (
      fX11_nextAfter_43 (fX11_nextAfter_2 n) a0 a1 a2 none h10
    ) else
    (sm_I (sm_get h10 x9 8 2)).bind fun x11 =>
    if x11 = 0 then (
      fX11_nextAfter_43 (fX11_nextAfter_2 n) a0 a1 a2 none h10
    ) else
    (sm_obj h10 (some a0) 11).bind fun b14 =>
    sm_cb (fX11_nextOf b14 x9 a1 h10) fun x12 h13 =>
    fX11_nextAfter_43 (fX11_nextAfter_2 n) a0 a1 a2 x12 h13
set_option maxRecDepth 100000 in
set_option maxHeartbeats 4000000 in
theorem sX11_nextAfter_2 (l : Launch) (D : va_G) (aC : Nat → ClassId) (B : Nat)   (n : Nat) : ∀ (a0 : Nat) (a1 : Option Nat) (a2 : Int32) (h : sm_H), zS l D aC B cX11_nextAfter 5 RX11 4 94 (some (.object "TreeAgent$Value")) "nextAfter" vlR (fX11_nextAfter_2 n a0 a1 a2 h) 2 [(0, vR (some a0)), (1, vR a1), (2, vI a2)] [] h := by
  induction n with
  | zero => intro a0 a1 a2 h; exact sm_none
  | succ n ih =>
    intro a0 a1 a2 h
    show zS l D aC B cX11_nextAfter 5 RX11 4 94 (some (.object "TreeAgent$Value")) "nextAfter" vlR (fX11_nextAfter_2 (n + 1) a0 a1 a2 h) 2 [(0, vR (some a0)), (1, vR a1), (2, vI a2)] [] h
    unfold fX11_nextAfter_2
    refine sm_iload_n (i := 2) (j := 2) (pc' := 3) dX11_nextAfter_2 rfl rfl rfl ?_
    refine sm_aload_n (i := 0) (j := 0) (pc' := 4) dX11_nextAfter_3 rfl rfl rfl ?_
    refine sm_getR (k := 2) (pc' := 7) kX11 (by decide) mw395 dX11_nextAfter_4 rfl (fun x1 => ?_)
    refine sm_cVI (pc' := 10) (ci := 9) (st := [vI a2]) (F := fun b => fX9_thingCount b h) [] yY_yX9_thingCount rfl mw449 mw458 mw459 (fun b => mX9_thingCount l D aC B b h) rfl (by decide) (by decide) (by exact Nat.le_of_ble_eq_true rfl) rfl dX11_nextAfter_7 rfl (fun x2 h3 => ?_)
    refine sm_icmp_ge (tgt := 59) (pc' := 13) dX11_nextAfter_10 (by decide) rfl ?_ ?_
    · refine sm_aload_n (i := 0) (j := 0) (pc' := 60) dX11_nextAfter_59 rfl rfl rfl ?_
      refine sm_getR (k := 9) (pc' := 63) kX11 (by decide) mw407 dX11_nextAfter_60 rfl (fun x4 => ?_)
      refine sm_aload_n (i := 1) (j := 1) (pc' := 64) dX11_nextAfter_63 rfl rfl rfl ?_
      refine sm_cVU (pc' := 67) (ci := 0) (st := []) (F := fun b => fX0_copy b a1 h3) [vR a1] yY_yX0_copy rfl mw490 mw142 mw143 (fun b => mX0_copy l D aC B b a1 h3) rfl (by decide) (by decide) (by exact Nat.le_of_ble_eq_true rfl) rfl dX11_nextAfter_64 rfl (fun _ h5 => ?_)
      refine sm_aload_n (i := 0) (j := 0) (pc' := 68) dX11_nextAfter_67 rfl rfl rfl ?_
      refine sm_getR (k := 13) (pc' := 71) kX11 (by decide) mw412 dX11_nextAfter_68 rfl (fun x6 => ?_)
      exact sm_aret rfl dX11_nextAfter_71
    refine sm_aload_n (i := 0) (j := 0) (pc' := 14) dX11_nextAfter_13 rfl rfl rfl ?_
    refine sm_getR (k := 2) (pc' := 17) kX11 (by decide) mw395 dX11_nextAfter_14 rfl (fun x8 => ?_)
    refine sm_iload_n (i := 2) (j := 2) (pc' := 18) dX11_nextAfter_17 rfl rfl rfl ?_
    refine sm_cVR (pc' := 21) (ci := 9) (st := []) (F := fun b => fX9_thingInOrder b a2 h3) [vI a2] yY_yX9_thingInOrder rfl mw590 mw594 mw595 (fun b => mX9_thingInOrder l D aC B b a2 h3) rfl (by decide) (by decide) (by exact Nat.le_of_ble_eq_true rfl) rfl dX11_nextAfter_18 rfl (fun x9 h10 => ?_)
    refine sm_astore_n (i := 3) (lv' := [(3, vR x9), (0, vR (some a0)), (1, vR a1), (2, vI a2)]) (pc' := 22) dX11_nextAfter_21 rfl rfl (by decide) rfl ?_
    refine sm_aload_n (i := 3) (j := 0) (pc' := 23) dX11_nextAfter_22 rfl rfl rfl ?_
    refine sm_ifnull (tgt := 33) (pc' := 26) dX11_nextAfter_23 (by decide) rfl ?_ ?_
    · refine sm_null (pc' := 34) dX11_nextAfter_33 rfl ?_
      refine sm_goto (pc' := 43) dX11_nextAfter_34 (by decide) ?_
      refine sm_lo (lv' := [(0, vR (some a0)), (1, vR a1), (2, vI a2)]) [1, 2, 3] rfl ?_
      exact sX11_nextAfter_43 l D aC B  (fX11_nextAfter_2 n) ih a0 a1 a2 none h10
    refine sm_aload_n (i := 3) (j := 0) (pc' := 27) dX11_nextAfter_26 rfl rfl rfl ?_
    refine sm_getIN (k := 2) (pc' := 30) kX8 (by decide) mw568 dX11_nextAfter_27 rfl (fun x11 => ?_)
    refine sm_if_ne (tgt := 37) (pc' := 33) dX11_nextAfter_30 (by decide) rfl ?_ ?_
    · refine sm_aload_n (i := 0) (j := 1) (pc' := 38) dX11_nextAfter_37 rfl rfl rfl ?_
      refine sm_aload_n (i := 3) (j := 0) (pc' := 39) dX11_nextAfter_38 rfl rfl rfl ?_
      refine sm_aload_n (i := 1) (j := 2) (pc' := 40) dX11_nextAfter_39 rfl rfl rfl ?_
      refine sm_cVR (pc' := 43) (ci := 11) (st := []) (F := fun b => fX11_nextOf b x9 a1 h10) [vR x9, vR a1] yY_yX11_nextOf rfl mw591 mw592 mw593 (fun b => mX11_nextOf l D aC B b x9 a1 h10) rfl (by decide) (by decide) (by exact Nat.le_of_ble_eq_true rfl) rfl dX11_nextAfter_40 rfl (fun x12 h13 => ?_)
      refine sm_lo (lv' := [(0, vR (some a0)), (1, vR a1), (2, vI a2)]) [1, 2, 3] rfl ?_
      exact sX11_nextAfter_43 l D aC B  (fX11_nextAfter_2 n) ih a0 a1 a2 x12 h13
    refine sm_null (pc' := 34) dX11_nextAfter_33 rfl ?_
    refine sm_goto (pc' := 43) dX11_nextAfter_34 (by decide) ?_
    refine sm_lo (lv' := [(0, vR (some a0)), (1, vR a1), (2, vI a2)]) [1, 2, 3] rfl ?_
    exact sX11_nextAfter_43 l D aC B  (fX11_nextAfter_2 n) ih a0 a1 a2 none h10
noncomputable def fX11_nextAfter  (a0 : Nat) (a1 : Option Nat) (h : sm_H) : Option (Option Nat × sm_H) :=
  fX11_nextAfter_2 sm_fuel a0 a1 (0 : Int32) h
set_option maxRecDepth 100000 in
set_option maxHeartbeats 4000000 in
theorem sX11_nextAfter_0 (l : Launch) (D : va_G) (aC : Nat → ClassId) (B : Nat)   (a0 : Nat) (a1 : Option Nat) (h : sm_H) : zS l D aC B cX11_nextAfter 5 RX11 4 94 (some (.object "TreeAgent$Value")) "nextAfter" vlR (fX11_nextAfter a0 a1 h) 0 [(0, vR (some a0)), (1, vR a1)] [] h := by
  unfold fX11_nextAfter
  refine sm_iconst (v := (0 : Int32)) (pc' := 1) dX11_nextAfter_0 rfl (by decide) ?_
  refine sm_istore_n (i := 2) (lv' := [(2, vI (0 : Int32)), (0, vR (some a0)), (1, vR a1)]) (pc' := 2) dX11_nextAfter_1 rfl rfl (by decide) rfl ?_
  refine sm_lo (lv' := [(0, vR (some a0)), (1, vR a1), (2, vI (0 : Int32))]) [1, 2, 0] rfl ?_
  exact sX11_nextAfter_2 l D aC B   sm_fuel a0 a1 (0 : Int32) h
set_option maxRecDepth 100000 in
theorem mX11_nextAfter (l : Launch) (D : va_G) (aC : Nat → ClassId) (B : Nat) (a0 : Nat) (a1 : Option Nat) (h : sm_H) : sm_M l D vwCl gAts aC B gTs gNs gOs yX11_nextAfter cX11_nextAfter 5 (some (.object "TreeAgent$Value")) 4 94 vlR [vR (some a0), vR a1] h (fX11_nextAfter a0 a1 h) := sm_meth [vR (some a0), vR a1] yY_yX11_nextAfter gG gN (Nat.le_of_ble_eq_true rfl) rfl (sX11_nextAfter_0 l D aC B a0 a1 h)
-- M:TreeAgent.tellNexts()V
noncomputable def fX11_tellNexts_65 (K2 : Nat → Int32 → sm_H → Option (Unit × sm_H)) (a0 : Nat) (a1 : Int32) (a3 : Option Nat) (h : sm_H) : Option (Unit × sm_H) :=
  (sm_R (sm_get h (some a0) 11 7)).bind fun x1 =>
  (sm_R (sm_get h (some a0) 11 9)).bind fun x2 =>
  (sm_obj h x1 6).bind fun b5 =>
  sm_cb (fX6_tell b5 x2 a3 h) fun _ h3 =>
  sm_let (a1 + (1 : Int32)) fun x4 =>
  K2 a0 x4 h3
set_option maxRecDepth 100000 in
set_option maxHeartbeats 4000000 in
theorem sX11_tellNexts_65 (l : Launch) (D : va_G) (aC : Nat → ClassId) (B : Nat) (K2 : Nat → Int32 → sm_H → Option (Unit × sm_H)) (hK2 : ∀ (a0 : Nat) (a1 : Int32) (h : sm_H), zS l D aC B cX11_tellNexts 4 RX11 5 118 none "tellNexts" vlU (K2 a0 a1 h) 2 [(0, vR (some a0)), (1, vI a1)] [] h) (a0 : Nat) (a1 : Int32) (a3 : Option Nat) (h : sm_H) : zS l D aC B cX11_tellNexts 4 RX11 5 118 none "tellNexts" vlU (fX11_tellNexts_65 K2 a0 a1 a3 h) 65 [(0, vR (some a0)), (1, vI a1), (3, vR a3)] [] h := by
  unfold fX11_tellNexts_65
  refine sm_aload_n (i := 0) (j := 0) (pc' := 66) dX11_tellNexts_65 rfl rfl rfl ?_
  refine sm_getR (k := 7) (pc' := 69) kX11 (by decide) mw405 dX11_tellNexts_66 rfl (fun x1 => ?_)
  refine sm_aload_n (i := 0) (j := 0) (pc' := 70) dX11_tellNexts_69 rfl rfl rfl ?_
  refine sm_getR (k := 9) (pc' := 73) kX11 (by decide) mw407 dX11_tellNexts_70 rfl (fun x2 => ?_)
  refine sm_aload_n (i := 3) (j := 2) (pc' := 74) dX11_tellNexts_73 rfl rfl rfl ?_
  refine sm_cVU (pc' := 77) (ci := 6) (st := []) (F := fun b => fX6_tell b x2 a3 h) [vR x2, vR a3] yY_yX6_tell rfl mw573 mw306 mw307 (fun b => mX6_tell l D aC B b x2 a3 h) rfl (by decide) (by decide) (by exact Nat.le_of_ble_eq_true rfl) rfl dX11_tellNexts_74 rfl (fun _ h3 => ?_)
  refine sm_iincL (i := 1) (j := 1) (x := a1) (d := (1 : Int32)) (fun x4 => [(1, vI x4), (0, vR (some a0)), (3, vR a3)]) (pc' := 80) dX11_tellNexts_77 rfl rfl (by decide) (by decide) (fun _ => rfl) (fun x4 => ?_)
  refine sm_goto (pc' := 2) dX11_tellNexts_80 (by decide) ?_
  refine sm_lo (lv' := [(0, vR (some a0)), (1, vI x4)]) [1, 0] rfl ?_
  exact hK2 a0 x4 h3
noncomputable def fX11_tellNexts_2  : Nat → Nat → Int32 → sm_H → Option (Unit × sm_H)
  | 0 => fun _ _ _ => none
  | n + 1 => fun a0 a1 h =>
    (sm_R (sm_get h (some a0) 11 4)).bind fun x1 =>
    (sm_I (sm_get h x1 3 8)).bind fun x2 =>
    if x2 ≤ a1 then (
      some ((), h)
    ) else
    (sm_R (sm_get h (some a0) 11 4)).bind fun x3 =>
    (sm_obj h x3 3).bind fun b18 =>
    sm_cb (fX3_pairAt b18 a1 h) fun x4 h5 =>
    if x4 = none then (
      some ((), h5)
    ) else
    (sm_R (sm_get h5 x4 4 0)).bind fun x6 =>
    (sm_obj h5 (some a0) 11).bind fun b17 =>
    sm_cb (fX11_nextAfter b17 x6 h5) fun x7 h8 =>
    (sm_R (sm_get h8 (some a0) 11 4)).bind fun x9 =>
    (sm_I (sm_get h8 x9 3 3)).bind fun x10 =>
    if x10 = 0 then (
      (sm_obj h8 x7 10).bind fun b16 =>
      sm_cb (fX10_isMissing b16 h8) fun x11 h12 =>
      if x11 = 0 then (
        fX11_tellNexts_65 (fX11_tellNexts_2 n) a0 a1 x7 h12
      ) else
      (sm_R (sm_get h12 (some a0) 11 7)).bind fun x13 =>
      (sm_obj h12 x13 6).bind fun b15 =>
      sm_cb (fX6_fail b15 (2 : Int32) (a1 + (1 : Int32)) h12) fun _ h14 =>
      some ((), h14)
    ) else
    fX11_tellNexts_65 (fX11_tellNexts_2 n) a0 a1 x7 h8
set_option maxRecDepth 100000 in
set_option maxHeartbeats 4000000 in
theorem sX11_tellNexts_2 (l : Launch) (D : va_G) (aC : Nat → ClassId) (B : Nat)   (n : Nat) : ∀ (a0 : Nat) (a1 : Int32) (h : sm_H), zS l D aC B cX11_tellNexts 4 RX11 5 118 none "tellNexts" vlU (fX11_tellNexts_2 n a0 a1 h) 2 [(0, vR (some a0)), (1, vI a1)] [] h := by
  induction n with
  | zero => intro a0 a1 h; exact sm_none
  | succ n ih =>
    intro a0 a1 h
    show zS l D aC B cX11_tellNexts 4 RX11 5 118 none "tellNexts" vlU (fX11_tellNexts_2 (n + 1) a0 a1 h) 2 [(0, vR (some a0)), (1, vI a1)] [] h
    unfold fX11_tellNexts_2
    refine sm_iload_n (i := 1) (j := 1) (pc' := 3) dX11_tellNexts_2 rfl rfl rfl ?_
    refine sm_aload_n (i := 0) (j := 0) (pc' := 4) dX11_tellNexts_3 rfl rfl rfl ?_
    refine sm_getR (k := 4) (pc' := 7) kX11 (by decide) mw399 dX11_tellNexts_4 rfl (fun x1 => ?_)
    refine sm_getIN (k := 8) (pc' := 10) kX3 (by decide) mw574 dX11_tellNexts_7 rfl (fun x2 => ?_)
    refine sm_icmp_ge (tgt := 83) (pc' := 13) dX11_tellNexts_10 (by decide) rfl ?_ ?_
    · exact sm_vret rfl dX11_tellNexts_83
    refine sm_aload_n (i := 0) (j := 0) (pc' := 14) dX11_tellNexts_13 rfl rfl rfl ?_
    refine sm_getR (k := 4) (pc' := 17) kX11 (by decide) mw399 dX11_tellNexts_14 rfl (fun x3 => ?_)
    refine sm_iload_n (i := 1) (j := 1) (pc' := 18) dX11_tellNexts_17 rfl rfl rfl ?_
    refine sm_cVR (pc' := 21) (ci := 3) (st := []) (F := fun b => fX3_pairAt b a1 h) [vI a1] yY_yX3_pairAt rfl mw575 mw78 mw79 (fun b => mX3_pairAt l D aC B b a1 h) rfl (by decide) (by decide) (by exact Nat.le_of_ble_eq_true rfl) rfl dX11_tellNexts_18 rfl (fun x4 h5 => ?_)
    refine sm_astore_n (i := 2) (lv' := [(2, vR x4), (0, vR (some a0)), (1, vI a1)]) (pc' := 22) dX11_tellNexts_21 rfl rfl (by decide) rfl ?_
    refine sm_aload_n (i := 2) (j := 0) (pc' := 23) dX11_tellNexts_22 rfl rfl rfl ?_
    refine sm_ifnonnull (tgt := 27) (pc' := 26) dX11_tellNexts_23 (by decide) rfl ?_ ?_
    · refine sm_aload_n (i := 0) (j := 1) (pc' := 28) dX11_tellNexts_27 rfl rfl rfl ?_
      refine sm_aload_n (i := 2) (j := 0) (pc' := 29) dX11_tellNexts_28 rfl rfl rfl ?_
      refine sm_getRN (k := 0) (pc' := 32) kX4 (by decide) mw572 dX11_tellNexts_29 rfl (fun x6 => ?_)
      refine sm_cVR (pc' := 35) (ci := 11) (st := []) (F := fun b => fX11_nextAfter b x6 h5) [vR x6] yY_yX11_nextAfter rfl mw596 mw597 mw598 (fun b => mX11_nextAfter l D aC B b x6 h5) rfl (by decide) (by decide) (by exact Nat.le_of_ble_eq_true rfl) rfl dX11_tellNexts_32 rfl (fun x7 h8 => ?_)
      refine sm_astore_n (i := 3) (lv' := [(3, vR x7), (2, vR x4), (0, vR (some a0)), (1, vI a1)]) (pc' := 36) dX11_tellNexts_35 rfl rfl (by decide) rfl ?_
      refine sm_aload_n (i := 0) (j := 2) (pc' := 37) dX11_tellNexts_36 rfl rfl rfl ?_
      refine sm_getR (k := 4) (pc' := 40) kX11 (by decide) mw399 dX11_tellNexts_37 rfl (fun x9 => ?_)
      refine sm_getIN (k := 3) (pc' := 43) kX3 (by decide) mw577 dX11_tellNexts_40 rfl (fun x10 => ?_)
      refine sm_if_ne (tgt := 65) (pc' := 46) dX11_tellNexts_43 (by decide) rfl ?_ ?_
      · refine sm_lo (lv' := [(0, vR (some a0)), (1, vI a1), (3, vR x7)]) [2, 3, 0] rfl ?_
        exact sX11_tellNexts_65 l D aC B  (fX11_tellNexts_2 n) ih a0 a1 x7 h8
      refine sm_aload_n (i := 3) (j := 0) (pc' := 47) dX11_tellNexts_46 rfl rfl rfl ?_
      refine sm_cVI (pc' := 50) (ci := 10) (st := []) (F := fun b => fX10_isMissing b h8) [] yY_yX10_isMissing rfl mw578 mw580 mw581 (fun b => mX10_isMissing l D aC B b h8) rfl (by decide) (by decide) (by exact Nat.le_of_ble_eq_true rfl) rfl dX11_tellNexts_47 rfl (fun x11 h12 => ?_)
      refine sm_if_eq (tgt := 65) (pc' := 53) dX11_tellNexts_50 (by decide) rfl ?_ ?_
      · refine sm_lo (lv' := [(0, vR (some a0)), (1, vI a1), (3, vR x7)]) [2, 3, 0] rfl ?_
        exact sX11_tellNexts_65 l D aC B  (fX11_tellNexts_2 n) ih a0 a1 x7 h12
      refine sm_aload_n (i := 0) (j := 2) (pc' := 54) dX11_tellNexts_53 rfl rfl rfl ?_
      refine sm_getR (k := 7) (pc' := 57) kX11 (by decide) mw405 dX11_tellNexts_54 rfl (fun x13 => ?_)
      refine sm_iconst (v := (2 : Int32)) (pc' := 58) dX11_tellNexts_57 rfl (by decide) ?_
      refine sm_iload_n (i := 1) (j := 3) (pc' := 59) dX11_tellNexts_58 rfl rfl rfl ?_
      refine sm_iconst (v := (1 : Int32)) (pc' := 60) dX11_tellNexts_59 rfl (by decide) ?_
      refine sm_iadd (pc' := 61) dX11_tellNexts_60 rfl ?_
      refine sm_cVU (pc' := 64) (ci := 6) (st := []) (F := fun b => fX6_fail b (2 : Int32) (a1 + (1 : Int32)) h12) [vI (2 : Int32), vI (a1 + (1 : Int32))] yY_yX6_fail rfl mw579 mw280 mw281 (fun b => mX6_fail l D aC B b (2 : Int32) (a1 + (1 : Int32)) h12) rfl (by decide) (by decide) (by exact Nat.le_of_ble_eq_true rfl) rfl dX11_tellNexts_61 rfl (fun _ h14 => ?_)
      exact sm_vret rfl dX11_tellNexts_64
    exact sm_vret rfl dX11_tellNexts_26
noncomputable def fX11_tellNexts  (a0 : Nat) (h : sm_H) : Option (Unit × sm_H) :=
  fX11_tellNexts_2 sm_fuel a0 (0 : Int32) h
set_option maxRecDepth 100000 in
set_option maxHeartbeats 4000000 in
theorem sX11_tellNexts_0 (l : Launch) (D : va_G) (aC : Nat → ClassId) (B : Nat)   (a0 : Nat) (h : sm_H) : zS l D aC B cX11_tellNexts 4 RX11 5 118 none "tellNexts" vlU (fX11_tellNexts a0 h) 0 [(0, vR (some a0))] [] h := by
  unfold fX11_tellNexts
  refine sm_iconst (v := (0 : Int32)) (pc' := 1) dX11_tellNexts_0 rfl (by decide) ?_
  refine sm_istore_n (i := 1) (lv' := [(1, vI (0 : Int32)), (0, vR (some a0))]) (pc' := 2) dX11_tellNexts_1 rfl rfl (by decide) rfl ?_
  refine sm_lo (lv' := [(0, vR (some a0)), (1, vI (0 : Int32))]) [1, 0] rfl ?_
  exact sX11_tellNexts_2 l D aC B   sm_fuel a0 (0 : Int32) h
set_option maxRecDepth 100000 in
theorem mX11_tellNexts (l : Launch) (D : va_G) (aC : Nat → ClassId) (B : Nat) (a0 : Nat) (h : sm_H) : sm_M l D vwCl gAts aC B gTs gNs gOs yX11_tellNexts cX11_tellNexts 4 none 5 118 vlU [vR (some a0)] h (fX11_tellNexts a0 h) := sm_meth [vR (some a0)] yY_yX11_tellNexts gG gN (Nat.le_of_ble_eq_true rfl) rfl (sX11_tellNexts_0 l D aC B a0 h)
-- M:TreeAgent.tellMany()V
noncomputable def fX11_tellMany_208 (K57 : Nat → Int32 → Int32 → Int64 → Int32 → Int32 → sm_H → Option (Unit × sm_H)) (a0 : Nat) (a1 : Int32) (a2 : Int32) (a3 : Int64) (a5 : Int32) (a6 : Int32) (s0 : Int32) (h : sm_H) : Option (Unit × sm_H) :=
  if s0 = 0 then (
    sm_let (a6 + (1 : Int32)) fun x1 =>
    K57 a0 a1 a2 a3 a5 x1 h
  ) else
  if a5 < a2 then (
    sm_let (a6 + (1 : Int32)) fun x2 =>
    K57 a0 a1 a2 a3 a5 x2 h
  ) else
  some ((), h)
set_option maxRecDepth 100000 in
set_option maxHeartbeats 4000000 in
theorem sX11_tellMany_208 (l : Launch) (D : va_G) (aC : Nat → ClassId) (B : Nat) (K57 : Nat → Int32 → Int32 → Int64 → Int32 → Int32 → sm_H → Option (Unit × sm_H)) (hK57 : ∀ (a0 : Nat) (a1 : Int32) (a2 : Int32) (a3 : Int64) (a5 : Int32) (a6 : Int32) (h : sm_H), zS l D aC B cX11_tellMany 10 RX11 5 118 none "tellMany" vlU (K57 a0 a1 a2 a3 a5 a6 h) 57 [(0, vR (some a0)), (1, vI a1), (2, vI a2), (3, vJ a3), (5, vI a5), (6, vI a6)] [] h) (a0 : Nat) (a1 : Int32) (a2 : Int32) (a3 : Int64) (a5 : Int32) (a6 : Int32) (s0 : Int32) (h : sm_H) : zS l D aC B cX11_tellMany 10 RX11 5 118 none "tellMany" vlU (fX11_tellMany_208 K57 a0 a1 a2 a3 a5 a6 s0 h) 208 [(0, vR (some a0)), (1, vI a1), (2, vI a2), (3, vJ a3), (5, vI a5), (6, vI a6)] [vI s0] h := by
  unfold fX11_tellMany_208
  refine sm_istore (i := 9) (lv' := [(9, vI s0), (0, vR (some a0)), (1, vI a1), (2, vI a2), (3, vJ a3), (5, vI a5), (6, vI a6)]) (pc' := 210) dX11_tellMany_208 rfl (by decide) rfl ?_
  refine sm_iload (i := 9) (j := 0) (pc' := 212) dX11_tellMany_210 rfl rfl ?_
  refine sm_if_eq (tgt := 222) (pc' := 215) dX11_tellMany_212 (by decide) rfl ?_ ?_
  · refine sm_iincL (i := 6) (j := 6) (x := a6) (d := (1 : Int32)) (fun x1 => [(6, vI x1), (9, vI s0), (0, vR (some a0)), (1, vI a1), (2, vI a2), (3, vJ a3), (5, vI a5)]) (pc' := 225) dX11_tellMany_222 rfl rfl (by decide) (by decide) (fun _ => rfl) (fun x1 => ?_)
    refine sm_goto (pc' := 57) dX11_tellMany_225 (by decide) ?_
    refine sm_lo (lv' := [(0, vR (some a0)), (1, vI a1), (2, vI a2), (3, vJ a3), (5, vI a5), (6, vI x1)]) [2, 3, 4, 5, 6, 0] rfl ?_
    exact hK57 a0 a1 a2 a3 a5 x1 h
  refine sm_iload (i := 5) (j := 5) (pc' := 217) dX11_tellMany_215 rfl rfl ?_
  refine sm_iload_n (i := 2) (j := 3) (pc' := 218) dX11_tellMany_217 rfl rfl rfl ?_
  refine sm_icmp_lt (tgt := 222) (pc' := 221) dX11_tellMany_218 (by decide) rfl ?_ ?_
  · refine sm_iincL (i := 6) (j := 6) (x := a6) (d := (1 : Int32)) (fun x2 => [(6, vI x2), (9, vI s0), (0, vR (some a0)), (1, vI a1), (2, vI a2), (3, vJ a3), (5, vI a5)]) (pc' := 225) dX11_tellMany_222 rfl rfl (by decide) (by decide) (fun _ => rfl) (fun x2 => ?_)
    refine sm_goto (pc' := 57) dX11_tellMany_225 (by decide) ?_
    refine sm_lo (lv' := [(0, vR (some a0)), (1, vI a1), (2, vI a2), (3, vJ a3), (5, vI a5), (6, vI x2)]) [2, 3, 4, 5, 6, 0] rfl ?_
    exact hK57 a0 a1 a2 a3 a5 x2 h
  exact sm_vret rfl dX11_tellMany_221
noncomputable def fX11_tellMany_180 (K57 : Nat → Int32 → Int32 → Int64 → Int32 → Int32 → sm_H → Option (Unit × sm_H)) (a0 : Nat) (a1 : Int32) (a2 : Int32) (a3 : Int64) (a6 : Int32) (s0 : Int32) (h : sm_H) : Option (Unit × sm_H) :=
  if a6 < a1 then (
    fX11_tellMany_208 K57 a0 a1 a2 a3 s0 a6 (0 : Int32) h
  ) else
  if a2 ≤ 0 then (
    fX11_tellMany_208 K57 a0 a1 a2 a3 s0 a6 (0 : Int32) h
  ) else
  if a2 = 0 then none else
  if (((a6 - a1) + (1 : Int32)) - ((a6 - a1) + (1 : Int32)) / a2 * a2) = 0 then (
    fX11_tellMany_208 K57 a0 a1 a2 a3 s0 a6 (1 : Int32) h
  ) else
  fX11_tellMany_208 K57 a0 a1 a2 a3 s0 a6 (0 : Int32) h
set_option maxRecDepth 100000 in
set_option maxHeartbeats 4000000 in
theorem sX11_tellMany_180 (l : Launch) (D : va_G) (aC : Nat → ClassId) (B : Nat) (K57 : Nat → Int32 → Int32 → Int64 → Int32 → Int32 → sm_H → Option (Unit × sm_H)) (hK57 : ∀ (a0 : Nat) (a1 : Int32) (a2 : Int32) (a3 : Int64) (a5 : Int32) (a6 : Int32) (h : sm_H), zS l D aC B cX11_tellMany 10 RX11 5 118 none "tellMany" vlU (K57 a0 a1 a2 a3 a5 a6 h) 57 [(0, vR (some a0)), (1, vI a1), (2, vI a2), (3, vJ a3), (5, vI a5), (6, vI a6)] [] h) (a0 : Nat) (a1 : Int32) (a2 : Int32) (a3 : Int64) (a6 : Int32) (s0 : Int32) (h : sm_H) : zS l D aC B cX11_tellMany 10 RX11 5 118 none "tellMany" vlU (fX11_tellMany_180 K57 a0 a1 a2 a3 a6 s0 h) 180 [(0, vR (some a0)), (1, vI a1), (2, vI a2), (3, vJ a3), (6, vI a6)] [vI s0] h := by
  unfold fX11_tellMany_180
  refine sm_istore (i := 5) (lv' := [(5, vI s0), (0, vR (some a0)), (1, vI a1), (2, vI a2), (3, vJ a3), (6, vI a6)]) (pc' := 182) dX11_tellMany_180 rfl (by decide) rfl ?_
  refine sm_iload (i := 6) (j := 5) (pc' := 184) dX11_tellMany_182 rfl rfl ?_
  refine sm_iload_n (i := 1) (j := 2) (pc' := 185) dX11_tellMany_184 rfl rfl rfl ?_
  refine sm_icmp_lt (tgt := 207) (pc' := 188) dX11_tellMany_185 (by decide) rfl ?_ ?_
  · refine sm_iconst (v := (0 : Int32)) (pc' := 208) dX11_tellMany_207 rfl (by decide) ?_
    refine sm_lo (lv' := [(0, vR (some a0)), (1, vI a1), (2, vI a2), (3, vJ a3), (5, vI s0), (6, vI a6)]) [1, 2, 3, 4, 0, 5] rfl ?_
    exact sX11_tellMany_208 l D aC B  K57 hK57 a0 a1 a2 a3 s0 a6 (0 : Int32) h
  refine sm_iload_n (i := 2) (j := 3) (pc' := 189) dX11_tellMany_188 rfl rfl rfl ?_
  refine sm_if_le (tgt := 207) (pc' := 192) dX11_tellMany_189 (by decide) rfl ?_ ?_
  · refine sm_iconst (v := (0 : Int32)) (pc' := 208) dX11_tellMany_207 rfl (by decide) ?_
    refine sm_lo (lv' := [(0, vR (some a0)), (1, vI a1), (2, vI a2), (3, vJ a3), (5, vI s0), (6, vI a6)]) [1, 2, 3, 4, 0, 5] rfl ?_
    exact sX11_tellMany_208 l D aC B  K57 hK57 a0 a1 a2 a3 s0 a6 (0 : Int32) h
  refine sm_iload (i := 6) (j := 5) (pc' := 194) dX11_tellMany_192 rfl rfl ?_
  refine sm_iload_n (i := 1) (j := 2) (pc' := 195) dX11_tellMany_194 rfl rfl rfl ?_
  refine sm_isub (pc' := 196) dX11_tellMany_195 rfl ?_
  refine sm_iconst (v := (1 : Int32)) (pc' := 197) dX11_tellMany_196 rfl (by decide) ?_
  refine sm_iadd (pc' := 198) dX11_tellMany_197 rfl ?_
  refine sm_iload_n (i := 2) (j := 3) (pc' := 199) dX11_tellMany_198 rfl rfl rfl ?_
  refine sm_irem (pc' := 200) dX11_tellMany_199 rfl ?_
  refine sm_if_ne (tgt := 207) (pc' := 203) dX11_tellMany_200 (by decide) rfl ?_ ?_
  · refine sm_iconst (v := (0 : Int32)) (pc' := 208) dX11_tellMany_207 rfl (by decide) ?_
    refine sm_lo (lv' := [(0, vR (some a0)), (1, vI a1), (2, vI a2), (3, vJ a3), (5, vI s0), (6, vI a6)]) [1, 2, 3, 4, 0, 5] rfl ?_
    exact sX11_tellMany_208 l D aC B  K57 hK57 a0 a1 a2 a3 s0 a6 (0 : Int32) h
  refine sm_iconst (v := (1 : Int32)) (pc' := 204) dX11_tellMany_203 rfl (by decide) ?_
  refine sm_goto (pc' := 208) dX11_tellMany_204 (by decide) ?_
  refine sm_lo (lv' := [(0, vR (some a0)), (1, vI a1), (2, vI a2), (3, vJ a3), (5, vI s0), (6, vI a6)]) [1, 2, 3, 4, 0, 5] rfl ?_
  exact sX11_tellMany_208 l D aC B  K57 hK57 a0 a1 a2 a3 s0 a6 (1 : Int32) h
noncomputable def fX11_tellMany_107 (K57 : Nat → Int32 → Int32 → Int64 → Int32 → Int32 → sm_H → Option (Unit × sm_H)) (a0 : Nat) (a1 : Int32) (a2 : Int32) (a3 : Int64) (a5 : Int32) (a6 : Int32) (s0 : Option Nat) (h : sm_H) : Option (Unit × sm_H) :=
  if s0 = none then (
    some ((), h)
  ) else
  (sm_R (sm_get h s0 4 0)).bind fun x1 =>
  (sm_obj h (some a0) 11).bind fun b18 =>
  sm_cb (fX11_nextAfter b18 x1 h) fun x2 h3 =>
  (sm_R (sm_get h3 (some a0) 11 7)).bind fun x4 =>
  (sm_R (sm_get h3 (some a0) 11 4)).bind fun x5 =>
  (sm_R (sm_get h3 (some a0) 11 9)).bind fun x6 =>
  (sm_obj h3 x4 6).bind fun b17 =>
  sm_cb (fX6_sizeWith b17 x5 x6 x2 h3) fun x7 h8 =>
  (sm_I (sm_get h8 (some a0) 11 15)).bind fun x9 =>
  if x7 ≤ x9 then (
    (sm_R (sm_get h8 (some a0) 11 7)).bind fun x10 =>
    (sm_R (sm_get h8 (some a0) 11 9)).bind fun x11 =>
    (sm_obj h8 x10 6).bind fun b16 =>
    sm_cb (fX6_tell b16 x11 x2 h8) fun _ h12 =>
    (sm_obj h12 x2 10).bind fun b15 =>
    sm_cb (fX10_isMissing b15 h12) fun x13 h14 =>
    if x13 = 0 then (
      fX11_tellMany_180 K57 a0 a1 a2 a3 a6 (0 : Int32) h14
    ) else
    fX11_tellMany_180 K57 a0 a1 a2 a3 a6 (a5 + (1 : Int32)) h14
  ) else
  some ((), h8)
set_option maxRecDepth 100000 in
set_option maxHeartbeats 4000000 in
theorem sX11_tellMany_107 (l : Launch) (D : va_G) (aC : Nat → ClassId) (B : Nat) (K57 : Nat → Int32 → Int32 → Int64 → Int32 → Int32 → sm_H → Option (Unit × sm_H)) (hK57 : ∀ (a0 : Nat) (a1 : Int32) (a2 : Int32) (a3 : Int64) (a5 : Int32) (a6 : Int32) (h : sm_H), zS l D aC B cX11_tellMany 10 RX11 5 118 none "tellMany" vlU (K57 a0 a1 a2 a3 a5 a6 h) 57 [(0, vR (some a0)), (1, vI a1), (2, vI a2), (3, vJ a3), (5, vI a5), (6, vI a6)] [] h) (a0 : Nat) (a1 : Int32) (a2 : Int32) (a3 : Int64) (a5 : Int32) (a6 : Int32) (s0 : Option Nat) (h : sm_H) : zS l D aC B cX11_tellMany 10 RX11 5 118 none "tellMany" vlU (fX11_tellMany_107 K57 a0 a1 a2 a3 a5 a6 s0 h) 107 [(0, vR (some a0)), (1, vI a1), (2, vI a2), (3, vJ a3), (5, vI a5), (6, vI a6)] [vR s0] h := by
  unfold fX11_tellMany_107
  refine sm_astore (i := 7) (lv' := [(7, vR s0), (0, vR (some a0)), (1, vI a1), (2, vI a2), (3, vJ a3), (5, vI a5), (6, vI a6)]) (pc' := 109) dX11_tellMany_107 rfl (by decide) rfl ?_
  refine sm_aload (i := 7) (j := 0) (pc' := 111) dX11_tellMany_109 rfl rfl ?_
  refine sm_ifnonnull (tgt := 115) (pc' := 114) dX11_tellMany_111 (by decide) rfl ?_ ?_
  · refine sm_aload_n (i := 0) (j := 1) (pc' := 116) dX11_tellMany_115 rfl rfl rfl ?_
    refine sm_aload (i := 7) (j := 0) (pc' := 118) dX11_tellMany_116 rfl rfl ?_
    refine sm_getRN (k := 0) (pc' := 121) kX4 (by decide) mw572 dX11_tellMany_118 rfl (fun x1 => ?_)
    refine sm_cVR (pc' := 124) (ci := 11) (st := []) (F := fun b => fX11_nextAfter b x1 h) [vR x1] yY_yX11_nextAfter rfl mw596 mw597 mw598 (fun b => mX11_nextAfter l D aC B b x1 h) rfl (by decide) (by decide) (by exact Nat.le_of_ble_eq_true rfl) rfl dX11_tellMany_121 rfl (fun x2 h3 => ?_)
    refine sm_astore (i := 8) (lv' := [(8, vR x2), (7, vR s0), (0, vR (some a0)), (1, vI a1), (2, vI a2), (3, vJ a3), (5, vI a5), (6, vI a6)]) (pc' := 126) dX11_tellMany_124 rfl (by decide) rfl ?_
    refine sm_aload_n (i := 0) (j := 2) (pc' := 127) dX11_tellMany_126 rfl rfl rfl ?_
    refine sm_getR (k := 7) (pc' := 130) kX11 (by decide) mw405 dX11_tellMany_127 rfl (fun x4 => ?_)
    refine sm_aload_n (i := 0) (j := 2) (pc' := 131) dX11_tellMany_130 rfl rfl rfl ?_
    refine sm_getR (k := 4) (pc' := 134) kX11 (by decide) mw399 dX11_tellMany_131 rfl (fun x5 => ?_)
    refine sm_aload_n (i := 0) (j := 2) (pc' := 135) dX11_tellMany_134 rfl rfl rfl ?_
    refine sm_getR (k := 9) (pc' := 138) kX11 (by decide) mw407 dX11_tellMany_135 rfl (fun x6 => ?_)
    refine sm_aload (i := 8) (j := 0) (pc' := 140) dX11_tellMany_138 rfl rfl ?_
    refine sm_cVI (pc' := 143) (ci := 6) (st := []) (F := fun b => fX6_sizeWith b x5 x6 x2 h3) [vR x5, vR x6, vR x2] yY_yX6_sizeWith rfl mw599 mw600 mw601 (fun b => mX6_sizeWith l D aC B b x5 x6 x2 h3) rfl (by decide) (by decide) (by exact Nat.le_of_ble_eq_true rfl) rfl dX11_tellMany_140 rfl (fun x7 h8 => ?_)
    refine sm_aload_n (i := 0) (j := 2) (pc' := 144) dX11_tellMany_143 rfl rfl rfl ?_
    refine sm_getI (k := 15) (pc' := 147) kX11 (by decide) mw413 dX11_tellMany_144 rfl (fun x9 => ?_)
    refine sm_icmp_le (tgt := 151) (pc' := 150) dX11_tellMany_147 (by decide) rfl ?_ ?_
    · refine sm_aload_n (i := 0) (j := 2) (pc' := 152) dX11_tellMany_151 rfl rfl rfl ?_
      refine sm_getR (k := 7) (pc' := 155) kX11 (by decide) mw405 dX11_tellMany_152 rfl (fun x10 => ?_)
      refine sm_aload_n (i := 0) (j := 2) (pc' := 156) dX11_tellMany_155 rfl rfl rfl ?_
      refine sm_getR (k := 9) (pc' := 159) kX11 (by decide) mw407 dX11_tellMany_156 rfl (fun x11 => ?_)
      refine sm_aload (i := 8) (j := 0) (pc' := 161) dX11_tellMany_159 rfl rfl ?_
      refine sm_cVU (pc' := 164) (ci := 6) (st := []) (F := fun b => fX6_tell b x11 x2 h8) [vR x11, vR x2] yY_yX6_tell rfl mw573 mw306 mw307 (fun b => mX6_tell l D aC B b x11 x2 h8) rfl (by decide) (by decide) (by exact Nat.le_of_ble_eq_true rfl) rfl dX11_tellMany_161 rfl (fun _ h12 => ?_)
      refine sm_aload (i := 8) (j := 0) (pc' := 166) dX11_tellMany_164 rfl rfl ?_
      refine sm_cVI (pc' := 169) (ci := 10) (st := []) (F := fun b => fX10_isMissing b h12) [] yY_yX10_isMissing rfl mw578 mw580 mw581 (fun b => mX10_isMissing l D aC B b h12) rfl (by decide) (by decide) (by exact Nat.le_of_ble_eq_true rfl) rfl dX11_tellMany_166 rfl (fun x13 h14 => ?_)
      refine sm_if_eq (tgt := 179) (pc' := 172) dX11_tellMany_169 (by decide) rfl ?_ ?_
      · refine sm_iconst (v := (0 : Int32)) (pc' := 180) dX11_tellMany_179 rfl (by decide) ?_
        refine sm_lo (lv' := [(0, vR (some a0)), (1, vI a1), (2, vI a2), (3, vJ a3), (6, vI a6)]) [2, 3, 4, 5, 7] rfl ?_
        exact sX11_tellMany_180 l D aC B  K57 hK57 a0 a1 a2 a3 a6 (0 : Int32) h14
      refine sm_iload (i := 5) (j := 6) (pc' := 174) dX11_tellMany_172 rfl rfl ?_
      refine sm_iconst (v := (1 : Int32)) (pc' := 175) dX11_tellMany_174 rfl (by decide) ?_
      refine sm_iadd (pc' := 176) dX11_tellMany_175 rfl ?_
      refine sm_goto (pc' := 180) dX11_tellMany_176 (by decide) ?_
      refine sm_lo (lv' := [(0, vR (some a0)), (1, vI a1), (2, vI a2), (3, vJ a3), (6, vI a6)]) [2, 3, 4, 5, 7] rfl ?_
      exact sX11_tellMany_180 l D aC B  K57 hK57 a0 a1 a2 a3 a6 (a5 + (1 : Int32)) h14
    exact sm_vret rfl dX11_tellMany_150
  exact sm_vret rfl dX11_tellMany_114
noncomputable def fX11_tellMany_57  : Nat → Nat → Int32 → Int32 → Int64 → Int32 → Int32 → sm_H → Option (Unit × sm_H)
  | 0 => fun _ _ _ _ _ _ _ => none
  | n + 1 => fun a0 a1 a2 a3 a5 a6 h =>
    if 0 ≤ (lg_cmp (a6.toInt64) a3) then (
      some ((), h)
    ) else
    if (40 : Int32) ≤ a6 then (
      some ((), h)
    ) else
    (sm_R (sm_get h (some a0) 11 4)).bind fun x1 =>
    (sm_I (sm_get h x1 3 8)).bind fun x2 =>
    if x2 ≤ a6 then (
      (sm_R (sm_get h (some a0) 11 7)).bind fun x3 =>
      (sm_obj h x3 6).bind fun b6 =>
      sm_cb (fX6_pairAt b6 (a6 - a2) h) fun x4 h5 =>
      fX11_tellMany_107 (fX11_tellMany_57 n) a0 a1 a2 a3 a5 a6 x4 h5
    ) else
    (sm_R (sm_get h (some a0) 11 4)).bind fun x7 =>
    (sm_obj h x7 3).bind fun b10 =>
    sm_cb (fX3_pairAt b10 a6 h) fun x8 h9 =>
    fX11_tellMany_107 (fX11_tellMany_57 n) a0 a1 a2 a3 a5 a6 x8 h9
set_option maxRecDepth 100000 in
set_option maxHeartbeats 4000000 in
theorem sX11_tellMany_57 (l : Launch) (D : va_G) (aC : Nat → ClassId) (B : Nat)   (n : Nat) : ∀ (a0 : Nat) (a1 : Int32) (a2 : Int32) (a3 : Int64) (a5 : Int32) (a6 : Int32) (h : sm_H), zS l D aC B cX11_tellMany 10 RX11 5 118 none "tellMany" vlU (fX11_tellMany_57 n a0 a1 a2 a3 a5 a6 h) 57 [(0, vR (some a0)), (1, vI a1), (2, vI a2), (3, vJ a3), (5, vI a5), (6, vI a6)] [] h := by
  induction n with
  | zero => intro a0 a1 a2 a3 a5 a6 h; exact sm_none
  | succ n ih =>
    intro a0 a1 a2 a3 a5 a6 h
    show zS l D aC B cX11_tellMany 10 RX11 5 118 none "tellMany" vlU (fX11_tellMany_57 (n + 1) a0 a1 a2 a3 a5 a6 h) 57 [(0, vR (some a0)), (1, vI a1), (2, vI a2), (3, vJ a3), (5, vI a5), (6, vI a6)] [] h
    unfold fX11_tellMany_57
    refine sm_iload (i := 6) (j := 5) (pc' := 59) dX11_tellMany_57 rfl rfl ?_
    refine sm_i2l (pc' := 60) dX11_tellMany_59 rfl ?_
    refine sm_lload_n (i := 3) (j := 3) (pc' := 61) dX11_tellMany_60 rfl rfl rfl ?_
    refine sm_lcmp (pc' := 62) dX11_tellMany_61 rfl ?_
    refine sm_if_ge (tgt := 228) (pc' := 65) dX11_tellMany_62 (by decide) rfl ?_ ?_
    · exact sm_vret rfl dX11_tellMany_228
    refine sm_iload (i := 6) (j := 5) (pc' := 67) dX11_tellMany_65 rfl rfl ?_
    refine sm_bipush (v := (40 : Int32)) (pc' := 69) dX11_tellMany_67 rfl (by decide) ?_
    refine sm_icmp_ge (tgt := 228) (pc' := 72) dX11_tellMany_69 (by decide) rfl ?_ ?_
    · exact sm_vret rfl dX11_tellMany_228
    refine sm_iload (i := 6) (j := 5) (pc' := 74) dX11_tellMany_72 rfl rfl ?_
    refine sm_aload_n (i := 0) (j := 0) (pc' := 75) dX11_tellMany_74 rfl rfl rfl ?_
    refine sm_getR (k := 4) (pc' := 78) kX11 (by decide) mw399 dX11_tellMany_75 rfl (fun x1 => ?_)
    refine sm_getIN (k := 8) (pc' := 81) kX3 (by decide) mw574 dX11_tellMany_78 rfl (fun x2 => ?_)
    refine sm_icmp_ge (tgt := 96) (pc' := 84) dX11_tellMany_81 (by decide) rfl ?_ ?_
    · refine sm_aload_n (i := 0) (j := 0) (pc' := 97) dX11_tellMany_96 rfl rfl rfl ?_
      refine sm_getR (k := 7) (pc' := 100) kX11 (by decide) mw405 dX11_tellMany_97 rfl (fun x3 => ?_)
      refine sm_iload (i := 6) (j := 5) (pc' := 102) dX11_tellMany_100 rfl rfl ?_
      refine sm_iload_n (i := 2) (j := 2) (pc' := 103) dX11_tellMany_102 rfl rfl rfl ?_
      refine sm_isub (pc' := 104) dX11_tellMany_103 rfl ?_
      refine sm_cVR (pc' := 107) (ci := 6) (st := []) (F := fun b => fX6_pairAt b (a6 - a2) h) [vI (a6 - a2)] yY_yX6_pairAt rfl mw602 mw342 mw343 (fun b => mX6_pairAt l D aC B b (a6 - a2) h) rfl (by decide) (by decide) (by exact Nat.le_of_ble_eq_true rfl) rfl dX11_tellMany_104 rfl (fun x4 h5 => ?_)
      exact sX11_tellMany_107 l D aC B  (fX11_tellMany_57 n) ih a0 a1 a2 a3 a5 a6 x4 h5
    refine sm_aload_n (i := 0) (j := 0) (pc' := 85) dX11_tellMany_84 rfl rfl rfl ?_
    refine sm_getR (k := 4) (pc' := 88) kX11 (by decide) mw399 dX11_tellMany_85 rfl (fun x7 => ?_)
    refine sm_iload (i := 6) (j := 5) (pc' := 90) dX11_tellMany_88 rfl rfl ?_
    refine sm_cVR (pc' := 93) (ci := 3) (st := []) (F := fun b => fX3_pairAt b a6 h) [vI a6] yY_yX3_pairAt rfl mw575 mw78 mw79 (fun b => mX3_pairAt l D aC B b a6 h) rfl (by decide) (by decide) (by exact Nat.le_of_ble_eq_true rfl) rfl dX11_tellMany_90 rfl (fun x8 h9 => ?_)
    refine sm_goto (pc' := 107) dX11_tellMany_93 (by decide) ?_
    exact sX11_tellMany_107 l D aC B  (fX11_tellMany_57 n) ih a0 a1 a2 a3 a5 a6 x8 h9
noncomputable def fX11_tellMany  (a0 : Nat) (h : sm_H) : Option (Unit × sm_H) :=
  (sm_R (sm_get h (some a0) 11 4)).bind fun x1 =>
  (sm_I (sm_get h x1 3 6)).bind fun x2 =>
  sm_let (if x2 < (0 : Int32) then (0 : Int32) else x2) fun x3 =>
  (sm_R (sm_get h (some a0) 11 4)).bind fun x4 =>
  (sm_I (sm_get h x4 3 8)).bind fun x5 =>
  sm_let (if x5 < x3 then x5 else x3) fun x6 =>
  (sm_R (sm_get h (some a0) 11 4)).bind fun x7 =>
  (sm_I (sm_get h x7 3 8)).bind fun x8 =>
  sm_let (x8 - x6) fun x9 =>
  (sm_R (sm_get h (some a0) 11 4)).bind fun x10 =>
  (sm_I (sm_get h x10 3 7)).bind fun x11 =>
  sm_let (if x11 < (0 : Int32) then (0 : Int32) else x11) fun x12 =>
  sm_let ((x6.toInt64) + ((x9.toInt64) * (x12.toInt64))) fun x13 =>
  fX11_tellMany_57 sm_fuel a0 x6 x9 x13 (0 : Int32) (0 : Int32) h
set_option maxRecDepth 100000 in
set_option maxHeartbeats 4000000 in
theorem sX11_tellMany_0 (l : Launch) (D : va_G) (aC : Nat → ClassId) (B : Nat)   (a0 : Nat) (h : sm_H) : zS l D aC B cX11_tellMany 10 RX11 5 118 none "tellMany" vlU (fX11_tellMany a0 h) 0 [(0, vR (some a0))] [] h := by
  unfold fX11_tellMany
  refine sm_aload_n (i := 0) (j := 0) (pc' := 1) dX11_tellMany_0 rfl rfl rfl ?_
  refine sm_getR (k := 4) (pc' := 4) kX11 (by decide) mw399 dX11_tellMany_1 rfl (fun x1 => ?_)
  refine sm_getIN (k := 6) (pc' := 7) kX3 (by decide) mw603 dX11_tellMany_4 rfl (fun x2 => ?_)
  refine sm_iconst (v := (0 : Int32)) (pc' := 8) dX11_tellMany_7 rfl (by decide) ?_
  refine sm_mmaxL (pc' := 11) mw605 mw6 mw7 mw8 (by decide) (Nat.le_of_ble_eq_true rfl) dX11_tellMany_8 rfl (fun x3 => ?_)
  refine sm_aload_n (i := 0) (j := 0) (pc' := 12) dX11_tellMany_11 rfl rfl rfl ?_
  refine sm_getR (k := 4) (pc' := 15) kX11 (by decide) mw399 dX11_tellMany_12 rfl (fun x4 => ?_)
  refine sm_getIN (k := 8) (pc' := 18) kX3 (by decide) mw574 dX11_tellMany_15 rfl (fun x5 => ?_)
  refine sm_mminL (pc' := 21) mw606 mw21 mw7 mw22 (by decide) (Nat.le_of_ble_eq_true rfl) dX11_tellMany_18 rfl (fun x6 => ?_)
  refine sm_istore_n (i := 1) (lv' := [(1, vI x6), (0, vR (some a0))]) (pc' := 22) dX11_tellMany_21 rfl rfl (by decide) rfl ?_
  refine sm_aload_n (i := 0) (j := 1) (pc' := 23) dX11_tellMany_22 rfl rfl rfl ?_
  refine sm_getR (k := 4) (pc' := 26) kX11 (by decide) mw399 dX11_tellMany_23 rfl (fun x7 => ?_)
  refine sm_getIN (k := 8) (pc' := 29) kX3 (by decide) mw574 dX11_tellMany_26 rfl (fun x8 => ?_)
  refine sm_iload_n (i := 1) (j := 0) (pc' := 30) dX11_tellMany_29 rfl rfl rfl ?_
  refine sm_isub (pc' := 31) dX11_tellMany_30 rfl ?_
  refine sm_letIv (fun x9 => ?_)
  refine sm_istore_n (i := 2) (lv' := [(2, vI x9), (1, vI x6), (0, vR (some a0))]) (pc' := 32) dX11_tellMany_31 rfl rfl (by decide) rfl ?_
  refine sm_iload_n (i := 1) (j := 1) (pc' := 33) dX11_tellMany_32 rfl rfl rfl ?_
  refine sm_i2l (pc' := 34) dX11_tellMany_33 rfl ?_
  refine sm_iload_n (i := 2) (j := 0) (pc' := 35) dX11_tellMany_34 rfl rfl rfl ?_
  refine sm_i2l (pc' := 36) dX11_tellMany_35 rfl ?_
  refine sm_aload_n (i := 0) (j := 2) (pc' := 37) dX11_tellMany_36 rfl rfl rfl ?_
  refine sm_getR (k := 4) (pc' := 40) kX11 (by decide) mw399 dX11_tellMany_37 rfl (fun x10 => ?_)
  refine sm_getIN (k := 7) (pc' := 43) kX3 (by decide) mw604 dX11_tellMany_40 rfl (fun x11 => ?_)
  refine sm_iconst (v := (0 : Int32)) (pc' := 44) dX11_tellMany_43 rfl (by decide) ?_
  refine sm_mmaxL (pc' := 47) mw605 mw6 mw7 mw8 (by decide) (Nat.le_of_ble_eq_true rfl) dX11_tellMany_44 rfl (fun x12 => ?_)
  refine sm_i2l (pc' := 48) dX11_tellMany_47 rfl ?_
  refine sm_lmul (pc' := 49) dX11_tellMany_48 rfl ?_
  refine sm_ladd (pc' := 50) dX11_tellMany_49 rfl ?_
  refine sm_letJv (fun x13 => ?_)
  refine sm_lstore_n (i := 3) (lv' := [(3, vJ x13), (2, vI x9), (1, vI x6), (0, vR (some a0))]) (pc' := 51) dX11_tellMany_50 rfl rfl (by decide) rfl ?_
  refine sm_iconst (v := (0 : Int32)) (pc' := 52) dX11_tellMany_51 rfl (by decide) ?_
  refine sm_istore (i := 5) (lv' := [(5, vI (0 : Int32)), (3, vJ x13), (2, vI x9), (1, vI x6), (0, vR (some a0))]) (pc' := 54) dX11_tellMany_52 rfl (by decide) rfl ?_
  refine sm_iconst (v := (0 : Int32)) (pc' := 55) dX11_tellMany_54 rfl (by decide) ?_
  refine sm_istore (i := 6) (lv' := [(6, vI (0 : Int32)), (5, vI (0 : Int32)), (3, vJ x13), (2, vI x9), (1, vI x6), (0, vR (some a0))]) (pc' := 57) dX11_tellMany_55 rfl (by decide) rfl ?_
  refine sm_lo (lv' := [(0, vR (some a0)), (1, vI x6), (2, vI x9), (3, vJ x13), (5, vI (0 : Int32)), (6, vI (0 : Int32))]) [5, 4, 3, 2, 1, 0] rfl ?_
  exact sX11_tellMany_57 l D aC B   sm_fuel a0 x6 x9 x13 (0 : Int32) (0 : Int32) h
set_option maxRecDepth 100000 in
theorem mX11_tellMany (l : Launch) (D : va_G) (aC : Nat → ClassId) (B : Nat) (a0 : Nat) (h : sm_H) : sm_M l D vwCl gAts aC B gTs gNs gOs yX11_tellMany cX11_tellMany 10 none 5 118 vlU [vR (some a0)] h (fX11_tellMany a0 h) := sm_meth [vR (some a0)] yY_yX11_tellMany gG gN (Nat.le_of_ble_eq_true rfl) rfl (sX11_tellMany_0 l D aC B a0 h)
