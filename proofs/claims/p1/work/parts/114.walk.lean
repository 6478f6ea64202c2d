-- M:TreeAgentModel.size(I)I
noncomputable def fX12_size_114  (a0 : Nat) (a2 : Int64) (h : sm_H) : Option (Int32 × sm_H) :=
  (sm_I (sm_get h (some a0) 12 45)).bind fun x1 =>
  if x1 = 0 then (
    (sm_I (sm_get h (some a0) 12 44)).bind fun x3 =>
    some (x3 + (a2.toInt32), h)
  ) else
  (sm_I (sm_get h (some a0) 12 44)).bind fun x2 =>
  some (x2, h)
set_option maxRecDepth 100000 in
set_option maxHeartbeats 4000000 in
theorem sX12_size_114 (l : Launch) (D : va_G) (aC : Nat → ClassId) (B : Nat)   (a0 : Nat) (a2 : Int64) (h : sm_H) : zS l D aC B cX12_size 6 RX12 1 25 (some .int) "size" vlI (fX12_size_114 a0 a2 h) 114 [(0, vR (some a0)), (2, vJ a2)] [] h := by
  unfold fX12_size_114
  refine sm_aload_n (i := 0) (j := 0) (pc' := 115) dX12_size_114 rfl rfl rfl ?_
  refine sm_getI (k := 45) (pc' := 118) kX12 (by decide) mw756 dX12_size_115 rfl (fun x1 => ?_)
  refine sm_if_ne (tgt := 131) (pc' := 121) dX12_size_118 (by decide) rfl ?_ ?_
  · refine sm_aload_n (i := 0) (j := 0) (pc' := 132) dX12_size_131 rfl rfl rfl ?_
    refine sm_getI (k := 44) (pc' := 135) kX12 (by decide) mw755 dX12_size_132 rfl (fun x2 => ?_)
    exact sm_iret rfl dX12_size_135
  refine sm_aload_n (i := 0) (j := 0) (pc' := 122) dX12_size_121 rfl rfl rfl ?_
  refine sm_getI (k := 44) (pc' := 125) kX12 (by decide) mw755 dX12_size_122 rfl (fun x3 => ?_)
  refine sm_lload_n (i := 2) (j := 1) (pc' := 126) dX12_size_125 rfl rfl rfl ?_
  refine sm_l2i (pc' := 127) dX12_size_126 rfl ?_
  refine sm_iadd (pc' := 128) dX12_size_127 rfl ?_
  refine sm_goto (pc' := 135) dX12_size_128 (by decide) ?_
  exact sm_iret rfl dX12_size_135
noncomputable def fX12_size_90  (a0 : Nat) (a1 : Int32) (a2 : Int64) (h : sm_H) : Option (Int32 × sm_H) :=
  (sm_I (sm_get h (some a0) 12 45)).bind fun x1 =>
  if x1 = 0 then (
    (sm_I (sm_get h (some a0) 12 44)).bind fun x2 =>
    if (lg_cmp a2 ((a1 - x2).toInt64)) ≤ 0 then (
      fX12_size_114 a0 a2 h
    ) else
    (sm_put h (some a0) 12 45 (sm_v (vI (1 : Int32)))).bind fun h3 =>
    fX12_size_114 a0 a2 h3
  ) else
  fX12_size_114 a0 a2 h
set_option maxRecDepth 100000 in
set_option maxHeartbeats 4000000 in
theorem sX12_size_90 (l : Launch) (D : va_G) (aC : Nat → ClassId) (B : Nat)   (a0 : Nat) (a1 : Int32) (a2 : Int64) (h : sm_H) : zS l D aC B cX12_size 6 RX12 1 25 (some .int) "size" vlI (fX12_size_90 a0 a1 a2 h) 90 [(0, vR (some a0)), (1, vI a1), (2, vJ a2)] [] h := by
  unfold fX12_size_90
  refine sm_aload_n (i := 0) (j := 0) (pc' := 91) dX12_size_90 rfl rfl rfl ?_
  refine sm_getI (k := 45) (pc' := 94) kX12 (by decide) mw756 dX12_size_91 rfl (fun x1 => ?_)
  refine sm_if_ne (tgt := 114) (pc' := 97) dX12_size_94 (by decide) rfl ?_ ?_
  · refine sm_lo (lv' := [(0, vR (some a0)), (2, vJ a2)]) [0, 2] rfl ?_
    exact sX12_size_114 l D aC B  a0 a2 h
  refine sm_lload_n (i := 2) (j := 2) (pc' := 98) dX12_size_97 rfl rfl rfl ?_
  refine sm_iload_n (i := 1) (j := 1) (pc' := 99) dX12_size_98 rfl rfl rfl ?_
  refine sm_aload_n (i := 0) (j := 0) (pc' := 100) dX12_size_99 rfl rfl rfl ?_
  refine sm_getI (k := 44) (pc' := 103) kX12 (by decide) mw755 dX12_size_100 rfl (fun x2 => ?_)
  refine sm_isub (pc' := 104) dX12_size_103 rfl ?_
  refine sm_i2l (pc' := 105) dX12_size_104 rfl ?_
  refine sm_lcmp (pc' := 106) dX12_size_105 rfl ?_
  refine sm_if_le (tgt := 114) (pc' := 109) dX12_size_106 (by decide) rfl ?_ ?_
  · refine sm_lo (lv' := [(0, vR (some a0)), (2, vJ a2)]) [0, 2] rfl ?_
    exact sX12_size_114 l D aC B  a0 a2 h
  refine sm_aload_n (i := 0) (j := 0) (pc' := 110) dX12_size_109 rfl rfl rfl ?_
  refine sm_iconst (v := (1 : Int32)) (pc' := 111) dX12_size_110 rfl (by decide) ?_
  refine sm_putI (k := 45) (pc' := 114) kX12 (by decide) mw756 rfl rfl dX12_size_111 rfl (fun h3 => ?_)
  refine sm_lo (lv' := [(0, vR (some a0)), (2, vJ a2)]) [0, 2] rfl ?_
  exact sX12_size_114 l D aC B  a0 a2 h3
noncomputable def fX12_size_65  : Nat → Nat → Int32 → Int64 → Int32 → Int32 → sm_H → Option (Int32 × sm_H)
  | 0 => fun _ _ _ _ _ _ => none
  | n + 1 => fun a0 a1 a2 a4 a5 h =>
    if a4 ≤ a5 then (
      fX12_size_90 a0 a1 a2 h
    ) else
    (sm_obj h (some a0) 12).bind fun b5 =>
    sm_cb (fX12_octet b5 a1 h) fun x1 h2 =>
    sm_let ((a2 <<< ((8 : Int32).toInt64 &&& 63)) ||| (x1.toInt64)) fun x3 =>
    sm_let (a5 + (1 : Int32)) fun x4 =>
    (fX12_size_65 n) a0 a1 x3 a4 x4 h2
set_option maxRecDepth 100000 in
set_option maxHeartbeats 4000000 in
theorem sX12_size_65 (l : Launch) (D : va_G) (aC : Nat → ClassId) (B : Nat)   (n : Nat) : ∀ (a0 : Nat) (a1 : Int32) (a2 : Int64) (a4 : Int32) (a5 : Int32) (h : sm_H), zS l D aC B cX12_size 6 RX12 1 25 (some .int) "size" vlI (fX12_size_65 n a0 a1 a2 a4 a5 h) 65 [(0, vR (some a0)), (1, vI a1), (2, vJ a2), (4, vI a4), (5, vI a5)] [] h := by
  induction n with
  | zero => intro a0 a1 a2 a4 a5 h; exact sm_none
  | succ n ih =>
    intro a0 a1 a2 a4 a5 h
    show zS l D aC B cX12_size 6 RX12 1 25 (some .int) "size" vlI (fX12_size_65 (n + 1) a0 a1 a2 a4 a5 h) 65 [(0, vR (some a0)), (1, vI a1), (2, vJ a2), (4, vI a4), (5, vI a5)] [] h
    unfold fX12_size_65
    refine sm_iload (i := 5) (j := 4) (pc' := 67) dX12_size_65 rfl rfl ?_
    refine sm_iload (i := 4) (j := 3) (pc' := 69) dX12_size_67 rfl rfl ?_
    refine sm_icmp_ge (tgt := 90) (pc' := 72) dX12_size_69 (by decide) rfl ?_ ?_
    · refine sm_lo (lv' := [(0, vR (some a0)), (1, vI a1), (2, vJ a2)]) [0, 1, 2] rfl ?_
      exact sX12_size_90 l D aC B  a0 a1 a2 h
    refine sm_lload_n (i := 2) (j := 2) (pc' := 73) dX12_size_72 rfl rfl rfl ?_
    refine sm_bipush (v := (8 : Int32)) (pc' := 75) dX12_size_73 rfl (by decide) ?_
    refine sm_lshl (pc' := 76) dX12_size_75 rfl ?_
    refine sm_aload_n (i := 0) (j := 0) (pc' := 77) dX12_size_76 rfl rfl rfl ?_
    refine sm_iload_n (i := 1) (j := 1) (pc' := 78) dX12_size_77 rfl rfl rfl ?_
    refine sm_cVI (pc' := 81) (ci := 12) (st := [vJ (a2 <<< ((8 : Int32).toInt64 &&& 63))]) (F := fun b => fX12_octet b a1 h) [vI a1] yY_yX12_octet rfl mw757 mw758 mw759 (fun b => mX12_octet l D aC B b a1 h) rfl (by decide) (by decide) (by exact Nat.le_of_ble_eq_true rfl) rfl dX12_size_78 rfl (fun x1 h2 => ?_)
    refine sm_i2l (pc' := 82) dX12_size_81 rfl ?_
    refine sm_lor (pc' := 83) dX12_size_82 rfl ?_
    refine sm_letJv (fun x3 => ?_)
    refine sm_lstore_n (i := 2) (lv' := [(2, vJ x3), (0, vR (some a0)), (1, vI a1), (4, vI a4), (5, vI a5)]) (pc' := 84) dX12_size_83 rfl rfl (by decide) rfl ?_
    refine sm_iincL (i := 5) (j := 4) (x := a5) (d := (1 : Int32)) (fun x4 => [(5, vI x4), (2, vJ x3), (0, vR (some a0)), (1, vI a1), (4, vI a4)]) (pc' := 87) dX12_size_84 rfl rfl (by decide) (by decide) (fun _ => rfl) (fun x4 => ?_)
    refine sm_goto (pc' := 65) dX12_size_87 (by decide) ?_
    refine sm_lo (lv' := [(0, vR (some a0)), (1, vI a1), (2, vJ x3), (4, vI a4), (5, vI x4)]) [2, 3, 1, 4, 0] rfl ?_
    exact ih a0 a1 x3 a4 x4 h2
noncomputable def fX12_size  (a0 : Nat) (a1 : Int32) (h : sm_H) : Option (Int32 × sm_H) :=
  (sm_obj h (some a0) 12).bind fun b13 =>
  sm_cb (fX12_octet b13 a1 h) fun x1 h2 =>
  sm_let (x1.toInt64) fun x3 =>
  if (lg_cmp x3 (128 : Int64)) < 0 then (
    fX12_size_90 a0 a1 x3 h2
  ) else
  sm_let ((x3.toInt32) - (128 : Int32)) fun x4 =>
  sm_cb (fX12_in (x4.toInt64) (1 : Int64) (4 : Int64) h2) fun x5 h6 =>
  if x5 = 0 then (
    (sm_I (sm_get h6 (some a0) 12 45)).bind fun x7 =>
    if x7 = 0 then (
      (sm_put h6 (some a0) 12 45 (sm_v (vI (1 : Int32)))).bind fun h11 =>
      (sm_I (sm_get h11 (some a0) 12 44)).bind fun x12 =>
      some (x12, h11)
    ) else
    (sm_I (sm_get h6 (some a0) 12 45)).bind fun x8 =>
    (sm_put h6 (some a0) 12 45 (sm_v (vI x8))).bind fun h9 =>
    (sm_I (sm_get h9 (some a0) 12 44)).bind fun x10 =>
    some (x10, h9)
  ) else
  fX12_size_65 sm_fuel a0 a1 (0 : Int64) x4 (0 : Int32) h6
set_option maxRecDepth 100000 in
set_option maxHeartbeats 4000000 in
theorem sX12_size_0 (l : Launch) (D : va_G) (aC : Nat → ClassId) (B : Nat)   (a0 : Nat) (a1 : Int32) (h : sm_H) : zS l D aC B cX12_size 6 RX12 1 25 (some .int) "size" vlI (fX12_size a0 a1 h) 0 [(0, vR (some a0)), (1, vI a1)] [] h := by
  unfold fX12_size
  refine sm_aload_n (i := 0) (j := 0) (pc' := 1) dX12_size_0 rfl rfl rfl ?_
  refine sm_iload_n (i := 1) (j := 1) (pc' := 2) dX12_size_1 rfl rfl rfl ?_
  refine sm_cVI (pc' := 5) (ci := 12) (st := []) (F := fun b => fX12_octet b a1 h) [vI a1] yY_yX12_octet rfl mw757 mw758 mw759 (fun b => mX12_octet l D aC B b a1 h) rfl (by decide) (by decide) (by exact Nat.le_of_ble_eq_true rfl) rfl dX12_size_2 rfl (fun x1 h2 => ?_)
  refine sm_i2l (pc' := 6) dX12_size_5 rfl ?_
  refine sm_letJv (fun x3 => ?_)
  refine sm_lstore_n (i := 2) (lv' := [(2, vJ x3), (0, vR (some a0)), (1, vI a1)]) (pc' := 7) dX12_size_6 rfl rfl (by decide) rfl ?_
  refine sm_lload_n (i := 2) (j := 0) (pc' := 8) dX12_size_7 rfl rfl rfl ?_
  refine sm_ldc2 (v := (128 : Int64)) (pc' := 11) dX12_size_8 rfl mw760 ?_
  refine sm_lcmp (pc' := 12) dX12_size_11 rfl ?_
  refine sm_if_lt (tgt := 90) (pc' := 15) dX12_size_12 (by decide) rfl ?_ ?_
  · refine sm_lo (lv' := [(0, vR (some a0)), (1, vI a1), (2, vJ x3)]) [1, 2, 0] rfl ?_
    exact sX12_size_90 l D aC B  a0 a1 x3 h2
  refine sm_lload_n (i := 2) (j := 0) (pc' := 16) dX12_size_15 rfl rfl rfl ?_
  refine sm_l2i (pc' := 17) dX12_size_16 rfl ?_
  refine sm_sipush (v := (128 : Int32)) (pc' := 20) dX12_size_17 rfl (by decide) ?_
  refine sm_isub (pc' := 21) dX12_size_20 rfl ?_
  refine sm_letIv (fun x4 => ?_)
  refine sm_istore (i := 4) (lv' := [(4, vI x4), (2, vJ x3), (0, vR (some a0)), (1, vI a1)]) (pc' := 23) dX12_size_21 rfl (by decide) rfl ?_
  refine sm_iload (i := 4) (j := 0) (pc' := 25) dX12_size_23 rfl rfl ?_
  refine sm_i2l (pc' := 26) dX12_size_25 rfl ?_
  refine sm_lconst (v := (1 : Int64)) (pc' := 27) dX12_size_26 rfl (by decide) ?_
  refine sm_ldc2 (v := (4 : Int64)) (pc' := 30) dX12_size_27 rfl mw761 ?_
  refine sm_cSI (pc' := 33) (st := []) [vJ (x4.toInt64), vJ (1 : Int64), vJ (4 : Int64)] yY_yX12_in mw701 mw702 (mX12_in l D aC B (x4.toInt64) (1 : Int64) (4 : Int64) h2) rfl (by decide) (by decide) (by exact Nat.le_of_ble_eq_true rfl) rfl dX12_size_30 rfl (fun x5 h6 => ?_)
  refine sm_if_ne (tgt := 60) (pc' := 36) dX12_size_33 (by decide) rfl ?_ ?_
  · refine sm_lconst (v := (0 : Int64)) (pc' := 61) dX12_size_60 rfl (by decide) ?_
    refine sm_lstore_n (i := 2) (lv' := [(2, vJ (0 : Int64)), (4, vI x4), (0, vR (some a0)), (1, vI a1)]) (pc' := 62) dX12_size_61 rfl rfl (by decide) rfl ?_
    refine sm_iconst (v := (0 : Int32)) (pc' := 63) dX12_size_62 rfl (by decide) ?_
    refine sm_istore (i := 5) (lv' := [(5, vI (0 : Int32)), (2, vJ (0 : Int64)), (4, vI x4), (0, vR (some a0)), (1, vI a1)]) (pc' := 65) dX12_size_63 rfl (by decide) rfl ?_
    refine sm_lo (lv' := [(0, vR (some a0)), (1, vI a1), (2, vJ (0 : Int64)), (4, vI x4), (5, vI (0 : Int32))]) [3, 4, 1, 2, 0] rfl ?_
    exact sX12_size_65 l D aC B   sm_fuel a0 a1 (0 : Int64) x4 (0 : Int32) h6
  refine sm_aload_n (i := 0) (j := 2) (pc' := 37) dX12_size_36 rfl rfl rfl ?_
  refine sm_aload_n (i := 0) (j := 2) (pc' := 38) dX12_size_37 rfl rfl rfl ?_
  refine sm_getI (k := 45) (pc' := 41) kX12 (by decide) mw756 dX12_size_38 rfl (fun x7 => ?_)
  refine sm_if_ne (tgt := 48) (pc' := 44) dX12_size_41 (by decide) rfl ?_ ?_
  · refine sm_aload_n (i := 0) (j := 2) (pc' := 49) dX12_size_48 rfl rfl rfl ?_
    refine sm_getI (k := 45) (pc' := 52) kX12 (by decide) mw756 dX12_size_49 rfl (fun x8 => ?_)
    refine sm_putI (k := 45) (pc' := 55) kX12 (by decide) mw756 rfl rfl dX12_size_52 rfl (fun h9 => ?_)
    refine sm_aload_n (i := 0) (j := 2) (pc' := 56) dX12_size_55 rfl rfl rfl ?_
    refine sm_getI (k := 44) (pc' := 59) kX12 (by decide) mw755 dX12_size_56 rfl (fun x10 => ?_)
    exact sm_iret rfl dX12_size_59
  refine sm_iconst (v := (1 : Int32)) (pc' := 45) dX12_size_44 rfl (by decide) ?_
  refine sm_goto (pc' := 52) dX12_size_45 (by decide) ?_
  refine sm_putI (k := 45) (pc' := 55) kX12 (by decide) mw756 rfl rfl dX12_size_52 rfl (fun h11 => ?_)
  refine sm_aload_n (i := 0) (j := 2) (pc' := 56) dX12_size_55 rfl rfl rfl ?_
  refine sm_getI (k := 44) (pc' := 59) kX12 (by decide) mw755 dX12_size_56 rfl (fun x12 => ?_)
  exact sm_iret rfl dX12_size_59
set_option maxRecDepth 100000 in
theorem mX12_size (l : Launch) (D : va_G) (aC : Nat → ClassId) (B : Nat) (a0 : Nat) (a1 : Int32) (h : sm_H) : sm_M l D vwCl gAts aC B gTs gNs gOs yX12_size cX12_size 6 (some .int) 1 25 vlI [vR (some a0), vI a1] h (fX12_size a0 a1 h) := sm_meth [vR (some a0), vI a1] yY_yX12_size gG gN (Nat.le_of_ble_eq_true rfl) rfl (sX12_size_0 l D aC B a0 a1 h)
-- M:TreeAgentModel.field(II)I
noncomputable def fX12_field  (a0 : Nat) (a1 : Int32) (a2 : Int32) (h : sm_H) : Option (Int32 × sm_H) :=
  (sm_obj h (some a0) 12).bind fun b14 =>
  sm_cb (fX12_octet b14 a2 h) fun x1 h2 =>
  (sm_I (sm_get h2 (some a0) 12 45)).bind fun x3 =>
  if x3 = 0 then (
    if x1 = a1 then (
      (sm_obj h2 (some a0) 12).bind fun b9 =>
      sm_cb (fX12_size b9 a2 h2) fun x7 h8 =>
      some (x7, h8)
    ) else
    (sm_put h2 (some a0) 12 45 (sm_v (vI (1 : Int32)))).bind fun h10 =>
    (sm_obj h10 (some a0) 12).bind fun b13 =>
    sm_cb (fX12_size b13 a2 h10) fun x11 h12 =>
    some (x11, h12)
  ) else
  (sm_obj h2 (some a0) 12).bind fun b6 =>
  sm_cb (fX12_size b6 a2 h2) fun x4 h5 =>
  some (x4, h5)
set_option maxRecDepth 100000 in
set_option maxHeartbeats 4000000 in
theorem sX12_field_0 (l : Launch) (D : va_G) (aC : Nat → ClassId) (B : Nat)   (a0 : Nat) (a1 : Int32) (a2 : Int32) (h : sm_H) : zS l D aC B cX12_field 4 RX12 2 50 (some .int) "field" vlI (fX12_field a0 a1 a2 h) 0 [(0, vR (some a0)), (1, vI a1), (2, vI a2)] [] h := by
  unfold fX12_field
  refine sm_aload_n (i := 0) (j := 0) (pc' := 1) dX12_field_0 rfl rfl rfl ?_
  refine sm_iload_n (i := 2) (j := 2) (pc' := 2) dX12_field_1 rfl rfl rfl ?_
  refine sm_cVI (pc' := 5) (ci := 12) (st := []) (F := fun b => fX12_octet b a2 h) [vI a2] yY_yX12_octet rfl mw757 mw758 mw759 (fun b => mX12_octet l D aC B b a2 h) rfl (by decide) (by decide) (by exact Nat.le_of_ble_eq_true rfl) rfl dX12_field_2 rfl (fun x1 h2 => ?_)
  refine sm_istore_n (i := 3) (lv' := [(3, vI x1), (0, vR (some a0)), (1, vI a1), (2, vI a2)]) (pc' := 6) dX12_field_5 rfl rfl (by decide) rfl ?_
  refine sm_aload_n (i := 0) (j := 1) (pc' := 7) dX12_field_6 rfl rfl rfl ?_
  refine sm_getI (k := 45) (pc' := 10) kX12 (by decide) mw756 dX12_field_7 rfl (fun x3 => ?_)
  refine sm_if_ne (tgt := 23) (pc' := 13) dX12_field_10 (by decide) rfl ?_ ?_
  · refine sm_aload_n (i := 0) (j := 1) (pc' := 24) dX12_field_23 rfl rfl rfl ?_
    refine sm_iload_n (i := 2) (j := 3) (pc' := 25) dX12_field_24 rfl rfl rfl ?_
    refine sm_cVI (pc' := 28) (ci := 12) (st := []) (F := fun b => fX12_size b a2 h2) [vI a2] yY_yX12_size rfl mw762 mw763 mw764 (fun b => mX12_size l D aC B b a2 h2) rfl (by decide) (by decide) (by exact Nat.le_of_ble_eq_true rfl) rfl dX12_field_25 rfl (fun x4 h5 => ?_)
    exact sm_iret rfl dX12_field_28
  refine sm_iload_n (i := 3) (j := 0) (pc' := 14) dX12_field_13 rfl rfl rfl ?_
  refine sm_iload_n (i := 1) (j := 2) (pc' := 15) dX12_field_14 rfl rfl rfl ?_
  refine sm_icmp_eq (tgt := 23) (pc' := 18) dX12_field_15 (by decide) rfl ?_ ?_
  · refine sm_aload_n (i := 0) (j := 1) (pc' := 24) dX12_field_23 rfl rfl rfl ?_
    refine sm_iload_n (i := 2) (j := 3) (pc' := 25) dX12_field_24 rfl rfl rfl ?_
    refine sm_cVI (pc' := 28) (ci := 12) (st := []) (F := fun b => fX12_size b a2 h2) [vI a2] yY_yX12_size rfl mw762 mw763 mw764 (fun b => mX12_size l D aC B b a2 h2) rfl (by decide) (by decide) (by exact Nat.le_of_ble_eq_true rfl) rfl dX12_field_25 rfl (fun x7 h8 => ?_)
    exact sm_iret rfl dX12_field_28
  refine sm_aload_n (i := 0) (j := 1) (pc' := 19) dX12_field_18 rfl rfl rfl ?_
  refine sm_iconst (v := (1 : Int32)) (pc' := 20) dX12_field_19 rfl (by decide) ?_
  refine sm_putI (k := 45) (pc' := 23) kX12 (by decide) mw756 rfl rfl dX12_field_20 rfl (fun h10 => ?_)
  refine sm_aload_n (i := 0) (j := 1) (pc' := 24) dX12_field_23 rfl rfl rfl ?_
  refine sm_iload_n (i := 2) (j := 3) (pc' := 25) dX12_field_24 rfl rfl rfl ?_
  refine sm_cVI (pc' := 28) (ci := 12) (st := []) (F := fun b => fX12_size b a2 h10) [vI a2] yY_yX12_size rfl mw762 mw763 mw764 (fun b => mX12_size l D aC B b a2 h10) rfl (by decide) (by decide) (by exact Nat.le_of_ble_eq_true rfl) rfl dX12_field_25 rfl (fun x11 h12 => ?_)
  exact sm_iret rfl dX12_field_28
set_option maxRecDepth 100000 in
theorem mX12_field (l : Launch) (D : va_G) (aC : Nat → ClassId) (B : Nat) (a0 : Nat) (a1 : Int32) (a2 : Int32) (h : sm_H) : sm_M l D vwCl gAts aC B gTs gNs gOs yX12_field cX12_field 4 (some .int) 2 50 vlI [vR (some a0), vI a1, vI a2] h (fX12_field a0 a1 a2 h) := sm_meth [vR (some a0), vI a1, vI a2] yY_yX12_field gG gN (Nat.le_of_ble_eq_true rfl) rfl (sX12_field_0 l D aC B a0 a1 a2 h)
-- M:TreeAgentModel.read(I)J
noncomputable def fX12_read_151  (a0 : Nat) (a4 : Int64) (s0 : Int32) (h : sm_H) : Option (Int64 × sm_H) :=
  if s0 = 0 then (
    (sm_put h (some a0) 12 45 (sm_v (vI (1 : Int32)))).bind fun h1 =>
    some (a4, h1)
  ) else
  (sm_put h (some a0) 12 45 (sm_v (vI (0 : Int32)))).bind fun h2 =>
  some (a4, h2)
set_option maxRecDepth 100000 in
set_option maxHeartbeats 4000000 in
theorem sX12_read_151 (l : Launch) (D : va_G) (aC : Nat → ClassId) (B : Nat)   (a0 : Nat) (a4 : Int64) (s0 : Int32) (h : sm_H) : zS l D aC B cX12_read 7 RX12 1 25 (some .long) "read" vlJ (fX12_read_151 a0 a4 s0 h) 151 [(0, vR (some a0)), (4, vJ a4)] [vI s0] h := by
  unfold fX12_read_151
  refine sm_istore (i := 6) (lv' := [(6, vI s0), (0, vR (some a0)), (4, vJ a4)]) (pc' := 153) dX12_read_151 rfl (by decide) rfl ?_
  refine sm_aload_n (i := 0) (j := 1) (pc' := 154) dX12_read_153 rfl rfl rfl ?_
  refine sm_iload (i := 6) (j := 0) (pc' := 156) dX12_read_154 rfl rfl ?_
  refine sm_if_eq (tgt := 163) (pc' := 159) dX12_read_156 (by decide) rfl ?_ ?_
  · refine sm_iconst (v := (1 : Int32)) (pc' := 164) dX12_read_163 rfl (by decide) ?_
    refine sm_putI (k := 45) (pc' := 167) kX12 (by decide) mw756 rfl rfl dX12_read_164 rfl (fun h1 => ?_)
    refine sm_lload (i := 4) (j := 2) (pc' := 169) dX12_read_167 rfl rfl ?_
    exact sm_lret rfl dX12_read_169
  refine sm_iconst (v := (0 : Int32)) (pc' := 160) dX12_read_159 rfl (by decide) ?_
  refine sm_goto (pc' := 164) dX12_read_160 (by decide) ?_
  refine sm_putI (k := 45) (pc' := 167) kX12 (by decide) mw756 rfl rfl dX12_read_164 rfl (fun h2 => ?_)
  refine sm_lload (i := 4) (j := 2) (pc' := 169) dX12_read_167 rfl rfl ?_
  exact sm_lret rfl dX12_read_169
noncomputable def fX12_read_127  (a0 : Nat) (a3 : Int32) (a4 : Int64) (s0 : Int32) (s1 : Option Nat) (h : sm_H) : Option (Int64 × sm_H) :=
  if s0 = 0 ∨ s0 = 1 then (
  (sm_put h s1 12 58 (sm_v (vI s0))).bind fun h1 =>
    if a3 = 0 then (
      fX12_read_151 a0 a4 (1 : Int32) h1
    ) else
    if a3 = (-1 : Int32) then (
      if 0 ≤ (lg_cmp a4 (0 : Int64)) then (
        fX12_read_151 a0 a4 (0 : Int32) h1
      ) else
      fX12_read_151 a0 a4 (1 : Int32) h1
    ) else
    fX12_read_151 a0 a4 (0 : Int32) h1
  ) else none
set_option maxRecDepth 100000 in
set_option maxHeartbeats 4000000 in
theorem sX12_read_127 (l : Launch) (D : va_G) (aC : Nat → ClassId) (B : Nat)   (a0 : Nat) (a3 : Int32) (a4 : Int64) (s0 : Int32) (s1 : Option Nat) (h : sm_H) : zS l D aC B cX12_read 7 RX12 1 25 (some .long) "read" vlJ (fX12_read_127 a0 a3 a4 s0 s1 h) 127 [(0, vR (some a0)), (3, vI a3), (4, vJ a4)] [vI s0, vR s1] h := by
  unfold fX12_read_127
  refine sm_putZ (k := 58) (pc' := 130) kX12 (by decide) mw765 rfl rfl dX12_read_127 rfl (fun h1 => ?_)
  refine sm_iload_n (i := 3) (j := 1) (pc' := 131) dX12_read_130 rfl rfl rfl ?_
  refine sm_if_eq (tgt := 146) (pc' := 134) dX12_read_131 (by decide) rfl ?_ ?_
  · refine sm_iconst (v := (1 : Int32)) (pc' := 147) dX12_read_146 rfl (by decide) ?_
    refine sm_goto (pc' := 151) dX12_read_147 (by decide) ?_
    refine sm_lo (lv' := [(0, vR (some a0)), (4, vJ a4)]) [0, 2] rfl ?_
    exact sX12_read_151 l D aC B  a0 a4 (1 : Int32) h1
  refine sm_iload_n (i := 3) (j := 1) (pc' := 135) dX12_read_134 rfl rfl rfl ?_
  refine sm_iconst (v := (-1 : Int32)) (pc' := 136) dX12_read_135 rfl (by decide) ?_
  refine sm_icmp_ne (tgt := 150) (pc' := 139) dX12_read_136 (by decide) rfl ?_ ?_
  · refine sm_iconst (v := (0 : Int32)) (pc' := 151) dX12_read_150 rfl (by decide) ?_
    refine sm_lo (lv' := [(0, vR (some a0)), (4, vJ a4)]) [0, 2] rfl ?_
    exact sX12_read_151 l D aC B  a0 a4 (0 : Int32) h1
  refine sm_lload (i := 4) (j := 2) (pc' := 141) dX12_read_139 rfl rfl ?_
  refine sm_lconst (v := (0 : Int64)) (pc' := 142) dX12_read_141 rfl (by decide) ?_
  refine sm_lcmp (pc' := 143) dX12_read_142 rfl ?_
  refine sm_if_ge (tgt := 150) (pc' := 146) dX12_read_143 (by decide) rfl ?_ ?_
  · refine sm_iconst (v := (0 : Int32)) (pc' := 151) dX12_read_150 rfl (by decide) ?_
    refine sm_lo (lv' := [(0, vR (some a0)), (4, vJ a4)]) [0, 2] rfl ?_
    exact sX12_read_151 l D aC B  a0 a4 (0 : Int32) h1
  refine sm_iconst (v := (1 : Int32)) (pc' := 147) dX12_read_146 rfl (by decide) ?_
  refine sm_goto (pc' := 151) dX12_read_147 (by decide) ?_
  refine sm_lo (lv' := [(0, vR (some a0)), (4, vJ a4)]) [0, 2] rfl ?_
  exact sX12_read_151 l D aC B  a0 a4 (1 : Int32) h1
noncomputable def fX12_read_57  : Nat → Nat → Int32 → Int32 → Int32 → Int64 → Int32 → sm_H → Option (Int64 × sm_H)
  | 0 => fun _ _ _ _ _ _ _ => none
  | n + 1 => fun a0 a1 a2 a3 a4 a6 h =>
    if a2 ≤ a6 then (
      (sm_put h (some a0) 12 44 (sm_v (vI a1))).bind fun h1 =>
      if (0 : Int32) = 0 ∨ (0 : Int32) = 1 then (
      (sm_put h1 (some a0) 12 58 (sm_v (vI (0 : Int32)))).bind fun h2 =>
        if a2 = (9 : Int32) then (
          if a3 = 0 then (
            if 0 ≤ (lg_cmp a4 (0 : Int64)) then (
              fX12_read_127 a0 a3 a4 (0 : Int32) (some a0) h2
            ) else
            fX12_read_127 a0 a3 a4 (1 : Int32) (some a0) h2
          ) else
          fX12_read_127 a0 a3 a4 (0 : Int32) (some a0) h2
        ) else
        some (a4, h2)
      ) else none
    ) else
    (sm_R (sm_get h (some a0) 12 1)).bind fun x3 =>
    (sm_I (sm_get h (some a0) 12 44)).bind fun x4 =>
    (sm_aI h x3 3 (x4 + a6)).bind fun x5 =>
    sm_let ((a4 <<< ((8 : Int32).toInt64 &&& 63)) ||| ((x5 &&& (255 : Int32)).toInt64)) fun x6 =>
    sm_let (a6 + (1 : Int32)) fun x7 =>
    (fX12_read_57 n) a0 a1 a2 a3 x6 x7 h
set_option maxRecDepth 100000 in
set_option maxHeartbeats 4000000 in
theorem sX12_read_57 (l : Launch) (D : va_G) (aC : Nat → ClassId) (B : Nat)   (n : Nat) : ∀ (a0 : Nat) (a1 : Int32) (a2 : Int32) (a3 : Int32) (a4 : Int64) (a6 : Int32) (h : sm_H), zS l D aC B cX12_read 7 RX12 1 25 (some .long) "read" vlJ (fX12_read_57 n a0 a1 a2 a3 a4 a6 h) 57 [(0, vR (some a0)), (1, vI a1), (2, vI a2), (3, vI a3), (4, vJ a4), (6, vI a6)] [] h := by
  induction n with
  | zero => intro a0 a1 a2 a3 a4 a6 h; exact sm_none
  | succ n ih =>
    intro a0 a1 a2 a3 a4 a6 h
    show zS l D aC B cX12_read 7 RX12 1 25 (some .long) "read" vlJ (fX12_read_57 (n + 1) a0 a1 a2 a3 a4 a6 h) 57 [(0, vR (some a0)), (1, vI a1), (2, vI a2), (3, vI a3), (4, vJ a4), (6, vI a6)] [] h
    unfold fX12_read_57
    refine sm_iload (i := 6) (j := 5) (pc' := 59) dX12_read_57 rfl rfl ?_
    refine sm_iload_n (i := 2) (j := 2) (pc' := 60) dX12_read_59 rfl rfl rfl ?_
    refine sm_icmp_ge (tgt := 94) (pc' := 63) dX12_read_60 (by decide) rfl ?_ ?_
    · refine sm_aload_n (i := 0) (j := 0) (pc' := 95) dX12_read_94 rfl rfl rfl ?_
      refine sm_iload_n (i := 1) (j := 1) (pc' := 96) dX12_read_95 rfl rfl rfl ?_
      refine sm_putI (k := 44) (pc' := 99) kX12 (by decide) mw755 rfl rfl dX12_read_96 rfl (fun h1 => ?_)
      refine sm_aload_n (i := 0) (j := 0) (pc' := 100) dX12_read_99 rfl rfl rfl ?_
      refine sm_iconst (v := (0 : Int32)) (pc' := 101) dX12_read_100 rfl (by decide) ?_
      refine sm_putZ (k := 58) (pc' := 104) kX12 (by decide) mw765 rfl rfl dX12_read_101 rfl (fun h2 => ?_)
      refine sm_iload_n (i := 2) (j := 2) (pc' := 105) dX12_read_104 rfl rfl rfl ?_
      refine sm_bipush (v := (9 : Int32)) (pc' := 107) dX12_read_105 rfl (by decide) ?_
      refine sm_icmp_ne (tgt := 167) (pc' := 110) dX12_read_107 (by decide) rfl ?_ ?_
      · refine sm_lload (i := 4) (j := 4) (pc' := 169) dX12_read_167 rfl rfl ?_
        exact sm_lret rfl dX12_read_169
      refine sm_aload_n (i := 0) (j := 0) (pc' := 111) dX12_read_110 rfl rfl rfl ?_
      refine sm_iload_n (i := 3) (j := 3) (pc' := 112) dX12_read_111 rfl rfl rfl ?_
      refine sm_if_ne (tgt := 126) (pc' := 115) dX12_read_112 (by decide) rfl ?_ ?_
      · refine sm_iconst (v := (0 : Int32)) (pc' := 127) dX12_read_126 rfl (by decide) ?_
        refine sm_lo (lv' := [(0, vR (some a0)), (3, vI a3), (4, vJ a4)]) [0, 3, 4] rfl ?_
        exact sX12_read_127 l D aC B  a0 a3 a4 (0 : Int32) (some a0) h2
      refine sm_lload (i := 4) (j := 4) (pc' := 117) dX12_read_115 rfl rfl ?_
      refine sm_lconst (v := (0 : Int64)) (pc' := 118) dX12_read_117 rfl (by decide) ?_
      refine sm_lcmp (pc' := 119) dX12_read_118 rfl ?_
      refine sm_if_ge (tgt := 126) (pc' := 122) dX12_read_119 (by decide) rfl ?_ ?_
      · refine sm_iconst (v := (0 : Int32)) (pc' := 127) dX12_read_126 rfl (by decide) ?_
        refine sm_lo (lv' := [(0, vR (some a0)), (3, vI a3), (4, vJ a4)]) [0, 3, 4] rfl ?_
        exact sX12_read_127 l D aC B  a0 a3 a4 (0 : Int32) (some a0) h2
      refine sm_iconst (v := (1 : Int32)) (pc' := 123) dX12_read_122 rfl (by decide) ?_
      refine sm_goto (pc' := 127) dX12_read_123 (by decide) ?_
      refine sm_lo (lv' := [(0, vR (some a0)), (3, vI a3), (4, vJ a4)]) [0, 3, 4] rfl ?_
      exact sX12_read_127 l D aC B  a0 a3 a4 (1 : Int32) (some a0) h2
    refine sm_lload (i := 4) (j := 4) (pc' := 65) dX12_read_63 rfl rfl ?_
    refine sm_bipush (v := (8 : Int32)) (pc' := 67) dX12_read_65 rfl (by decide) ?_
    refine sm_lshl (pc' := 68) dX12_read_67 rfl ?_
    refine sm_aload_n (i := 0) (j := 0) (pc' := 69) dX12_read_68 rfl rfl rfl ?_
    refine sm_getR (k := 1) (pc' := 72) kX12 (by decide) mw657 dX12_read_69 rfl (fun x3 => ?_)
    refine sm_aload_n (i := 0) (j := 0) (pc' := 73) dX12_read_72 rfl rfl rfl ?_
    refine sm_getI (k := 44) (pc' := 76) kX12 (by decide) mw755 dX12_read_73 rfl (fun x4 => ?_)
    refine sm_iload (i := 6) (j := 5) (pc' := 78) dX12_read_76 rfl rfl ?_
    refine sm_iadd (pc' := 79) dX12_read_78 rfl ?_
    refine sm_bald (t := 3) (pc' := 80) rfl dX12_read_79 rfl (fun x5 => ?_)
    refine sm_sipush (v := (255 : Int32)) (pc' := 83) dX12_read_80 rfl (by decide) ?_
    refine sm_iand (pc' := 84) dX12_read_83 rfl ?_
    refine sm_i2l (pc' := 85) dX12_read_84 rfl ?_
    refine sm_lor (pc' := 86) dX12_read_85 rfl ?_
    refine sm_letJv (fun x6 => ?_)
    refine sm_lstore (i := 4) (lv' := [(4, vJ x6), (0, vR (some a0)), (1, vI a1), (2, vI a2), (3, vI a3), (6, vI a6)]) (pc' := 88) dX12_read_86 rfl (by decide) rfl ?_
    refine sm_iincL (i := 6) (j := 5) (x := a6) (d := (1 : Int32)) (fun x7 => [(6, vI x7), (4, vJ x6), (0, vR (some a0)), (1, vI a1), (2, vI a2), (3, vI a3)]) (pc' := 91) dX12_read_88 rfl rfl (by decide) (by decide) (fun _ => rfl) (fun x7 => ?_)
    refine sm_goto (pc' := 57) dX12_read_91 (by decide) ?_
    refine sm_lo (lv' := [(0, vR (some a0)), (1, vI a1), (2, vI a2), (3, vI a3), (4, vJ x6), (6, vI x7)]) [2, 3, 4, 5, 1, 0] rfl ?_
    exact ih a0 a1 a2 a3 x6 x7 h
noncomputable def fX12_read_31  (a0 : Nat) (a1 : Int32) (a2 : Int32) (h : sm_H) : Option (Int64 × sm_H) :=
  (sm_I (sm_get h (some a0) 12 45)).bind fun x1 =>
  if x1 = 0 then (
    (sm_R (sm_get h (some a0) 12 1)).bind fun x2 =>
    (sm_I (sm_get h (some a0) 12 44)).bind fun x3 =>
    (sm_aI h x2 3 x3).bind fun x4 =>
    sm_let (x4.toInt64) fun x5 =>
    fX12_read_57 sm_fuel a0 a1 a2 x4 x5 (1 : Int32) h
  ) else
  some ((0 : Int64), h)
set_option maxRecDepth 100000 in
set_option maxHeartbeats 4000000 in
theorem sX12_read_31 (l : Launch) (D : va_G) (aC : Nat → ClassId) (B : Nat)   (a0 : Nat) (a1 : Int32) (a2 : Int32) (h : sm_H) : zS l D aC B cX12_read 7 RX12 1 25 (some .long) "read" vlJ (fX12_read_31 a0 a1 a2 h) 31 [(0, vR (some a0)), (1, vI a1), (2, vI a2)] [] h := by
  unfold fX12_read_31
  refine sm_aload_n (i := 0) (j := 0) (pc' := 32) dX12_read_31 rfl rfl rfl ?_
  refine sm_getI (k := 45) (pc' := 35) kX12 (by decide) mw756 dX12_read_32 rfl (fun x1 => ?_)
  refine sm_if_eq (tgt := 40) (pc' := 38) dX12_read_35 (by decide) rfl ?_ ?_
  · refine sm_aload_n (i := 0) (j := 0) (pc' := 41) dX12_read_40 rfl rfl rfl ?_
    refine sm_getR (k := 1) (pc' := 44) kX12 (by decide) mw657 dX12_read_41 rfl (fun x2 => ?_)
    refine sm_aload_n (i := 0) (j := 0) (pc' := 45) dX12_read_44 rfl rfl rfl ?_
    refine sm_getI (k := 44) (pc' := 48) kX12 (by decide) mw755 dX12_read_45 rfl (fun x3 => ?_)
    refine sm_bald (t := 3) (pc' := 49) rfl dX12_read_48 rfl (fun x4 => ?_)
    refine sm_istore_n (i := 3) (lv' := [(3, vI x4), (0, vR (some a0)), (1, vI a1), (2, vI a2)]) (pc' := 50) dX12_read_49 rfl rfl (by decide) rfl ?_
    refine sm_iload_n (i := 3) (j := 0) (pc' := 51) dX12_read_50 rfl rfl rfl ?_
    refine sm_i2l (pc' := 52) dX12_read_51 rfl ?_
    refine sm_letJv (fun x5 => ?_)
    refine sm_lstore (i := 4) (lv' := [(4, vJ x5), (3, vI x4), (0, vR (some a0)), (1, vI a1), (2, vI a2)]) (pc' := 54) dX12_read_52 rfl (by decide) rfl ?_
    refine sm_iconst (v := (1 : Int32)) (pc' := 55) dX12_read_54 rfl (by decide) ?_
    refine sm_istore (i := 6) (lv' := [(6, vI (1 : Int32)), (4, vJ x5), (3, vI x4), (0, vR (some a0)), (1, vI a1), (2, vI a2)]) (pc' := 57) dX12_read_55 rfl (by decide) rfl ?_
    refine sm_lo (lv' := [(0, vR (some a0)), (1, vI a1), (2, vI a2), (3, vI x4), (4, vJ x5), (6, vI (1 : Int32))]) [3, 4, 5, 2, 1, 0] rfl ?_
    exact sX12_read_57 l D aC B   sm_fuel a0 a1 a2 x4 x5 (1 : Int32) h
  refine sm_lconst (v := (0 : Int64)) (pc' := 39) dX12_read_38 rfl (by decide) ?_
  exact sm_lret rfl dX12_read_39
noncomputable def fX12_read  (a0 : Nat) (a1 : Int32) (h : sm_H) : Option (Int64 × sm_H) :=
  (sm_I (sm_get h (some a0) 12 44)).bind fun x1 =>
  sm_let (a1 - x1) fun x2 =>
  (sm_I (sm_get h (some a0) 12 45)).bind fun x3 =>
  if x3 = 0 then (
    sm_cb (fX12_in (x2.toInt64) (1 : Int64) (9 : Int64) h) fun x4 h5 =>
    if x4 = 0 then (
      (sm_put h5 (some a0) 12 45 (sm_v (vI (1 : Int32)))).bind fun h6 =>
      fX12_read_31 a0 a1 x2 h6
    ) else
    fX12_read_31 a0 a1 x2 h5
  ) else
  fX12_read_31 a0 a1 x2 h
set_option maxRecDepth 100000 in
set_option maxHeartbeats 4000000 in
theorem sX12_read_0 (l : Launch) (D : va_G) (aC : Nat → ClassId) (B : Nat)   (a0 : Nat) (a1 : Int32) (h : sm_H) : zS l D aC B cX12_read 7 RX12 1 25 (some .long) "read" vlJ (fX12_read a0 a1 h) 0 [(0, vR (some a0)), (1, vI a1)] [] h := by
  unfold fX12_read
  refine sm_iload_n (i := 1) (j := 1) (pc' := 1) dX12_read_0 rfl rfl rfl ?_
  refine sm_aload_n (i := 0) (j := 0) (pc' := 2) dX12_read_1 rfl rfl rfl ?_
  refine sm_getI (k := 44) (pc' := 5) kX12 (by decide) mw755 dX12_read_2 rfl (fun x1 => ?_)
  refine sm_isub (pc' := 6) dX12_read_5 rfl ?_
  refine sm_letIv (fun x2 => ?_)
  refine sm_istore_n (i := 2) (lv' := [(2, vI x2), (0, vR (some a0)), (1, vI a1)]) (pc' := 7) dX12_read_6 rfl rfl (by decide) rfl ?_
  refine sm_aload_n (i := 0) (j := 1) (pc' := 8) dX12_read_7 rfl rfl rfl ?_
  refine sm_getI (k := 45) (pc' := 11) kX12 (by decide) mw756 dX12_read_8 rfl (fun x3 => ?_)
  refine sm_if_ne (tgt := 31) (pc' := 14) dX12_read_11 (by decide) rfl ?_ ?_
  · refine sm_lo (lv' := [(0, vR (some a0)), (1, vI a1), (2, vI x2)]) [1, 2, 0] rfl ?_
    exact sX12_read_31 l D aC B  a0 a1 x2 h
  refine sm_iload_n (i := 2) (j := 0) (pc' := 15) dX12_read_14 rfl rfl rfl ?_
  refine sm_i2l (pc' := 16) dX12_read_15 rfl ?_
  refine sm_lconst (v := (1 : Int64)) (pc' := 17) dX12_read_16 rfl (by decide) ?_
  refine sm_ldc2 (v := (9 : Int64)) (pc' := 20) dX12_read_17 rfl mw766 ?_
  refine sm_cSI (pc' := 23) (st := []) [vJ (x2.toInt64), vJ (1 : Int64), vJ (9 : Int64)] yY_yX12_in mw701 mw702 (mX12_in l D aC B (x2.toInt64) (1 : Int64) (9 : Int64) h) rfl (by decide) (by decide) (by exact Nat.le_of_ble_eq_true rfl) rfl dX12_read_20 rfl (fun x4 h5 => ?_)
  refine sm_if_ne (tgt := 31) (pc' := 26) dX12_read_23 (by decide) rfl ?_ ?_
  · refine sm_lo (lv' := [(0, vR (some a0)), (1, vI a1), (2, vI x2)]) [1, 2, 0] rfl ?_
    exact sX12_read_31 l D aC B  a0 a1 x2 h5
  refine sm_aload_n (i := 0) (j := 1) (pc' := 27) dX12_read_26 rfl rfl rfl ?_
  refine sm_iconst (v := (1 : Int32)) (pc' := 28) dX12_read_27 rfl (by decide) ?_
  refine sm_putI (k := 45) (pc' := 31) kX12 (by decide) mw756 rfl rfl dX12_read_28 rfl (fun h6 => ?_)
  refine sm_lo (lv' := [(0, vR (some a0)), (1, vI a1), (2, vI x2)]) [1, 2, 0] rfl ?_
  exact sX12_read_31 l D aC B  a0 a1 x2 h6
set_option maxRecDepth 100000 in
theorem mX12_read (l : Launch) (D : va_G) (aC : Nat → ClassId) (B : Nat) (a0 : Nat) (a1 : Int32) (h : sm_H) : sm_M l D vwCl gAts aC B gTs gNs gOs yX12_read cX12_read 7 (some .long) 1 25 vlJ [vR (some a0), vI a1] h (fX12_read a0 a1 h) := sm_meth [vR (some a0), vI a1] yY_yX12_read gG gN (Nat.le_of_ble_eq_true rfl) rfl (sX12_read_0 l D aC B a0 a1 h)
-- M:TreeAgentModel.integer(I)I
noncomputable def fX12_integer  (a0 : Nat) (a1 : Int32) (h : sm_H) : Option (Int32 × sm_H) :=
  (sm_obj h (some a0) 12).bind fun b12 =>
  sm_cb (fX12_field b12 (2 : Int32) a1 h) fun x1 h2 =>
  (sm_obj h2 (some a0) 12).bind fun b11 =>
  sm_cb (fX12_read b11 x1 h2) fun x3 h4 =>
  (sm_I (sm_get h4 (some a0) 12 45)).bind fun x5 =>
  if x5 = 0 then (
    (sm_I (sm_get h4 (some a0) 12 58)).bind fun x6 =>
    if x6 = 0 then (
      sm_cb (fX12_in x3 (-2147483648 : Int64) (2147483647 : Int64) h4) fun x8 h9 =>
      if x8 = 0 then (
        (sm_put h9 (some a0) 12 45 (sm_v (vI (1 : Int32)))).bind fun h10 =>
        some (x3.toInt32, h10)
      ) else
      some (x3.toInt32, h9)
    ) else
    (sm_put h4 (some a0) 12 45 (sm_v (vI (1 : Int32)))).bind fun h7 =>
    some (x3.toInt32, h7)
  ) else
  some (x3.toInt32, h4)
set_option maxRecDepth 100000 in
set_option maxHeartbeats 4000000 in
theorem sX12_integer_0 (l : Launch) (D : va_G) (aC : Nat → ClassId) (B : Nat)   (a0 : Nat) (a1 : Int32) (h : sm_H) : zS l D aC B cX12_integer 5 RX12 3 73 (some .int) "integer" vlI (fX12_integer a0 a1 h) 0 [(0, vR (some a0)), (1, vI a1)] [] h := by
  unfold fX12_integer
  refine sm_aload_n (i := 0) (j := 0) (pc' := 1) dX12_integer_0 rfl rfl rfl ?_
  refine sm_iconst (v := (2 : Int32)) (pc' := 2) dX12_integer_1 rfl (by decide) ?_
  refine sm_iload_n (i := 1) (j := 1) (pc' := 3) dX12_integer_2 rfl rfl rfl ?_
  refine sm_cVI (pc' := 6) (ci := 12) (st := []) (F := fun b => fX12_field b (2 : Int32) a1 h) [vI (2 : Int32), vI a1] yY_yX12_field rfl mw767 mw771 mw772 (fun b => mX12_field l D aC B b (2 : Int32) a1 h) rfl (by decide) (by decide) (by exact Nat.le_of_ble_eq_true rfl) rfl dX12_integer_3 rfl (fun x1 h2 => ?_)
  refine sm_istore_n (i := 2) (lv' := [(2, vI x1), (0, vR (some a0)), (1, vI a1)]) (pc' := 7) dX12_integer_6 rfl rfl (by decide) rfl ?_
  refine sm_aload_n (i := 0) (j := 1) (pc' := 8) dX12_integer_7 rfl rfl rfl ?_
  refine sm_iload_n (i := 2) (j := 0) (pc' := 9) dX12_integer_8 rfl rfl rfl ?_
  refine sm_cVJ (pc' := 12) (ci := 12) (st := []) (F := fun b => fX12_read b x1 h2) [vI x1] yY_yX12_read rfl mw768 mw769 mw770 (fun b => mX12_read l D aC B b x1 h2) rfl (by decide) (by decide) (by exact Nat.le_of_ble_eq_true rfl) rfl dX12_integer_9 rfl (fun x3 h4 => ?_)
  refine sm_lstore_n (i := 3) (lv' := [(3, vJ x3), (2, vI x1), (0, vR (some a0)), (1, vI a1)]) (pc' := 13) dX12_integer_12 rfl rfl (by decide) rfl ?_
  refine sm_aload_n (i := 0) (j := 2) (pc' := 14) dX12_integer_13 rfl rfl rfl ?_
  refine sm_getI (k := 45) (pc' := 17) kX12 (by decide) mw756 dX12_integer_14 rfl (fun x5 => ?_)
  refine sm_if_ne (tgt := 45) (pc' := 20) dX12_integer_17 (by decide) rfl ?_ ?_
  · refine sm_lload_n (i := 3) (j := 0) (pc' := 46) dX12_integer_45 rfl rfl rfl ?_
    refine sm_l2i (pc' := 47) dX12_integer_46 rfl ?_
    exact sm_iret rfl dX12_integer_47
  refine sm_aload_n (i := 0) (j := 2) (pc' := 21) dX12_integer_20 rfl rfl rfl ?_
  refine sm_getI (k := 58) (pc' := 24) kX12 (by decide) mw765 dX12_integer_21 rfl (fun x6 => ?_)
  refine sm_if_ne (tgt := 40) (pc' := 27) dX12_integer_24 (by decide) rfl ?_ ?_
  · refine sm_aload_n (i := 0) (j := 2) (pc' := 41) dX12_integer_40 rfl rfl rfl ?_
    refine sm_iconst (v := (1 : Int32)) (pc' := 42) dX12_integer_41 rfl (by decide) ?_
    refine sm_putI (k := 45) (pc' := 45) kX12 (by decide) mw756 rfl rfl dX12_integer_42 rfl (fun h7 => ?_)
    refine sm_lload_n (i := 3) (j := 0) (pc' := 46) dX12_integer_45 rfl rfl rfl ?_
    refine sm_l2i (pc' := 47) dX12_integer_46 rfl ?_
    exact sm_iret rfl dX12_integer_47
  refine sm_lload_n (i := 3) (j := 0) (pc' := 28) dX12_integer_27 rfl rfl rfl ?_
  refine sm_ldc2 (v := (-2147483648 : Int64)) (pc' := 31) dX12_integer_28 rfl mw741 ?_
  refine sm_ldc2 (v := (2147483647 : Int64)) (pc' := 34) dX12_integer_31 rfl mw742 ?_
  refine sm_cSI (pc' := 37) (st := []) [vJ x3, vJ (-2147483648 : Int64), vJ (2147483647 : Int64)] yY_yX12_in mw701 mw702 (mX12_in l D aC B x3 (-2147483648 : Int64) (2147483647 : Int64) h4) rfl (by decide) (by decide) (by exact Nat.le_of_ble_eq_true rfl) rfl dX12_integer_34 rfl (fun x8 h9 => ?_)
  refine sm_if_ne (tgt := 45) (pc' := 40) dX12_integer_37 (by decide) rfl ?_ ?_
  · refine sm_lload_n (i := 3) (j := 0) (pc' := 46) dX12_integer_45 rfl rfl rfl ?_
    refine sm_l2i (pc' := 47) dX12_integer_46 rfl ?_
    exact sm_iret rfl dX12_integer_47
  refine sm_aload_n (i := 0) (j := 2) (pc' := 41) dX12_integer_40 rfl rfl rfl ?_
  refine sm_iconst (v := (1 : Int32)) (pc' := 42) dX12_integer_41 rfl (by decide) ?_
  refine sm_putI (k := 45) (pc' := 45) kX12 (by decide) mw756 rfl rfl dX12_integer_42 rfl (fun h10 => ?_)
  refine sm_lload_n (i := 3) (j := 0) (pc' := 46) dX12_integer_45 rfl rfl rfl ?_
  refine sm_l2i (pc' := 47) dX12_integer_46 rfl ?_
  exact sm_iret rfl dX12_integer_47
set_option maxRecDepth 100000 in
theorem mX12_integer (l : Launch) (D : va_G) (aC : Nat → ClassId) (B : Nat) (a0 : Nat) (a1 : Int32) (h : sm_H) : sm_M l D vwCl gAts aC B gTs gNs gOs yX12_integer cX12_integer 5 (some .int) 3 73 vlI [vR (some a0), vI a1] h (fX12_integer a0 a1 h) := sm_meth [vR (some a0), vI a1] yY_yX12_integer gG gN (Nat.le_of_ble_eq_true rfl) rfl (sX12_integer_0 l D aC B a0 a1 h)
-- M:TreeAgentModel.readName(I[JI)I
noncomputable def fX12_readName_226 (K23 : Nat → Int32 → Option Nat → Int32 → Int32 → sm_H → Option (Int32 × sm_H)) (a0 : Nat) (a1 : Int32) (a2 : Option Nat) (a3 : Int32) (a4 : Int32) (a5 : Int64) (h : sm_H) : Option (Int32 × sm_H) :=
  (sm_I (sm_get h (some a0) 12 45)).bind fun x1 =>
  if x1 = 0 then (
    (sm_sJ h a2 1 (a3 + a4) a5).bind fun h2 =>
    sm_let (a4 + (1 : Int32)) fun x3 =>
    K23 a0 a1 a2 a3 x3 h2
  ) else
  K23 a0 a1 a2 a3 a4 h
set_option maxRecDepth 100000 in
set_option maxHeartbeats 4000000 in
theorem sX12_readName_226 (l : Launch) (D : va_G) (aC : Nat → ClassId) (B : Nat) (K23 : Nat → Int32 → Option Nat → Int32 → Int32 → sm_H → Option (Int32 × sm_H)) (hK23 : ∀ (a0 : Nat) (a1 : Int32) (a2 : Option Nat) (a3 : Int32) (a4 : Int32) (h : sm_H), zS l D aC B cX12_readName 8 RX12 1 21 (some .int) "readName" vlI (K23 a0 a1 a2 a3 a4 h) 23 [(0, vR (some a0)), (1, vI a1), (2, vR a2), (3, vI a3), (4, vI a4)] [] h) (a0 : Nat) (a1 : Int32) (a2 : Option Nat) (a3 : Int32) (a4 : Int32) (a5 : Int64) (h : sm_H) : zS l D aC B cX12_readName 8 RX12 1 21 (some .int) "readName" vlI (fX12_readName_226 K23 a0 a1 a2 a3 a4 a5 h) 226 [(0, vR (some a0)), (1, vI a1), (2, vR a2), (3, vI a3), (4, vI a4), (5, vJ a5)] [] h := by
  unfold fX12_readName_226
  refine sm_aload_n (i := 0) (j := 0) (pc' := 227) dX12_readName_226 rfl rfl rfl ?_
  refine sm_getI (k := 45) (pc' := 230) kX12 (by decide) mw756 dX12_readName_227 rfl (fun x1 => ?_)
  refine sm_if_ne (tgt := 244) (pc' := 233) dX12_readName_230 (by decide) rfl ?_ ?_
  · refine sm_goto (pc' := 23) dX12_readName_244 (by decide) ?_
    refine sm_lo (lv' := [(0, vR (some a0)), (1, vI a1), (2, vR a2), (3, vI a3), (4, vI a4)]) [0, 1, 2, 3, 4] rfl ?_
    exact hK23 a0 a1 a2 a3 a4 h
  refine sm_aload_n (i := 2) (j := 2) (pc' := 234) dX12_readName_233 rfl rfl rfl ?_
  refine sm_iload_n (i := 3) (j := 3) (pc' := 235) dX12_readName_234 rfl rfl rfl ?_
  refine sm_iload (i := 4) (j := 4) (pc' := 237) dX12_readName_235 rfl rfl ?_
  refine sm_iadd (pc' := 238) dX12_readName_237 rfl ?_
  refine sm_lload (i := 5) (j := 5) (pc' := 240) dX12_readName_238 rfl rfl ?_
  refine sm_last (t := 1) (pc' := 241) rfl dX12_readName_240 rfl (fun h2 => ?_)
  refine sm_iincL (i := 4) (j := 4) (x := a4) (d := (1 : Int32)) (fun x3 => [(4, vI x3), (0, vR (some a0)), (1, vI a1), (2, vR a2), (3, vI a3), (5, vJ a5)]) (pc' := 244) dX12_readName_241 rfl rfl (by decide) (by decide) (fun _ => rfl) (fun x3 => ?_)
  refine sm_goto (pc' := 23) dX12_readName_244 (by decide) ?_
  refine sm_lo (lv' := [(0, vR (some a0)), (1, vI a1), (2, vR a2), (3, vI a3), (4, vI x3)]) [1, 2, 3, 4, 0] rfl ?_
  exact hK23 a0 a1 a2 a3 x3 h2
noncomputable def fX12_readName_188 (K23 : Nat → Int32 → Option Nat → Int32 → Int32 → sm_H → Option (Int32 × sm_H)) (a0 : Nat) (a1 : Int32) (a2 : Option Nat) (a3 : Int32) (a4 : Int32) (a5 : Int64) (h : sm_H) : Option (Int32 × sm_H) :=
  (sm_I (sm_get h (some a0) 12 45)).bind fun x1 =>
  if x1 = 0 then (
    if a4 = 0 then (
      if (40 : Int64) = 0 then none else
      (sm_sJ h a2 1 a3 (a5 / (40 : Int64))).bind fun h2 =>
      if (40 : Int64) = 0 then none else
      (sm_sJ h2 a2 1 (a3 + (1 : Int32)) (a5 - a5 / (40 : Int64) * (40 : Int64))).bind fun h3 =>
      K23 a0 a1 a2 a3 (2 : Int32) h3
    ) else
    fX12_readName_226 K23 a0 a1 a2 a3 a4 a5 h
  ) else
  fX12_readName_226 K23 a0 a1 a2 a3 a4 a5 h
set_option maxRecDepth 100000 in
set_option maxHeartbeats 4000000 in
theorem sX12_readName_188 (l : Launch) (D : va_G) (aC : Nat → ClassId) (B : Nat) (K23 : Nat → Int32 → Option Nat → Int32 → Int32 → sm_H → Option (Int32 × sm_H)) (hK23 : ∀ (a0 : Nat) (a1 : Int32) (a2 : Option Nat) (a3 : Int32) (a4 : Int32) (h : sm_H), zS l D aC B cX12_readName 8 RX12 1 21 (some .int) "readName" vlI (K23 a0 a1 a2 a3 a4 h) 23 [(0, vR (some a0)), (1, vI a1), (2, vR a2), (3, vI a3), (4, vI a4)] [] h) (a0 : Nat) (a1 : Int32) (a2 : Option Nat) (a3 : Int32) (a4 : Int32) (a5 : Int64) (h : sm_H) : zS l D aC B cX12_readName 8 RX12 1 21 (some .int) "readName" vlI (fX12_readName_188 K23 a0 a1 a2 a3 a4 a5 h) 188 [(0, vR (some a0)), (1, vI a1), (2, vR a2), (3, vI a3), (4, vI a4), (5, vJ a5)] [] h := by
  unfold fX12_readName_188
  refine sm_aload_n (i := 0) (j := 0) (pc' := 189) dX12_readName_188 rfl rfl rfl ?_
  refine sm_getI (k := 45) (pc' := 192) kX12 (by decide) mw756 dX12_readName_189 rfl (fun x1 => ?_)
  refine sm_if_ne (tgt := 226) (pc' := 195) dX12_readName_192 (by decide) rfl ?_ ?_
  · exact sX12_readName_226 l D aC B  K23 hK23 a0 a1 a2 a3 a4 a5 h
  refine sm_iload (i := 4) (j := 4) (pc' := 197) dX12_readName_195 rfl rfl ?_
  refine sm_if_ne (tgt := 226) (pc' := 200) dX12_readName_197 (by decide) rfl ?_ ?_
  · exact sX12_readName_226 l D aC B  K23 hK23 a0 a1 a2 a3 a4 a5 h
  refine sm_aload_n (i := 2) (j := 2) (pc' := 201) dX12_readName_200 rfl rfl rfl ?_
  refine sm_iload_n (i := 3) (j := 3) (pc' := 202) dX12_readName_201 rfl rfl rfl ?_
  refine sm_lload (i := 5) (j := 5) (pc' := 204) dX12_readName_202 rfl rfl ?_
  refine sm_ldc2 (v := (40 : Int64)) (pc' := 207) dX12_readName_204 rfl mw773 ?_
  refine sm_ldiv (pc' := 208) dX12_readName_207 rfl ?_
  refine sm_last (t := 1) (pc' := 209) rfl dX12_readName_208 rfl (fun h2 => ?_)
  refine sm_aload_n (i := 2) (j := 2) (pc' := 210) dX12_readName_209 rfl rfl rfl ?_
  refine sm_iload_n (i := 3) (j := 3) (pc' := 211) dX12_readName_210 rfl rfl rfl ?_
  refine sm_iconst (v := (1 : Int32)) (pc' := 212) dX12_readName_211 rfl (by decide) ?_
  refine sm_iadd (pc' := 213) dX12_readName_212 rfl ?_
  refine sm_lload (i := 5) (j := 5) (pc' := 215) dX12_readName_213 rfl rfl ?_
  refine sm_ldc2 (v := (40 : Int64)) (pc' := 218) dX12_readName_215 rfl mw773 ?_
  refine sm_lrem (pc' := 219) dX12_readName_218 rfl ?_
  refine sm_last (t := 1) (pc' := 220) rfl dX12_readName_219 rfl (fun h3 => ?_)
  refine sm_iconst (v := (2 : Int32)) (pc' := 221) dX12_readName_220 rfl (by decide) ?_
  refine sm_istore (i := 4) (lv' := [(4, vI (2 : Int32)), (0, vR (some a0)), (1, vI a1), (2, vR a2), (3, vI a3), (5, vJ a5)]) (pc' := 223) dX12_readName_221 rfl (by decide) rfl ?_
  refine sm_goto (pc' := 244) dX12_readName_223 (by decide) ?_
  refine sm_goto (pc' := 23) dX12_readName_244 (by decide) ?_
  refine sm_lo (lv' := [(0, vR (some a0)), (1, vI a1), (2, vR a2), (3, vI a3), (4, vI (2 : Int32))]) [1, 2, 3, 4, 0] rfl ?_
  exact hK23 a0 a1 a2 a3 (2 : Int32) h3
noncomputable def fX12_readName_176 (K23 : Nat → Int32 → Option Nat → Int32 → Int32 → sm_H → Option (Int32 × sm_H)) (a0 : Nat) (a1 : Int32) (a2 : Option Nat) (a3 : Int32) (a4 : Int32) (a5 : Int64) (h : sm_H) : Option (Int32 × sm_H) :=
  if a4 = (16 : Int32) then (
    (sm_put h (some a0) 12 45 (sm_v (vI (1 : Int32)))).bind fun h1 =>
    fX12_readName_188 K23 a0 a1 a2 a3 a4 a5 h1
  ) else
  fX12_readName_188 K23 a0 a1 a2 a3 a4 a5 h
set_option maxRecDepth 100000 in
set_option maxHeartbeats 4000000 in
theorem sX12_readName_176 (l : Launch) (D : va_G) (aC : Nat → ClassId) (B : Nat) (K23 : Nat → Int32 → Option Nat → Int32 → Int32 → sm_H → Option (Int32 × sm_H)) (hK23 : ∀ (a0 : Nat) (a1 : Int32) (a2 : Option Nat) (a3 : Int32) (a4 : Int32) (h : sm_H), zS l D aC B cX12_readName 8 RX12 1 21 (some .int) "readName" vlI (K23 a0 a1 a2 a3 a4 h) 23 [(0, vR (some a0)), (1, vI a1), (2, vR a2), (3, vI a3), (4, vI a4)] [] h) (a0 : Nat) (a1 : Int32) (a2 : Option Nat) (a3 : Int32) (a4 : Int32) (a5 : Int64) (h : sm_H) : zS l D aC B cX12_readName 8 RX12 1 21 (some .int) "readName" vlI (fX12_readName_176 K23 a0 a1 a2 a3 a4 a5 h) 176 [(0, vR (some a0)), (1, vI a1), (2, vR a2), (3, vI a3), (4, vI a4), (5, vJ a5)] [] h := by
  unfold fX12_readName_176
  refine sm_iload (i := 4) (j := 4) (pc' := 178) dX12_readName_176 rfl rfl ?_
  refine sm_bipush (v := (16 : Int32)) (pc' := 180) dX12_readName_178 rfl (by decide) ?_
  refine sm_icmp_ne (tgt := 188) (pc' := 183) dX12_readName_180 (by decide) rfl ?_ ?_
  · exact sX12_readName_188 l D aC B  K23 hK23 a0 a1 a2 a3 a4 a5 h
  refine sm_aload_n (i := 0) (j := 0) (pc' := 184) dX12_readName_183 rfl rfl rfl ?_
  refine sm_iconst (v := (1 : Int32)) (pc' := 185) dX12_readName_184 rfl (by decide) ?_
  refine sm_putI (k := 45) (pc' := 188) kX12 (by decide) mw756 rfl rfl dX12_readName_185 rfl (fun h1 => ?_)
  exact sX12_readName_188 l D aC B  K23 hK23 a0 a1 a2 a3 a4 a5 h1
noncomputable def fX12_readName_135 (K23 : Nat → Int32 → Option Nat → Int32 → Int32 → sm_H → Option (Int32 × sm_H)) (a0 : Nat) (a1 : Int32) (a2 : Option Nat) (a3 : Int32) (a4 : Int32) (a5 : Int64) (a7 : Int32) (h : sm_H) : Option (Int32 × sm_H) :=
  sm_let ((a5 <<< ((7 : Int32).toInt64 &&& 63)) ||| (a7.toInt64)) fun x1 =>
  (sm_I (sm_get h (some a0) 12 45)).bind fun x2 =>
  if x2 = 0 then (
    if 0 < (lg_cmp x1 (4294967295 : Int64)) then (
      (sm_put h (some a0) 12 45 (sm_v (vI (1 : Int32)))).bind fun h3 =>
      fX12_readName_188 K23 a0 a1 a2 a3 a4 x1 h3
    ) else
    if a4 = 0 then (
      if 0 < (lg_cmp x1 (119 : Int64)) then (
        (sm_put h (some a0) 12 45 (sm_v (vI (1 : Int32)))).bind fun h4 =>
        fX12_readName_188 K23 a0 a1 a2 a3 a4 x1 h4
      ) else
      fX12_readName_176 K23 a0 a1 a2 a3 a4 x1 h
    ) else
    fX12_readName_176 K23 a0 a1 a2 a3 a4 x1 h
  ) else
  fX12_readName_188 K23 a0 a1 a2 a3 a4 x1 h
set_option maxRecDepth 100000 in
set_option maxHeartbeats 4000000 in
theorem sX12_readName_135 (l : Launch) (D : va_G) (aC : Nat → ClassId) (B : Nat) (K23 : Nat → Int32 → Option Nat → Int32 → Int32 → sm_H → Option (Int32 × sm_H)) (hK23 : ∀ (a0 : Nat) (a1 : Int32) (a2 : Option Nat) (a3 : Int32) (a4 : Int32) (h : sm_H), zS l D aC B cX12_readName 8 RX12 1 21 (some .int) "readName" vlI (K23 a0 a1 a2 a3 a4 h) 23 [(0, vR (some a0)), (1, vI a1), (2, vR a2), (3, vI a3), (4, vI a4)] [] h) (a0 : Nat) (a1 : Int32) (a2 : Option Nat) (a3 : Int32) (a4 : Int32) (a5 : Int64) (a7 : Int32) (h : sm_H) : zS l D aC B cX12_readName 8 RX12 1 21 (some .int) "readName" vlI (fX12_readName_135 K23 a0 a1 a2 a3 a4 a5 a7 h) 135 [(0, vR (some a0)), (1, vI a1), (2, vR a2), (3, vI a3), (4, vI a4), (5, vJ a5), (7, vI a7)] [] h := by
  unfold fX12_readName_135
  refine sm_lload (i := 5) (j := 5) (pc' := 137) dX12_readName_135 rfl rfl ?_
  refine sm_bipush (v := (7 : Int32)) (pc' := 139) dX12_readName_137 rfl (by decide) ?_
  refine sm_lshl (pc' := 140) dX12_readName_139 rfl ?_
  refine sm_iload (i := 7) (j := 6) (pc' := 142) dX12_readName_140 rfl rfl ?_
  refine sm_i2l (pc' := 143) dX12_readName_142 rfl ?_
  refine sm_lor (pc' := 144) dX12_readName_143 rfl ?_
  refine sm_letJv (fun x1 => ?_)
  refine sm_lstore (i := 5) (lv' := [(5, vJ x1), (0, vR (some a0)), (1, vI a1), (2, vR a2), (3, vI a3), (4, vI a4), (7, vI a7)]) (pc' := 146) dX12_readName_144 rfl (by decide) rfl ?_
  refine sm_aload_n (i := 0) (j := 1) (pc' := 147) dX12_readName_146 rfl rfl rfl ?_
  refine sm_getI (k := 45) (pc' := 150) kX12 (by decide) mw756 dX12_readName_147 rfl (fun x2 => ?_)
  refine sm_if_ne (tgt := 188) (pc' := 153) dX12_readName_150 (by decide) rfl ?_ ?_
  · refine sm_lo (lv' := [(0, vR (some a0)), (1, vI a1), (2, vR a2), (3, vI a3), (4, vI a4), (5, vJ x1)]) [1, 2, 3, 4, 5, 0] rfl ?_
    exact sX12_readName_188 l D aC B  K23 hK23 a0 a1 a2 a3 a4 x1 h
  refine sm_lload (i := 5) (j := 0) (pc' := 155) dX12_readName_153 rfl rfl ?_
  refine sm_ldc2 (v := (4294967295 : Int64)) (pc' := 158) dX12_readName_155 rfl mw705 ?_
  refine sm_lcmp (pc' := 159) dX12_readName_158 rfl ?_
  refine sm_if_gt (tgt := 183) (pc' := 162) dX12_readName_159 (by decide) rfl ?_ ?_
  · refine sm_aload_n (i := 0) (j := 1) (pc' := 184) dX12_readName_183 rfl rfl rfl ?_
    refine sm_iconst (v := (1 : Int32)) (pc' := 185) dX12_readName_184 rfl (by decide) ?_
    refine sm_putI (k := 45) (pc' := 188) kX12 (by decide) mw756 rfl rfl dX12_readName_185 rfl (fun h3 => ?_)
    refine sm_lo (lv' := [(0, vR (some a0)), (1, vI a1), (2, vR a2), (3, vI a3), (4, vI a4), (5, vJ x1)]) [1, 2, 3, 4, 5, 0] rfl ?_
    exact sX12_readName_188 l D aC B  K23 hK23 a0 a1 a2 a3 a4 x1 h3
  refine sm_iload (i := 4) (j := 5) (pc' := 164) dX12_readName_162 rfl rfl ?_
  refine sm_if_ne (tgt := 176) (pc' := 167) dX12_readName_164 (by decide) rfl ?_ ?_
  · refine sm_lo (lv' := [(0, vR (some a0)), (1, vI a1), (2, vR a2), (3, vI a3), (4, vI a4), (5, vJ x1)]) [1, 2, 3, 4, 5, 0] rfl ?_
    exact sX12_readName_176 l D aC B  K23 hK23 a0 a1 a2 a3 a4 x1 h
  refine sm_lload (i := 5) (j := 0) (pc' := 169) dX12_readName_167 rfl rfl ?_
  refine sm_ldc2 (v := (119 : Int64)) (pc' := 172) dX12_readName_169 rfl mw774 ?_
  refine sm_lcmp (pc' := 173) dX12_readName_172 rfl ?_
  refine sm_if_gt (tgt := 183) (pc' := 176) dX12_readName_173 (by decide) rfl ?_ ?_
  · refine sm_aload_n (i := 0) (j := 1) (pc' := 184) dX12_readName_183 rfl rfl rfl ?_
    refine sm_iconst (v := (1 : Int32)) (pc' := 185) dX12_readName_184 rfl (by decide) ?_
    refine sm_putI (k := 45) (pc' := 188) kX12 (by decide) mw756 rfl rfl dX12_readName_185 rfl (fun h4 => ?_)
    refine sm_lo (lv' := [(0, vR (some a0)), (1, vI a1), (2, vR a2), (3, vI a3), (4, vI a4), (5, vJ x1)]) [1, 2, 3, 4, 5, 0] rfl ?_
    exact sX12_readName_188 l D aC B  K23 hK23 a0 a1 a2 a3 a4 x1 h4
  refine sm_lo (lv' := [(0, vR (some a0)), (1, vI a1), (2, vR a2), (3, vI a3), (4, vI a4), (5, vJ x1)]) [1, 2, 3, 4, 5, 0] rfl ?_
  exact sX12_readName_176 l D aC B  K23 hK23 a0 a1 a2 a3 a4 x1 h
noncomputable def fX12_readName_75 (K23 : Nat → Int32 → Option Nat → Int32 → Int32 → sm_H → Option (Int32 × sm_H)) : Nat → Nat → Int32 → Option Nat → Int32 → Int32 → Int64 → Int32 → sm_H → Option (Int32 × sm_H)
  | 0 => fun _ _ _ _ _ _ _ _ => none
  | n + 1 => fun a0 a1 a2 a3 a4 a5 a7 h =>
    (sm_I (sm_get h (some a0) 12 45)).bind fun x1 =>
    if x1 = 0 then (
      if a7 < (128 : Int32) then (
        fX12_readName_135 K23 a0 a1 a2 a3 a4 a5 a7 h
      ) else
      sm_let ((a5 <<< ((7 : Int32).toInt64 &&& 63)) ||| ((a7 &&& (127 : Int32)).toInt64)) fun x2 =>
      if (lg_cmp x2 (4294967295 : Int64)) ≤ 0 then (
        (sm_I (sm_get h (some a0) 12 45)).bind fun x3 =>
        (sm_put h (some a0) 12 45 (sm_v (vI x3))).bind fun h4 =>
        (sm_obj h4 (some a0) 12).bind fun b7 =>
        sm_cb (fX12_octet b7 a1 h4) fun x5 h6 =>
        (fX12_readName_75 K23 n) a0 a1 a2 a3 a4 x2 x5 h6
      ) else
      (sm_put h (some a0) 12 45 (sm_v (vI (1 : Int32)))).bind fun h8 =>
      (sm_obj h8 (some a0) 12).bind fun b11 =>
      sm_cb (fX12_octet b11 a1 h8) fun x9 h10 =>
      (fX12_readName_75 K23 n) a0 a1 a2 a3 a4 x2 x9 h10
    ) else
    fX12_readName_135 K23 a0 a1 a2 a3 a4 a5 a7 h
set_option maxRecDepth 100000 in
set_option maxHeartbeats 4000000 in
theorem sX12_readName_75 (l : Launch) (D : va_G) (aC : Nat → ClassId) (B : Nat) (K23 : Nat → Int32 → Option Nat → Int32 → Int32 → sm_H → Option (Int32 × sm_H)) (hK23 : ∀ (a0 : Nat) (a1 : Int32) (a2 : Option Nat) (a3 : Int32) (a4 : Int32) (h : sm_H), zS l D aC B cX12_readName 8 RX12 1 21 (some .int) "readName" vlI (K23 a0 a1 a2 a3 a4 h) 23 [(0, vR (some a0)), (1, vI a1), (2, vR a2), (3, vI a3), (4, vI a4)] [] h) (n : Nat) : ∀ (a0 : Nat) (a1 : Int32) (a2 : Option Nat) (a3 : Int32) (a4 : Int32) (a5 : Int64) (a7 : Int32) (h : sm_H), zS l D aC B cX12_readName 8 RX12 1 21 (some .int) "readName" vlI (fX12_readName_75 K23 n a0 a1 a2 a3 a4 a5 a7 h) 75 [(0, vR (some a0)), (1, vI a1), (2, vR a2), (3, vI a3), (4, vI a4), (5, vJ a5), (7, vI a7)] [] h := by
  induction n with
  | zero => intro a0 a1 a2 a3 a4 a5 a7 h; exact sm_none
  | succ n ih =>
    intro a0 a1 a2 a3 a4 a5 a7 h
    show zS l D aC B cX12_readName 8 RX12 1 21 (some .int) "readName" vlI (fX12_readName_75 K23 (n + 1) a0 a1 a2 a3 a4 a5 a7 h) 75 [(0, vR (some a0)), (1, vI a1), (2, vR a2), (3, vI a3), (4, vI a4), (5, vJ a5), (7, vI a7)] [] h
    unfold fX12_readName_75
    refine sm_aload_n (i := 0) (j := 0) (pc' := 76) dX12_readName_75 rfl rfl rfl ?_
    refine sm_getI (k := 45) (pc' := 79) kX12 (by decide) mw756 dX12_readName_76 rfl (fun x1 => ?_)
    refine sm_if_ne (tgt := 135) (pc' := 82) dX12_readName_79 (by decide) rfl ?_ ?_
    · exact sX12_readName_135 l D aC B  K23 hK23 a0 a1 a2 a3 a4 a5 a7 h
    refine sm_iload (i := 7) (j := 6) (pc' := 84) dX12_readName_82 rfl rfl ?_
    refine sm_sipush (v := (128 : Int32)) (pc' := 87) dX12_readName_84 rfl (by decide) ?_
    refine sm_icmp_lt (tgt := 135) (pc' := 90) dX12_readName_87 (by decide) rfl ?_ ?_
    · exact sX12_readName_135 l D aC B  K23 hK23 a0 a1 a2 a3 a4 a5 a7 h
    refine sm_lload (i := 5) (j := 5) (pc' := 92) dX12_readName_90 rfl rfl ?_
    refine sm_bipush (v := (7 : Int32)) (pc' := 94) dX12_readName_92 rfl (by decide) ?_
    refine sm_lshl (pc' := 95) dX12_readName_94 rfl ?_
    refine sm_iload (i := 7) (j := 6) (pc' := 97) dX12_readName_95 rfl rfl ?_
    refine sm_bipush (v := (127 : Int32)) (pc' := 99) dX12_readName_97 rfl (by decide) ?_
    refine sm_iand (pc' := 100) dX12_readName_99 rfl ?_
    refine sm_i2l (pc' := 101) dX12_readName_100 rfl ?_
    refine sm_lor (pc' := 102) dX12_readName_101 rfl ?_
    refine sm_letJv (fun x2 => ?_)
    refine sm_lstore (i := 5) (lv' := [(5, vJ x2), (0, vR (some a0)), (1, vI a1), (2, vR a2), (3, vI a3), (4, vI a4), (7, vI a7)]) (pc' := 104) dX12_readName_102 rfl (by decide) rfl ?_
    refine sm_aload_n (i := 0) (j := 1) (pc' := 105) dX12_readName_104 rfl rfl rfl ?_
    refine sm_lload (i := 5) (j := 0) (pc' := 107) dX12_readName_105 rfl rfl ?_
    refine sm_ldc2 (v := (4294967295 : Int64)) (pc' := 110) dX12_readName_107 rfl mw705 ?_
    refine sm_lcmp (pc' := 111) dX12_readName_110 rfl ?_
    refine sm_if_le (tgt := 118) (pc' := 114) dX12_readName_111 (by decide) rfl ?_ ?_
    · refine sm_aload_n (i := 0) (j := 1) (pc' := 119) dX12_readName_118 rfl rfl rfl ?_
      refine sm_getI (k := 45) (pc' := 122) kX12 (by decide) mw756 dX12_readName_119 rfl (fun x3 => ?_)
      refine sm_putI (k := 45) (pc' := 125) kX12 (by decide) mw756 rfl rfl dX12_readName_122 rfl (fun h4 => ?_)
      refine sm_aload_n (i := 0) (j := 1) (pc' := 126) dX12_readName_125 rfl rfl rfl ?_
      refine sm_iload_n (i := 1) (j := 2) (pc' := 127) dX12_readName_126 rfl rfl rfl ?_
      refine sm_cVI (pc' := 130) (ci := 12) (st := []) (F := fun b => fX12_octet b a1 h4) [vI a1] yY_yX12_octet rfl mw757 mw758 mw759 (fun b => mX12_octet l D aC B b a1 h4) rfl (by decide) (by decide) (by exact Nat.le_of_ble_eq_true rfl) rfl dX12_readName_127 rfl (fun x5 h6 => ?_)
      refine sm_istore (i := 7) (lv' := [(7, vI x5), (5, vJ x2), (0, vR (some a0)), (1, vI a1), (2, vR a2), (3, vI a3), (4, vI a4)]) (pc' := 132) dX12_readName_130 rfl (by decide) rfl ?_
      refine sm_goto (pc' := 75) dX12_readName_132 (by decide) ?_
      refine sm_lo (lv' := [(0, vR (some a0)), (1, vI a1), (2, vR a2), (3, vI a3), (4, vI a4), (5, vJ x2), (7, vI x5)]) [2, 3, 4, 5, 6, 1, 0] rfl ?_
      exact ih a0 a1 a2 a3 a4 x2 x5 h6
    refine sm_iconst (v := (1 : Int32)) (pc' := 115) dX12_readName_114 rfl (by decide) ?_
    refine sm_goto (pc' := 122) dX12_readName_115 (by decide) ?_
    refine sm_putI (k := 45) (pc' := 125) kX12 (by decide) mw756 rfl rfl dX12_readName_122 rfl (fun h8 => ?_)
    refine sm_aload_n (i := 0) (j := 1) (pc' := 126) dX12_readName_125 rfl rfl rfl ?_
    refine sm_iload_n (i := 1) (j := 2) (pc' := 127) dX12_readName_126 rfl rfl rfl ?_
    refine sm_cVI (pc' := 130) (ci := 12) (st := []) (F := fun b => fX12_octet b a1 h8) [vI a1] yY_yX12_octet rfl mw757 mw758 mw759 (fun b => mX12_octet l D aC B b a1 h8) rfl (by decide) (by decide) (by exact Nat.le_of_ble_eq_true rfl) rfl dX12_readName_127 rfl (fun x9 h10 => ?_)
    refine sm_istore (i := 7) (lv' := [(7, vI x9), (5, vJ x2), (0, vR (some a0)), (1, vI a1), (2, vR a2), (3, vI a3), (4, vI a4)]) (pc' := 132) dX12_readName_130 rfl (by decide) rfl ?_
    refine sm_goto (pc' := 75) dX12_readName_132 (by decide) ?_
    refine sm_lo (lv' := [(0, vR (some a0)), (1, vI a1), (2, vR a2), (3, vI a3), (4, vI a4), (5, vJ x2), (7, vI x9)]) [2, 3, 4, 5, 6, 1, 0] rfl ?_
    exact ih a0 a1 a2 a3 a4 x2 x9 h10
noncomputable def fX12_readName_23  : Nat → Nat → Int32 → Option Nat → Int32 → Int32 → sm_H → Option (Int32 × sm_H)
  | 0 => fun _ _ _ _ _ _ => none
  | n + 1 => fun a0 a1 a2 a3 a4 h =>
    (sm_I (sm_get h (some a0) 12 45)).bind fun x1 =>
    if x1 = 0 then (
      (sm_I (sm_get h (some a0) 12 44)).bind fun x2 =>
      if a1 ≤ x2 then (
        some (a4, h)
      ) else
      (sm_obj h (some a0) 12).bind fun b11 =>
      sm_cb (fX12_octet b11 a1 h) fun x3 h4 =>
      (sm_I (sm_get h4 (some a0) 12 45)).bind fun x5 =>
      if x5 = 0 then (
        if x3 = (128 : Int32) then (
          (sm_put h4 (some a0) 12 45 (sm_v (vI (1 : Int32)))).bind fun h10 =>
          fX12_readName_75 (fX12_readName_23 n) sm_fuel a0 a1 a2 a3 a4 (0 : Int64) x3 h10
        ) else
        (sm_I (sm_get h4 (some a0) 12 45)).bind fun x8 =>
        (sm_put h4 (some a0) 12 45 (sm_v (vI x8))).bind fun h9 =>
        fX12_readName_75 (fX12_readName_23 n) sm_fuel a0 a1 a2 a3 a4 (0 : Int64) x3 h9
      ) else
      (sm_I (sm_get h4 (some a0) 12 45)).bind fun x6 =>
      (sm_put h4 (some a0) 12 45 (sm_v (vI x6))).bind fun h7 =>
      fX12_readName_75 (fX12_readName_23 n) sm_fuel a0 a1 a2 a3 a4 (0 : Int64) x3 h7
    ) else
    some (a4, h)
set_option maxRecDepth 100000 in
set_option maxHeartbeats 4000000 in
theorem sX12_readName_23 (l : Launch) (D : va_G) (aC : Nat → ClassId) (B : Nat)   (n : Nat) : ∀ (a0 : Nat) (a1 : Int32) (a2 : Option Nat) (a3 : Int32) (a4 : Int32) (h : sm_H), zS l D aC B cX12_readName 8 RX12 1 21 (some .int) "readName" vlI (fX12_readName_23 n a0 a1 a2 a3 a4 h) 23 [(0, vR (some a0)), (1, vI a1), (2, vR a2), (3, vI a3), (4, vI a4)] [] h := by
  induction n with
  | zero => intro a0 a1 a2 a3 a4 h; exact sm_none
  | succ n ih =>
    intro a0 a1 a2 a3 a4 h
    show zS l D aC B cX12_readName 8 RX12 1 21 (some .int) "readName" vlI (fX12_readName_23 (n + 1) a0 a1 a2 a3 a4 h) 23 [(0, vR (some a0)), (1, vI a1), (2, vR a2), (3, vI a3), (4, vI a4)] [] h
    unfold fX12_readName_23
    refine sm_aload_n (i := 0) (j := 0) (pc' := 24) dX12_readName_23 rfl rfl rfl ?_
    refine sm_getI (k := 45) (pc' := 27) kX12 (by decide) mw756 dX12_readName_24 rfl (fun x1 => ?_)
    refine sm_if_ne (tgt := 247) (pc' := 30) dX12_readName_27 (by decide) rfl ?_ ?_
    · refine sm_iload (i := 4) (j := 4) (pc' := 249) dX12_readName_247 rfl rfl ?_
      exact sm_iret rfl dX12_readName_249
    refine sm_aload_n (i := 0) (j := 0) (pc' := 31) dX12_readName_30 rfl rfl rfl ?_
    refine sm_getI (k := 44) (pc' := 34) kX12 (by decide) mw755 dX12_readName_31 rfl (fun x2 => ?_)
    refine sm_iload_n (i := 1) (j := 1) (pc' := 35) dX12_readName_34 rfl rfl rfl ?_
    refine sm_icmp_ge (tgt := 247) (pc' := 38) dX12_readName_35 (by decide) rfl ?_ ?_
    · refine sm_iload (i := 4) (j := 4) (pc' := 249) dX12_readName_247 rfl rfl ?_
      exact sm_iret rfl dX12_readName_249
    refine sm_lconst (v := (0 : Int64)) (pc' := 39) dX12_readName_38 rfl (by decide) ?_
    refine sm_lstore (i := 5) (lv' := [(5, vJ (0 : Int64)), (0, vR (some a0)), (1, vI a1), (2, vR a2), (3, vI a3), (4, vI a4)]) (pc' := 41) dX12_readName_39 rfl (by decide) rfl ?_
    refine sm_aload_n (i := 0) (j := 1) (pc' := 42) dX12_readName_41 rfl rfl rfl ?_
    refine sm_iload_n (i := 1) (j := 2) (pc' := 43) dX12_readName_42 rfl rfl rfl ?_
    refine sm_cVI (pc' := 46) (ci := 12) (st := []) (F := fun b => fX12_octet b a1 h) [vI a1] yY_yX12_octet rfl mw757 mw758 mw759 (fun b => mX12_octet l D aC B b a1 h) rfl (by decide) (by decide) (by exact Nat.le_of_ble_eq_true rfl) rfl dX12_readName_43 rfl (fun x3 h4 => ?_)
    refine sm_istore (i := 7) (lv' := [(7, vI x3), (5, vJ (0 : Int64)), (0, vR (some a0)), (1, vI a1), (2, vR a2), (3, vI a3), (4, vI a4)]) (pc' := 48) dX12_readName_46 rfl (by decide) rfl ?_
    refine sm_aload_n (i := 0) (j := 2) (pc' := 49) dX12_readName_48 rfl rfl rfl ?_
    refine sm_aload_n (i := 0) (j := 2) (pc' := 50) dX12_readName_49 rfl rfl rfl ?_
    refine sm_getI (k := 45) (pc' := 53) kX12 (by decide) mw756 dX12_readName_50 rfl (fun x5 => ?_)
    refine sm_if_ne (tgt := 68) (pc' := 56) dX12_readName_53 (by decide) rfl ?_ ?_
    · refine sm_aload_n (i := 0) (j := 2) (pc' := 69) dX12_readName_68 rfl rfl rfl ?_
      refine sm_getI (k := 45) (pc' := 72) kX12 (by decide) mw756 dX12_readName_69 rfl (fun x6 => ?_)
      refine sm_putI (k := 45) (pc' := 75) kX12 (by decide) mw756 rfl rfl dX12_readName_72 rfl (fun h7 => ?_)
      refine sm_lo (lv' := [(0, vR (some a0)), (1, vI a1), (2, vR a2), (3, vI a3), (4, vI a4), (5, vJ (0 : Int64)), (7, vI x3)]) [2, 3, 4, 5, 6, 1, 0] rfl ?_
      exact sX12_readName_75 l D aC B  (fX12_readName_23 n) ih sm_fuel a0 a1 a2 a3 a4 (0 : Int64) x3 h7
    refine sm_iload (i := 7) (j := 0) (pc' := 58) dX12_readName_56 rfl rfl ?_
    refine sm_sipush (v := (128 : Int32)) (pc' := 61) dX12_readName_58 rfl (by decide) ?_
    refine sm_icmp_ne (tgt := 68) (pc' := 64) dX12_readName_61 (by decide) rfl ?_ ?_
    · refine sm_aload_n (i := 0) (j := 2) (pc' := 69) dX12_readName_68 rfl rfl rfl ?_
      refine sm_getI (k := 45) (pc' := 72) kX12 (by decide) mw756 dX12_readName_69 rfl (fun x8 => ?_)
      refine sm_putI (k := 45) (pc' := 75) kX12 (by decide) mw756 rfl rfl dX12_readName_72 rfl (fun h9 => ?_)
      refine sm_lo (lv' := [(0, vR (some a0)), (1, vI a1), (2, vR a2), (3, vI a3), (4, vI a4), (5, vJ (0 : Int64)), (7, vI x3)]) [2, 3, 4, 5, 6, 1, 0] rfl ?_
      exact sX12_readName_75 l D aC B  (fX12_readName_23 n) ih sm_fuel a0 a1 a2 a3 a4 (0 : Int64) x3 h9
    refine sm_iconst (v := (1 : Int32)) (pc' := 65) dX12_readName_64 rfl (by decide) ?_
    refine sm_goto (pc' := 72) dX12_readName_65 (by decide) ?_
    refine sm_putI (k := 45) (pc' := 75) kX12 (by decide) mw756 rfl rfl dX12_readName_72 rfl (fun h10 => ?_)
    refine sm_lo (lv' := [(0, vR (some a0)), (1, vI a1), (2, vR a2), (3, vI a3), (4, vI a4), (5, vJ (0 : Int64)), (7, vI x3)]) [2, 3, 4, 5, 6, 1, 0] rfl ?_
    exact sX12_readName_75 l D aC B  (fX12_readName_23 n) ih sm_fuel a0 a1 a2 a3 a4 (0 : Int64) x3 h10
noncomputable def fX12_readName  (a0 : Nat) (a1 : Int32) (a2 : Option Nat) (a3 : Int32) (h : sm_H) : Option (Int32 × sm_H) :=
  (sm_I (sm_get h (some a0) 12 45)).bind fun x1 =>
  if x1 = 0 then (
    (sm_I (sm_get h (some a0) 12 44)).bind fun x2 =>
    if x2 = a1 then (
      (sm_put h (some a0) 12 45 (sm_v (vI (1 : Int32)))).bind fun h3 =>
      fX12_readName_23 sm_fuel a0 a1 a2 a3 (0 : Int32) h3
    ) else
    fX12_readName_23 sm_fuel a0 a1 a2 a3 (0 : Int32) h
  ) else
  fX12_readName_23 sm_fuel a0 a1 a2 a3 (0 : Int32) h
set_option maxRecDepth 100000 in
set_option maxHeartbeats 4000000 in
theorem sX12_readName_0 (l : Launch) (D : va_G) (aC : Nat → ClassId) (B : Nat)   (a0 : Nat) (a1 : Int32) (a2 : Option Nat) (a3 : Int32) (h : sm_H) : zS l D aC B cX12_readName 8 RX12 1 21 (some .int) "readName" vlI (fX12_readName a0 a1 a2 a3 h) 0 [(0, vR (some a0)), (1, vI a1), (2, vR a2), (3, vI a3)] [] h := by
  unfold fX12_readName
  refine sm_iconst (v := (0 : Int32)) (pc' := 1) dX12_readName_0 rfl (by decide) ?_
  refine sm_istore (i := 4) (lv' := [(4, vI (0 : Int32)), (0, vR (some a0)), (1, vI a1), (2, vR a2), (3, vI a3)]) (pc' := 3) dX12_readName_1 rfl (by decide) rfl ?_
  refine sm_aload_n (i := 0) (j := 1) (pc' := 4) dX12_readName_3 rfl rfl rfl ?_
  refine sm_getI (k := 45) (pc' := 7) kX12 (by decide) mw756 dX12_readName_4 rfl (fun x1 => ?_)
  refine sm_if_ne (tgt := 23) (pc' := 10) dX12_readName_7 (by decide) rfl ?_ ?_
  · refine sm_lo (lv' := [(0, vR (some a0)), (1, vI a1), (2, vR a2), (3, vI a3), (4, vI (0 : Int32))]) [1, 2, 3, 4, 0] rfl ?_
    exact sX12_readName_23 l D aC B   sm_fuel a0 a1 a2 a3 (0 : Int32) h
  refine sm_aload_n (i := 0) (j := 1) (pc' := 11) dX12_readName_10 rfl rfl rfl ?_
  refine sm_getI (k := 44) (pc' := 14) kX12 (by decide) mw755 dX12_readName_11 rfl (fun x2 => ?_)
  refine sm_iload_n (i := 1) (j := 2) (pc' := 15) dX12_readName_14 rfl rfl rfl ?_
  refine sm_icmp_ne (tgt := 23) (pc' := 18) dX12_readName_15 (by decide) rfl ?_ ?_
  · refine sm_lo (lv' := [(0, vR (some a0)), (1, vI a1), (2, vR a2), (3, vI a3), (4, vI (0 : Int32))]) [1, 2, 3, 4, 0] rfl ?_
    exact sX12_readName_23 l D aC B   sm_fuel a0 a1 a2 a3 (0 : Int32) h
  refine sm_aload_n (i := 0) (j := 1) (pc' := 19) dX12_readName_18 rfl rfl rfl ?_
  refine sm_iconst (v := (1 : Int32)) (pc' := 20) dX12_readName_19 rfl (by decide) ?_
  refine sm_putI (k := 45) (pc' := 23) kX12 (by decide) mw756 rfl rfl dX12_readName_20 rfl (fun h3 => ?_)
  refine sm_lo (lv' := [(0, vR (some a0)), (1, vI a1), (2, vR a2), (3, vI a3), (4, vI (0 : Int32))]) [1, 2, 3, 4, 0] rfl ?_
  exact sX12_readName_23 l D aC B   sm_fuel a0 a1 a2 a3 (0 : Int32) h3
set_option maxRecDepth 100000 in
theorem mX12_readName (l : Launch) (D : va_G) (aC : Nat → ClassId) (B : Nat) (a0 : Nat) (a1 : Int32) (a2 : Option Nat) (a3 : Int32) (h : sm_H) : sm_M l D vwCl gAts aC B gTs gNs gOs yX12_readName cX12_readName 8 (some .int) 1 21 vlI [vR (some a0), vI a1, vR a2, vI a3] h (fX12_readName a0 a1 a2 a3 h) := sm_meth [vR (some a0), vI a1, vR a2, vI a3] yY_yX12_readName gG gN (Nat.le_of_ble_eq_true rfl) rfl (sX12_readName_0 l D aC B a0 a1 a2 a3 h)
-- M:TreeAgentModel.readValue(II)V
noncomputable def fX12_readValue_364  (a0 : Nat) (a1 : Int32) (a6 : Int64) (s0 : Option Nat) (h : sm_H) : Option (Unit × sm_H) :=
  (sm_I (sm_get h (some a0) 12 45)).bind fun x1 =>
  (sm_put h s0 12 45 (sm_v (vI x1))).bind fun h2 =>
  (sm_R (sm_get h2 (some a0) 12 39)).bind fun x3 =>
  (sm_sJ h2 x3 1 a1 a6).bind fun h4 =>
  some ((), h4)
set_option maxRecDepth 100000 in
set_option maxHeartbeats 4000000 in
theorem sX12_readValue_364 (l : Launch) (D : va_G) (aC : Nat → ClassId) (B : Nat)   (a0 : Nat) (a1 : Int32) (a6 : Int64) (s0 : Option Nat) (h : sm_H) : zS l D aC B cX12_readValue 9 RX12 2 51 none "readValue" vlU (fX12_readValue_364 a0 a1 a6 s0 h) 364 [(0, vR (some a0)), (1, vI a1), (6, vJ a6)] [vR s0] h := by
  unfold fX12_readValue_364
  refine sm_aload_n (i := 0) (j := 0) (pc' := 365) dX12_readValue_364 rfl rfl rfl ?_
  refine sm_getI (k := 45) (pc' := 368) kX12 (by decide) mw756 dX12_readValue_365 rfl (fun x1 => ?_)
  refine sm_putI (k := 45) (pc' := 371) kX12 (by decide) mw756 rfl rfl dX12_readValue_368 rfl (fun h2 => ?_)
  refine sm_aload_n (i := 0) (j := 0) (pc' := 372) dX12_readValue_371 rfl rfl rfl ?_
  refine sm_getR (k := 39) (pc' := 375) kX12 (by decide) mw689 dX12_readValue_372 rfl (fun x3 => ?_)
  refine sm_iload_n (i := 1) (j := 1) (pc' := 376) dX12_readValue_375 rfl rfl rfl ?_
  refine sm_lload (i := 6) (j := 2) (pc' := 378) dX12_readValue_376 rfl rfl ?_
  refine sm_last (t := 1) (pc' := 379) rfl dX12_readValue_378 rfl (fun h4 => ?_)
  exact sm_vret rfl dX12_readValue_379
noncomputable def fX12_readValue_345  (a0 : Nat) (a1 : Int32) (a6 : Int64) (s0 : Int32) (h : sm_H) : Option (Unit × sm_H) :=
  (sm_I (sm_get h (some a0) 12 45)).bind fun x1 =>
  if x1 = 0 then (
    if s0 = 0 then (
      (sm_put h (some a0) 12 45 (sm_v (vI (1 : Int32)))).bind fun h2 =>
      (sm_R (sm_get h2 (some a0) 12 39)).bind fun x3 =>
      (sm_sJ h2 x3 1 a1 a6).bind fun h4 =>
      some ((), h4)
    ) else
    fX12_readValue_364 a0 a1 a6 (some a0) h
  ) else
  fX12_readValue_364 a0 a1 a6 (some a0) h
set_option maxRecDepth 100000 in
set_option maxHeartbeats 4000000 in
theorem sX12_readValue_345 (l : Launch) (D : va_G) (aC : Nat → ClassId) (B : Nat)   (a0 : Nat) (a1 : Int32) (a6 : Int64) (s0 : Int32) (h : sm_H) : zS l D aC B cX12_readValue 9 RX12 2 51 none "readValue" vlU (fX12_readValue_345 a0 a1 a6 s0 h) 345 [(0, vR (some a0)), (1, vI a1), (6, vJ a6)] [vI s0] h := by
  unfold fX12_readValue_345
  refine sm_istore (i := 8) (lv' := [(8, vI s0), (0, vR (some a0)), (1, vI a1), (6, vJ a6)]) (pc' := 347) dX12_readValue_345 rfl (by decide) rfl ?_
  refine sm_aload_n (i := 0) (j := 1) (pc' := 348) dX12_readValue_347 rfl rfl rfl ?_
  refine sm_aload_n (i := 0) (j := 1) (pc' := 349) dX12_readValue_348 rfl rfl rfl ?_
  refine sm_getI (k := 45) (pc' := 352) kX12 (by decide) mw756 dX12_readValue_349 rfl (fun x1 => ?_)
  refine sm_if_ne (tgt := 364) (pc' := 355) dX12_readValue_352 (by decide) rfl ?_ ?_
  · refine sm_lo (lv' := [(0, vR (some a0)), (1, vI a1), (6, vJ a6)]) [1, 2, 3] rfl ?_
    exact sX12_readValue_364 l D aC B  a0 a1 a6 (some a0) h
  refine sm_iload (i := 8) (j := 0) (pc' := 357) dX12_readValue_355 rfl rfl ?_
  refine sm_if_ne (tgt := 364) (pc' := 360) dX12_readValue_357 (by decide) rfl ?_ ?_
  · refine sm_lo (lv' := [(0, vR (some a0)), (1, vI a1), (6, vJ a6)]) [1, 2, 3] rfl ?_
    exact sX12_readValue_364 l D aC B  a0 a1 a6 (some a0) h
  refine sm_iconst (v := (1 : Int32)) (pc' := 361) dX12_readValue_360 rfl (by decide) ?_
  refine sm_goto (pc' := 368) dX12_readValue_361 (by decide) ?_
  refine sm_putI (k := 45) (pc' := 371) kX12 (by decide) mw756 rfl rfl dX12_readValue_368 rfl (fun h2 => ?_)
  refine sm_aload_n (i := 0) (j := 1) (pc' := 372) dX12_readValue_371 rfl rfl rfl ?_
  refine sm_getR (k := 39) (pc' := 375) kX12 (by decide) mw689 dX12_readValue_372 rfl (fun x3 => ?_)
  refine sm_iload_n (i := 1) (j := 2) (pc' := 376) dX12_readValue_375 rfl rfl rfl ?_
  refine sm_lload (i := 6) (j := 3) (pc' := 378) dX12_readValue_376 rfl rfl ?_
  refine sm_last (t := 1) (pc' := 379) rfl dX12_readValue_378 rfl (fun h4 => ?_)
  exact sm_vret rfl dX12_readValue_379
noncomputable def fX12_readValue_84  : Nat → Nat → Int32 → Int32 → Int32 → Int32 → sm_H → Option (Unit × sm_H)
  | 0 => fun _ _ _ _ _ _ => none
  | n + 1 => fun a0 a1 a4 a5 a6 h =>
    if a5 ≤ a6 then (
      (sm_R (sm_get h (some a0) 12 41)).bind fun x1 =>
      (sm_sI h x1 0 a1 a5).bind fun h2 =>
      (sm_put h2 (some a0) 12 44 (sm_v (vI a4))).bind fun h3 =>
      some ((), h3)
    ) else
    (sm_R (sm_get h (some a0) 12 40)).bind fun x4 =>
    (sm_R (sm_get h (some a0) 12 1)).bind fun x5 =>
    (sm_I (sm_get h (some a0) 12 44)).bind fun x6 =>
    (sm_aI h x5 3 (x6 + a6)).bind fun x7 =>
    (sm_sI h x4 3 (((40 : Int32) * a1) + a6) (vp_nar .byte x7)).bind fun h8 =>
    sm_let (a6 + (1 : Int32)) fun x9 =>
    (fX12_readValue_84 n) a0 a1 a4 a5 x9 h8
set_option maxRecDepth 100000 in
set_option maxHeartbeats 4000000 in
theorem sX12_readValue_84 (l : Launch) (D : va_G) (aC : Nat → ClassId) (B : Nat)   (n : Nat) : ∀ (a0 : Nat) (a1 : Int32) (a4 : Int32) (a5 : Int32) (a6 : Int32) (h : sm_H), zS l D aC B cX12_readValue 9 RX12 2 51 none "readValue" vlU (fX12_readValue_84 n a0 a1 a4 a5 a6 h) 84 [(0, vR (some a0)), (1, vI a1), (4, vI a4), (5, vI a5), (6, vI a6)] [] h := by
  induction n with
  | zero => intro a0 a1 a4 a5 a6 h; exact sm_none
  | succ n ih =>
    intro a0 a1 a4 a5 a6 h
    show zS l D aC B cX12_readValue 9 RX12 2 51 none "readValue" vlU (fX12_readValue_84 (n + 1) a0 a1 a4 a5 a6 h) 84 [(0, vR (some a0)), (1, vI a1), (4, vI a4), (5, vI a5), (6, vI a6)] [] h
    unfold fX12_readValue_84
    refine sm_iload (i := 6) (j := 4) (pc' := 86) dX12_readValue_84 rfl rfl ?_
    refine sm_iload (i := 5) (j := 3) (pc' := 88) dX12_readValue_86 rfl rfl ?_
    refine sm_icmp_ge (tgt := 121) (pc' := 91) dX12_readValue_88 (by decide) rfl ?_ ?_
    · refine sm_aload_n (i := 0) (j := 0) (pc' := 122) dX12_readValue_121 rfl rfl rfl ?_
      refine sm_getR (k := 41) (pc' := 125) kX12 (by decide) mw691 dX12_readValue_122 rfl (fun x1 => ?_)
      refine sm_iload_n (i := 1) (j := 1) (pc' := 126) dX12_readValue_125 rfl rfl rfl ?_
      refine sm_iload (i := 5) (j := 3) (pc' := 128) dX12_readValue_126 rfl rfl ?_
      refine sm_iast (t := 0) (pc' := 129) rfl dX12_readValue_128 rfl (fun h2 => ?_)
      refine sm_aload_n (i := 0) (j := 0) (pc' := 130) dX12_readValue_129 rfl rfl rfl ?_
      refine sm_iload (i := 4) (j := 2) (pc' := 132) dX12_readValue_130 rfl rfl ?_
      refine sm_putI (k := 44) (pc' := 135) kX12 (by decide) mw755 rfl rfl dX12_readValue_132 rfl (fun h3 => ?_)
      refine sm_goto (pc' := 379) dX12_readValue_135 (by decide) ?_
      exact sm_vret rfl dX12_readValue_379
    refine sm_aload_n (i := 0) (j := 0) (pc' := 92) dX12_readValue_91 rfl rfl rfl ?_
    refine sm_getR (k := 40) (pc' := 95) kX12 (by decide) mw690 dX12_readValue_92 rfl (fun x4 => ?_)
    refine sm_bipush (v := (40 : Int32)) (pc' := 97) dX12_readValue_95 rfl (by decide) ?_
    refine sm_iload_n (i := 1) (j := 1) (pc' := 98) dX12_readValue_97 rfl rfl rfl ?_
    refine sm_imul (pc' := 99) dX12_readValue_98 rfl ?_
    refine sm_iload (i := 6) (j := 4) (pc' := 101) dX12_readValue_99 rfl rfl ?_
    refine sm_iadd (pc' := 102) dX12_readValue_101 rfl ?_
    refine sm_aload_n (i := 0) (j := 0) (pc' := 103) dX12_readValue_102 rfl rfl rfl ?_
    refine sm_getR (k := 1) (pc' := 106) kX12 (by decide) mw657 dX12_readValue_103 rfl (fun x5 => ?_)
    refine sm_aload_n (i := 0) (j := 0) (pc' := 107) dX12_readValue_106 rfl rfl rfl ?_
    refine sm_getI (k := 44) (pc' := 110) kX12 (by decide) mw755 dX12_readValue_107 rfl (fun x6 => ?_)
    refine sm_iload (i := 6) (j := 4) (pc' := 112) dX12_readValue_110 rfl rfl ?_
    refine sm_iadd (pc' := 113) dX12_readValue_112 rfl ?_
    refine sm_bald (t := 3) (pc' := 114) rfl dX12_readValue_113 rfl (fun x7 => ?_)
    refine sm_bast (t := 3) (pc' := 115) rfl dX12_readValue_114 rfl (fun h8 => ?_)
    refine sm_iincL (i := 6) (j := 4) (x := a6) (d := (1 : Int32)) (fun x9 => [(6, vI x9), (0, vR (some a0)), (1, vI a1), (4, vI a4), (5, vI a5)]) (pc' := 118) dX12_readValue_115 rfl rfl (by decide) (by decide) (fun _ => rfl) (fun x9 => ?_)
    refine sm_goto (pc' := 84) dX12_readValue_118 (by decide) ?_
    refine sm_lo (lv' := [(0, vR (some a0)), (1, vI a1), (4, vI a4), (5, vI a5), (6, vI x9)]) [1, 2, 3, 4, 0] rfl ?_
    exact ih a0 a1 a4 a5 x9 h8
noncomputable def fX12_readValue_213  : Nat → Nat → Int32 → Int32 → Int64 → Int32 → sm_H → Option (Unit × sm_H)
  | 0 => fun _ _ _ _ _ _ => none
  | n + 1 => fun a0 a1 a4 a6 a8 h =>
    if (4 : Int32) ≤ a8 then (
      (sm_R (sm_get h (some a0) 12 39)).bind fun x1 =>
      (sm_sJ h x1 1 a1 a6).bind fun h2 =>
      some ((), h2)
    ) else
    (sm_obj h (some a0) 12).bind fun b7 =>
    sm_cb (fX12_octet b7 a4 h) fun x3 h4 =>
    sm_let ((a6 <<< ((8 : Int32).toInt64 &&& 63)) ||| (x3.toInt64)) fun x5 =>
    sm_let (a8 + (1 : Int32)) fun x6 =>
    (fX12_readValue_213 n) a0 a1 a4 x5 x6 h4
set_option maxRecDepth 100000 in
set_option maxHeartbeats 4000000 in
theorem sX12_readValue_213 (l : Launch) (D : va_G) (aC : Nat → ClassId) (B : Nat)   (n : Nat) : ∀ (a0 : Nat) (a1 : Int32) (a4 : Int32) (a6 : Int64) (a8 : Int32) (h : sm_H), zS l D aC B cX12_readValue 9 RX12 2 51 none "readValue" vlU (fX12_readValue_213 n a0 a1 a4 a6 a8 h) 213 [(0, vR (some a0)), (1, vI a1), (4, vI a4), (6, vJ a6), (8, vI a8)] [] h := by
  induction n with
  | zero => intro a0 a1 a4 a6 a8 h; exact sm_none
  | succ n ih =>
    intro a0 a1 a4 a6 a8 h
    show zS l D aC B cX12_readValue 9 RX12 2 51 none "readValue" vlU (fX12_readValue_213 (n + 1) a0 a1 a4 a6 a8 h) 213 [(0, vR (some a0)), (1, vI a1), (4, vI a4), (6, vJ a6), (8, vI a8)] [] h
    unfold fX12_readValue_213
    refine sm_iload (i := 8) (j := 4) (pc' := 215) dX12_readValue_213 rfl rfl ?_
    refine sm_iconst (v := (4 : Int32)) (pc' := 216) dX12_readValue_215 rfl (by decide) ?_
    refine sm_icmp_ge (tgt := 240) (pc' := 219) dX12_readValue_216 (by decide) rfl ?_ ?_
    · refine sm_aload_n (i := 0) (j := 0) (pc' := 241) dX12_readValue_240 rfl rfl rfl ?_
      refine sm_getR (k := 39) (pc' := 244) kX12 (by decide) mw689 dX12_readValue_241 rfl (fun x1 => ?_)
      refine sm_iload_n (i := 1) (j := 1) (pc' := 245) dX12_readValue_244 rfl rfl rfl ?_
      refine sm_lload (i := 6) (j := 3) (pc' := 247) dX12_readValue_245 rfl rfl ?_
      refine sm_last (t := 1) (pc' := 248) rfl dX12_readValue_247 rfl (fun h2 => ?_)
      refine sm_goto (pc' := 379) dX12_readValue_248 (by decide) ?_
      exact sm_vret rfl dX12_readValue_379
    refine sm_lload (i := 6) (j := 3) (pc' := 221) dX12_readValue_219 rfl rfl ?_
    refine sm_bipush (v := (8 : Int32)) (pc' := 223) dX12_readValue_221 rfl (by decide) ?_
    refine sm_lshl (pc' := 224) dX12_readValue_223 rfl ?_
    refine sm_aload_n (i := 0) (j := 0) (pc' := 225) dX12_readValue_224 rfl rfl rfl ?_
    refine sm_iload (i := 4) (j := 2) (pc' := 227) dX12_readValue_225 rfl rfl ?_
    refine sm_cVI (pc' := 230) (ci := 12) (st := [vJ (a6 <<< ((8 : Int32).toInt64 &&& 63))]) (F := fun b => fX12_octet b a4 h) [vI a4] yY_yX12_octet rfl mw757 mw758 mw759 (fun b => mX12_octet l D aC B b a4 h) rfl (by decide) (by decide) (by exact Nat.le_of_ble_eq_true rfl) rfl dX12_readValue_227 rfl (fun x3 h4 => ?_)
    refine sm_i2l (pc' := 231) dX12_readValue_230 rfl ?_
    refine sm_lor (pc' := 232) dX12_readValue_231 rfl ?_
    refine sm_letJv (fun x5 => ?_)
    refine sm_lstore (i := 6) (lv' := [(6, vJ x5), (0, vR (some a0)), (1, vI a1), (4, vI a4), (8, vI a8)]) (pc' := 234) dX12_readValue_232 rfl (by decide) rfl ?_
    refine sm_iincL (i := 8) (j := 4) (x := a8) (d := (1 : Int32)) (fun x6 => [(8, vI x6), (6, vJ x5), (0, vR (some a0)), (1, vI a1), (4, vI a4)]) (pc' := 237) dX12_readValue_234 rfl rfl (by decide) (by decide) (fun _ => rfl) (fun x6 => ?_)
    refine sm_goto (pc' := 213) dX12_readValue_237 (by decide) ?_
    refine sm_lo (lv' := [(0, vR (some a0)), (1, vI a1), (4, vI a4), (6, vJ x5), (8, vI x6)]) [2, 3, 4, 1, 0] rfl ?_
    exact ih a0 a1 a4 x5 x6 h4
noncomputable def fX12_readValue_32  (a0 : Nat) (a1 : Int32) (a2 : Int32) (a3 : Int32) (h : sm_H) : Option (Unit × sm_H) :=
  (sm_obj h (some a0) 12).bind fun b28 =>
  sm_cb (fX12_size b28 a2 h) fun x1 h2 =>
  (sm_I (sm_get h2 (some a0) 12 45)).bind fun x3 =>
  if x3 = 0 then (
    (sm_R (sm_get h2 (some a0) 12 38)).bind fun x4 =>
    (sm_sI h2 x4 0 a1 a3).bind fun h5 =>
    (sm_I (sm_get h5 (some a0) 12 44)).bind fun x6 =>
    sm_let (x1 - x6) fun x7 =>
    if a3 = (4 : Int32) then (
      if x7 ≤ (40 : Int32) then (
        fX12_readValue_84 sm_fuel a0 a1 x1 x7 (0 : Int32) h5
      ) else
      (sm_put h5 (some a0) 12 45 (sm_v (vI (1 : Int32)))).bind fun h27 =>
      some ((), h27)
    ) else
    if a3 = (5 : Int32) then (
      if x7 = 0 then (
        (sm_put h5 (some a0) 12 45 (sm_v (vI (0 : Int32)))).bind fun h26 =>
        some ((), h26)
      ) else
      (sm_put h5 (some a0) 12 45 (sm_v (vI (1 : Int32)))).bind fun h25 =>
      some ((), h25)
    ) else
    if a3 = (6 : Int32) then (
      (sm_R (sm_get h5 (some a0) 12 43)).bind fun x19 =>
      (sm_R (sm_get h5 (some a0) 12 42)).bind fun x20 =>
      (sm_obj h5 (some a0) 12).bind fun b24 =>
      sm_cb (fX12_readName b24 x1 x20 ((16 : Int32) * a1) h5) fun x21 h22 =>
      (sm_sI h22 x19 0 a1 x21).bind fun h23 =>
      some ((), h23)
    ) else
    if a3 = (64 : Int32) then (
      if x7 = (4 : Int32) then (
        fX12_readValue_213 sm_fuel a0 a1 x1 (0 : Int64) (0 : Int32) h5
      ) else
      (sm_put h5 (some a0) 12 45 (sm_v (vI (1 : Int32)))).bind fun h18 =>
      some ((), h18)
    ) else
    (sm_obj h5 (some a0) 12).bind fun b17 =>
    sm_cb (fX12_read b17 x1 h5) fun x8 h9 =>
    if a3 = (2 : Int32) then (
      (sm_I (sm_get h9 (some a0) 12 58)).bind fun x14 =>
      if x14 = 0 then (
        sm_cb (fX12_in x8 (-2147483648 : Int64) (2147483647 : Int64) h9) fun x15 h16 =>
        if x15 = 0 then (
          fX12_readValue_345 a0 a1 x8 (0 : Int32) h16
        ) else
        fX12_readValue_345 a0 a1 x8 (1 : Int32) h16
      ) else
      fX12_readValue_345 a0 a1 x8 (0 : Int32) h9
    ) else
    if a3 = (70 : Int32) then (
      (sm_I (sm_get h9 (some a0) 12 58)).bind fun x13 =>
      if x13 = 0 then (
        if (lg_cmp x8 (0 : Int64)) < 0 then (
          fX12_readValue_345 a0 a1 x8 (0 : Int32) h9
        ) else
        fX12_readValue_345 a0 a1 x8 (1 : Int32) h9
      ) else
      fX12_readValue_345 a0 a1 x8 (1 : Int32) h9
    ) else
    (sm_I (sm_get h9 (some a0) 12 58)).bind fun x10 =>
    if x10 = 0 then (
      sm_cb (fX12_in x8 (0 : Int64) (4294967295 : Int64) h9) fun x11 h12 =>
      if x11 = 0 then (
        fX12_readValue_345 a0 a1 x8 (0 : Int32) h12
      ) else
      fX12_readValue_345 a0 a1 x8 (1 : Int32) h12
    ) else
    fX12_readValue_345 a0 a1 x8 (0 : Int32) h9
  ) else
  some ((), h2)
set_option maxRecDepth 100000 in
set_option maxHeartbeats 4000000 in
theorem sX12_readValue_32 (l : Launch) (D : va_G) (aC : Nat → ClassId) (B : Nat)   (a0 : Nat) (a1 : Int32) (a2 : Int32) (a3 : Int32) (h : sm_H) : zS l D aC B cX12_readValue 9 RX12 2 51 none "readValue" vlU (fX12_readValue_32 a0 a1 a2 a3 h) 32 [(0, vR (some a0)), (1, vI a1), (2, vI a2), (3, vI a3)] [] h := by
  unfold fX12_readValue_32
  refine sm_aload_n (i := 0) (j := 0) (pc' := 33) dX12_readValue_32 rfl rfl rfl ?_
  refine sm_iload_n (i := 2) (j := 2) (pc' := 34) dX12_readValue_33 rfl rfl rfl ?_
  refine sm_cVI (pc' := 37) (ci := 12) (st := []) (F := fun b => fX12_size b a2 h) [vI a2] yY_yX12_size rfl mw762 mw763 mw764 (fun b => mX12_size l D aC B b a2 h) rfl (by decide) (by decide) (by exact Nat.le_of_ble_eq_true rfl) rfl dX12_readValue_34 rfl (fun x1 h2 => ?_)
  refine sm_istore (i := 4) (lv' := [(4, vI x1), (0, vR (some a0)), (1, vI a1), (2, vI a2), (3, vI a3)]) (pc' := 39) dX12_readValue_37 rfl (by decide) rfl ?_
  refine sm_aload_n (i := 0) (j := 1) (pc' := 40) dX12_readValue_39 rfl rfl rfl ?_
  refine sm_getI (k := 45) (pc' := 43) kX12 (by decide) mw756 dX12_readValue_40 rfl (fun x3 => ?_)
  refine sm_if_eq (tgt := 47) (pc' := 46) dX12_readValue_43 (by decide) rfl ?_ ?_
  · refine sm_aload_n (i := 0) (j := 1) (pc' := 48) dX12_readValue_47 rfl rfl rfl ?_
    refine sm_getR (k := 38) (pc' := 51) kX12 (by decide) mw688 dX12_readValue_48 rfl (fun x4 => ?_)
    refine sm_iload_n (i := 1) (j := 2) (pc' := 52) dX12_readValue_51 rfl rfl rfl ?_
    refine sm_iload_n (i := 3) (j := 4) (pc' := 53) dX12_readValue_52 rfl rfl rfl ?_
    refine sm_iast (t := 0) (pc' := 54) rfl dX12_readValue_53 rfl (fun h5 => ?_)
    refine sm_iload (i := 4) (j := 0) (pc' := 56) dX12_readValue_54 rfl rfl ?_
    refine sm_aload_n (i := 0) (j := 1) (pc' := 57) dX12_readValue_56 rfl rfl rfl ?_
    refine sm_getI (k := 44) (pc' := 60) kX12 (by decide) mw755 dX12_readValue_57 rfl (fun x6 => ?_)
    refine sm_isub (pc' := 61) dX12_readValue_60 rfl ?_
    refine sm_letIv (fun x7 => ?_)
    refine sm_istore (i := 5) (lv' := [(5, vI x7), (4, vI x1), (0, vR (some a0)), (1, vI a1), (2, vI a2), (3, vI a3)]) (pc' := 63) dX12_readValue_61 rfl (by decide) rfl ?_
    refine sm_iload_n (i := 3) (j := 5) (pc' := 64) dX12_readValue_63 rfl rfl rfl ?_
    refine sm_iconst (v := (4 : Int32)) (pc' := 65) dX12_readValue_64 rfl (by decide) ?_
    refine sm_icmp_ne (tgt := 138) (pc' := 68) dX12_readValue_65 (by decide) rfl ?_ ?_
    · refine sm_iload_n (i := 3) (j := 5) (pc' := 139) dX12_readValue_138 rfl rfl rfl ?_
      refine sm_iconst (v := (5 : Int32)) (pc' := 140) dX12_readValue_139 rfl (by decide) ?_
      refine sm_icmp_ne (tgt := 160) (pc' := 143) dX12_readValue_140 (by decide) rfl ?_ ?_
      · refine sm_iload_n (i := 3) (j := 5) (pc' := 161) dX12_readValue_160 rfl rfl rfl ?_
        refine sm_bipush (v := (6 : Int32)) (pc' := 163) dX12_readValue_161 rfl (by decide) ?_
        refine sm_icmp_ne (tgt := 189) (pc' := 166) dX12_readValue_163 (by decide) rfl ?_ ?_
        · refine sm_iload_n (i := 3) (j := 5) (pc' := 190) dX12_readValue_189 rfl rfl rfl ?_
          refine sm_bipush (v := (64 : Int32)) (pc' := 192) dX12_readValue_190 rfl (by decide) ?_
          refine sm_icmp_ne (tgt := 251) (pc' := 195) dX12_readValue_192 (by decide) rfl ?_ ?_
          · refine sm_aload_n (i := 0) (j := 2) (pc' := 252) dX12_readValue_251 rfl rfl rfl ?_
            refine sm_iload (i := 4) (j := 1) (pc' := 254) dX12_readValue_252 rfl rfl ?_
            refine sm_cVJ (pc' := 257) (ci := 12) (st := []) (F := fun b => fX12_read b x1 h5) [vI x1] yY_yX12_read rfl mw768 mw769 mw770 (fun b => mX12_read l D aC B b x1 h5) rfl (by decide) (by decide) (by exact Nat.le_of_ble_eq_true rfl) rfl dX12_readValue_254 rfl (fun x8 h9 => ?_)
            refine sm_lstore (i := 6) (lv' := [(6, vJ x8), (5, vI x7), (4, vI x1), (0, vR (some a0)), (1, vI a1), (2, vI a2), (3, vI a3)]) (pc' := 259) dX12_readValue_257 rfl (by decide) rfl ?_
            refine sm_iload_n (i := 3) (j := 6) (pc' := 260) dX12_readValue_259 rfl rfl rfl ?_
            refine sm_iconst (v := (2 : Int32)) (pc' := 261) dX12_readValue_260 rfl (by decide) ?_
            refine sm_icmp_ne (tgt := 293) (pc' := 264) dX12_readValue_261 (by decide) rfl ?_ ?_
            · refine sm_iload_n (i := 3) (j := 6) (pc' := 294) dX12_readValue_293 rfl rfl rfl ?_
              refine sm_bipush (v := (70 : Int32)) (pc' := 296) dX12_readValue_294 rfl (by decide) ?_
              refine sm_icmp_ne (tgt := 321) (pc' := 299) dX12_readValue_296 (by decide) rfl ?_ ?_
              · refine sm_aload_n (i := 0) (j := 3) (pc' := 322) dX12_readValue_321 rfl rfl rfl ?_
                refine sm_getI (k := 58) (pc' := 325) kX12 (by decide) mw765 dX12_readValue_322 rfl (fun x10 => ?_)
                refine sm_if_ne (tgt := 344) (pc' := 328) dX12_readValue_325 (by decide) rfl ?_ ?_
                · refine sm_iconst (v := (0 : Int32)) (pc' := 345) dX12_readValue_344 rfl (by decide) ?_
                  refine sm_lo (lv' := [(0, vR (some a0)), (1, vI a1), (6, vJ x8)]) [3, 4, 0] rfl ?_
                  exact sX12_readValue_345 l D aC B  a0 a1 x8 (0 : Int32) h9
                refine sm_lload (i := 6) (j := 0) (pc' := 330) dX12_readValue_328 rfl rfl ?_
                refine sm_lconst (v := (0 : Int64)) (pc' := 331) dX12_readValue_330 rfl (by decide) ?_
                refine sm_ldc2 (v := (4294967295 : Int64)) (pc' := 334) dX12_readValue_331 rfl mw705 ?_
                refine sm_cSI (pc' := 337) (st := []) [vJ x8, vJ (0 : Int64), vJ (4294967295 : Int64)] yY_yX12_in mw701 mw702 (mX12_in l D aC B x8 (0 : Int64) (4294967295 : Int64) h9) rfl (by decide) (by decide) (by exact Nat.le_of_ble_eq_true rfl) rfl dX12_readValue_334 rfl (fun x11 h12 => ?_)
                refine sm_if_eq (tgt := 344) (pc' := 340) dX12_readValue_337 (by decide) rfl ?_ ?_
                · refine sm_iconst (v := (0 : Int32)) (pc' := 345) dX12_readValue_344 rfl (by decide) ?_
                  refine sm_lo (lv' := [(0, vR (some a0)), (1, vI a1), (6, vJ x8)]) [3, 4, 0] rfl ?_
                  exact sX12_readValue_345 l D aC B  a0 a1 x8 (0 : Int32) h12
                refine sm_iconst (v := (1 : Int32)) (pc' := 341) dX12_readValue_340 rfl (by decide) ?_
                refine sm_goto (pc' := 345) dX12_readValue_341 (by decide) ?_
                refine sm_lo (lv' := [(0, vR (some a0)), (1, vI a1), (6, vJ x8)]) [3, 4, 0] rfl ?_
                exact sX12_readValue_345 l D aC B  a0 a1 x8 (1 : Int32) h12
              refine sm_aload_n (i := 0) (j := 3) (pc' := 300) dX12_readValue_299 rfl rfl rfl ?_
              refine sm_getI (k := 58) (pc' := 303) kX12 (by decide) mw765 dX12_readValue_300 rfl (fun x13 => ?_)
              refine sm_if_ne (tgt := 313) (pc' := 306) dX12_readValue_303 (by decide) rfl ?_ ?_
              · refine sm_iconst (v := (1 : Int32)) (pc' := 314) dX12_readValue_313 rfl (by decide) ?_
                refine sm_goto (pc' := 345) dX12_readValue_314 (by decide) ?_
                refine sm_lo (lv' := [(0, vR (some a0)), (1, vI a1), (6, vJ x8)]) [3, 4, 0] rfl ?_
                exact sX12_readValue_345 l D aC B  a0 a1 x8 (1 : Int32) h9
              refine sm_lload (i := 6) (j := 0) (pc' := 308) dX12_readValue_306 rfl rfl ?_
              refine sm_lconst (v := (0 : Int64)) (pc' := 309) dX12_readValue_308 rfl (by decide) ?_
              refine sm_lcmp (pc' := 310) dX12_readValue_309 rfl ?_
              refine sm_if_lt (tgt := 317) (pc' := 313) dX12_readValue_310 (by decide) rfl ?_ ?_
              · refine sm_iconst (v := (0 : Int32)) (pc' := 318) dX12_readValue_317 rfl (by decide) ?_
                refine sm_goto (pc' := 345) dX12_readValue_318 (by decide) ?_
                refine sm_lo (lv' := [(0, vR (some a0)), (1, vI a1), (6, vJ x8)]) [3, 4, 0] rfl ?_
                exact sX12_readValue_345 l D aC B  a0 a1 x8 (0 : Int32) h9
              refine sm_iconst (v := (1 : Int32)) (pc' := 314) dX12_readValue_313 rfl (by decide) ?_
              refine sm_goto (pc' := 345) dX12_readValue_314 (by decide) ?_
              refine sm_lo (lv' := [(0, vR (some a0)), (1, vI a1), (6, vJ x8)]) [3, 4, 0] rfl ?_
              exact sX12_readValue_345 l D aC B  a0 a1 x8 (1 : Int32) h9
            refine sm_aload_n (i := 0) (j := 3) (pc' := 265) dX12_readValue_264 rfl rfl rfl ?_
            refine sm_getI (k := 58) (pc' := 268) kX12 (by decide) mw765 dX12_readValue_265 rfl (fun x14 => ?_)
            refine sm_if_ne (tgt := 289) (pc' := 271) dX12_readValue_268 (by decide) rfl ?_ ?_
            · refine sm_iconst (v := (0 : Int32)) (pc' := 290) dX12_readValue_289 rfl (by decide) ?_
              refine sm_goto (pc' := 345) dX12_readValue_290 (by decide) ?_
              refine sm_lo (lv' := [(0, vR (some a0)), (1, vI a1), (6, vJ x8)]) [3, 4, 0] rfl ?_
              exact sX12_readValue_345 l D aC B  a0 a1 x8 (0 : Int32) h9
            refine sm_lload (i := 6) (j := 0) (pc' := 273) dX12_readValue_271 rfl rfl ?_
            refine sm_ldc2 (v := (-2147483648 : Int64)) (pc' := 276) dX12_readValue_273 rfl mw741 ?_
            refine sm_ldc2 (v := (2147483647 : Int64)) (pc' := 279) dX12_readValue_276 rfl mw742 ?_
            refine sm_cSI (pc' := 282) (st := []) [vJ x8, vJ (-2147483648 : Int64), vJ (2147483647 : Int64)] yY_yX12_in mw701 mw702 (mX12_in l D aC B x8 (-2147483648 : Int64) (2147483647 : Int64) h9) rfl (by decide) (by decide) (by exact Nat.le_of_ble_eq_true rfl) rfl dX12_readValue_279 rfl (fun x15 h16 => ?_)
            refine sm_if_eq (tgt := 289) (pc' := 285) dX12_readValue_282 (by decide) rfl ?_ ?_
            · refine sm_iconst (v := (0 : Int32)) (pc' := 290) dX12_readValue_289 rfl (by decide) ?_
              refine sm_goto (pc' := 345) dX12_readValue_290 (by decide) ?_
              refine sm_lo (lv' := [(0, vR (some a0)), (1, vI a1), (6, vJ x8)]) [3, 4, 0] rfl ?_
              exact sX12_readValue_345 l D aC B  a0 a1 x8 (0 : Int32) h16
            refine sm_iconst (v := (1 : Int32)) (pc' := 286) dX12_readValue_285 rfl (by decide) ?_
            refine sm_goto (pc' := 345) dX12_readValue_286 (by decide) ?_
            refine sm_lo (lv' := [(0, vR (some a0)), (1, vI a1), (6, vJ x8)]) [3, 4, 0] rfl ?_
            exact sX12_readValue_345 l D aC B  a0 a1 x8 (1 : Int32) h16
          refine sm_iload (i := 5) (j := 0) (pc' := 197) dX12_readValue_195 rfl rfl ?_
          refine sm_iconst (v := (4 : Int32)) (pc' := 198) dX12_readValue_197 rfl (by decide) ?_
          refine sm_icmp_eq (tgt := 207) (pc' := 201) dX12_readValue_198 (by decide) rfl ?_ ?_
          · refine sm_lconst (v := (0 : Int64)) (pc' := 208) dX12_readValue_207 rfl (by decide) ?_
            refine sm_lstore (i := 6) (lv' := [(6, vJ (0 : Int64)), (5, vI x7), (4, vI x1), (0, vR (some a0)), (1, vI a1), (2, vI a2), (3, vI a3)]) (pc' := 210) dX12_readValue_208 rfl (by decide) rfl ?_
            refine sm_iconst (v := (0 : Int32)) (pc' := 211) dX12_readValue_210 rfl (by decide) ?_
            refine sm_istore (i := 8) (lv' := [(8, vI (0 : Int32)), (6, vJ (0 : Int64)), (5, vI x7), (4, vI x1), (0, vR (some a0)), (1, vI a1), (2, vI a2), (3, vI a3)]) (pc' := 213) dX12_readValue_211 rfl (by decide) rfl ?_
            refine sm_lo (lv' := [(0, vR (some a0)), (1, vI a1), (4, vI x1), (6, vJ (0 : Int64)), (8, vI (0 : Int32))]) [4, 5, 3, 1, 0] rfl ?_
            exact sX12_readValue_213 l D aC B   sm_fuel a0 a1 x1 (0 : Int64) (0 : Int32) h5
          refine sm_aload_n (i := 0) (j := 2) (pc' := 202) dX12_readValue_201 rfl rfl rfl ?_
          refine sm_iconst (v := (1 : Int32)) (pc' := 203) dX12_readValue_202 rfl (by decide) ?_
          refine sm_putI (k := 45) (pc' := 206) kX12 (by decide) mw756 rfl rfl dX12_readValue_203 rfl (fun h18 => ?_)
          exact sm_vret rfl dX12_readValue_206
        refine sm_aload_n (i := 0) (j := 2) (pc' := 167) dX12_readValue_166 rfl rfl rfl ?_
        refine sm_getR (k := 43) (pc' := 170) kX12 (by decide) mw693 dX12_readValue_167 rfl (fun x19 => ?_)
        refine sm_iload_n (i := 1) (j := 3) (pc' := 171) dX12_readValue_170 rfl rfl rfl ?_
        refine sm_aload_n (i := 0) (j := 2) (pc' := 172) dX12_readValue_171 rfl rfl rfl ?_
        refine sm_iload (i := 4) (j := 1) (pc' := 174) dX12_readValue_172 rfl rfl ?_
        refine sm_aload_n (i := 0) (j := 2) (pc' := 175) dX12_readValue_174 rfl rfl rfl ?_
        refine sm_getR (k := 42) (pc' := 178) kX12 (by decide) mw692 dX12_readValue_175 rfl (fun x20 => ?_)
        refine sm_bipush (v := (16 : Int32)) (pc' := 180) dX12_readValue_178 rfl (by decide) ?_
        refine sm_iload_n (i := 1) (j := 3) (pc' := 181) dX12_readValue_180 rfl rfl rfl ?_
        refine sm_imul (pc' := 182) dX12_readValue_181 rfl ?_
        refine sm_cVI (pc' := 185) (ci := 12) (st := [vI a1, vR x19]) (F := fun b => fX12_readName b x1 x20 ((16 : Int32) * a1) h5) [vI x1, vR x20, vI ((16 : Int32) * a1)] yY_yX12_readName rfl mw775 mw776 mw777 (fun b => mX12_readName l D aC B b x1 x20 ((16 : Int32) * a1) h5) rfl (by decide) (by decide) (by exact Nat.le_of_ble_eq_true rfl) rfl dX12_readValue_182 rfl (fun x21 h22 => ?_)
        refine sm_iast (t := 0) (pc' := 186) rfl dX12_readValue_185 rfl (fun h23 => ?_)
        refine sm_goto (pc' := 379) dX12_readValue_186 (by decide) ?_
        exact sm_vret rfl dX12_readValue_379
      refine sm_aload_n (i := 0) (j := 2) (pc' := 144) dX12_readValue_143 rfl rfl rfl ?_
      refine sm_iload (i := 5) (j := 0) (pc' := 146) dX12_readValue_144 rfl rfl ?_
      refine sm_if_ne (tgt := 153) (pc' := 149) dX12_readValue_146 (by decide) rfl ?_ ?_
      · refine sm_iconst (v := (1 : Int32)) (pc' := 154) dX12_readValue_153 rfl (by decide) ?_
        refine sm_putI (k := 45) (pc' := 157) kX12 (by decide) mw756 rfl rfl dX12_readValue_154 rfl (fun h25 => ?_)
        refine sm_goto (pc' := 379) dX12_readValue_157 (by decide) ?_
        exact sm_vret rfl dX12_readValue_379
      refine sm_iconst (v := (0 : Int32)) (pc' := 150) dX12_readValue_149 rfl (by decide) ?_
      refine sm_goto (pc' := 154) dX12_readValue_150 (by decide) ?_
      refine sm_putI (k := 45) (pc' := 157) kX12 (by decide) mw756 rfl rfl dX12_readValue_154 rfl (fun h26 => ?_)
      refine sm_goto (pc' := 379) dX12_readValue_157 (by decide) ?_
      exact sm_vret rfl dX12_readValue_379
    refine sm_iload (i := 5) (j := 0) (pc' := 70) dX12_readValue_68 rfl rfl ?_
    refine sm_bipush (v := (40 : Int32)) (pc' := 72) dX12_readValue_70 rfl (by decide) ?_
    refine sm_icmp_le (tgt := 81) (pc' := 75) dX12_readValue_72 (by decide) rfl ?_ ?_
    · refine sm_iconst (v := (0 : Int32)) (pc' := 82) dX12_readValue_81 rfl (by decide) ?_
      refine sm_istore (i := 6) (lv' := [(6, vI (0 : Int32)), (5, vI x7), (4, vI x1), (0, vR (some a0)), (1, vI a1), (2, vI a2), (3, vI a3)]) (pc' := 84) dX12_readValue_82 rfl (by decide) rfl ?_
      refine sm_lo (lv' := [(0, vR (some a0)), (1, vI a1), (4, vI x1), (5, vI x7), (6, vI (0 : Int32))]) [3, 4, 2, 1, 0] rfl ?_
      exact sX12_readValue_84 l D aC B   sm_fuel a0 a1 x1 x7 (0 : Int32) h5
    refine sm_aload_n (i := 0) (j := 2) (pc' := 76) dX12_readValue_75 rfl rfl rfl ?_
    refine sm_iconst (v := (1 : Int32)) (pc' := 77) dX12_readValue_76 rfl (by decide) ?_
    refine sm_putI (k := 45) (pc' := 80) kX12 (by decide) mw756 rfl rfl dX12_readValue_77 rfl (fun h27 => ?_)
    exact sm_vret rfl dX12_readValue_80
  exact sm_vret rfl dX12_readValue_46
noncomputable def fX12_readValue  (a0 : Nat) (a1 : Int32) (a2 : Int32) (h : sm_H) : Option (Unit × sm_H) :=
  (sm_obj h (some a0) 12).bind fun b7 =>
  sm_cb (fX12_octet b7 a2 h) fun x1 h2 =>
  (sm_I (sm_get h2 (some a0) 12 45)).bind fun x3 =>
  if x3 = 0 then (
    if x1 = (5 : Int32) then (
      fX12_readValue_32 a0 a1 a2 x1 h2
    ) else
    sm_cb (fX12_isTag x1 h2) fun x4 h5 =>
    if x4 = 0 then (
      (sm_put h5 (some a0) 12 45 (sm_v (vI (1 : Int32)))).bind fun h6 =>
      some ((), h6)
    ) else
    fX12_readValue_32 a0 a1 a2 x1 h5
  ) else
  some ((), h2)
set_option maxRecDepth 100000 in
set_option maxHeartbeats 4000000 in
theorem sX12_readValue_0 (l : Launch) (D : va_G) (aC : Nat → ClassId) (B : Nat)   (a0 : Nat) (a1 : Int32) (a2 : Int32) (h : sm_H) : zS l D aC B cX12_readValue 9 RX12 2 51 none "readValue" vlU (fX12_readValue a0 a1 a2 h) 0 [(0, vR (some a0)), (1, vI a1), (2, vI a2)] [] h := by
  unfold fX12_readValue
  refine sm_aload_n (i := 0) (j := 0) (pc' := 1) dX12_readValue_0 rfl rfl rfl ?_
  refine sm_iload_n (i := 2) (j := 2) (pc' := 2) dX12_readValue_1 rfl rfl rfl ?_
  refine sm_cVI (pc' := 5) (ci := 12) (st := []) (F := fun b => fX12_octet b a2 h) [vI a2] yY_yX12_octet rfl mw757 mw758 mw759 (fun b => mX12_octet l D aC B b a2 h) rfl (by decide) (by decide) (by exact Nat.le_of_ble_eq_true rfl) rfl dX12_readValue_2 rfl (fun x1 h2 => ?_)
  refine sm_istore_n (i := 3) (lv' := [(3, vI x1), (0, vR (some a0)), (1, vI a1), (2, vI a2)]) (pc' := 6) dX12_readValue_5 rfl rfl (by decide) rfl ?_
  refine sm_aload_n (i := 0) (j := 1) (pc' := 7) dX12_readValue_6 rfl rfl rfl ?_
  refine sm_getI (k := 45) (pc' := 10) kX12 (by decide) mw756 dX12_readValue_7 rfl (fun x3 => ?_)
  refine sm_if_eq (tgt := 14) (pc' := 13) dX12_readValue_10 (by decide) rfl ?_ ?_
  · refine sm_iload_n (i := 3) (j := 0) (pc' := 15) dX12_readValue_14 rfl rfl rfl ?_
    refine sm_iconst (v := (5 : Int32)) (pc' := 16) dX12_readValue_15 rfl (by decide) ?_
    refine sm_icmp_eq (tgt := 32) (pc' := 19) dX12_readValue_16 (by decide) rfl ?_ ?_
    · refine sm_lo (lv' := [(0, vR (some a0)), (1, vI a1), (2, vI a2), (3, vI x1)]) [1, 2, 3, 0] rfl ?_
      exact sX12_readValue_32 l D aC B  a0 a1 a2 x1 h2
    refine sm_iload_n (i := 3) (j := 0) (pc' := 20) dX12_readValue_19 rfl rfl rfl ?_
    refine sm_cSI (pc' := 23) (st := []) [vI x1] yY_yX12_isTag mw719 mw724 (mX12_isTag l D aC B x1 h2) rfl (by decide) (by decide) (by exact Nat.le_of_ble_eq_true rfl) rfl dX12_readValue_20 rfl (fun x4 h5 => ?_)
    refine sm_if_ne (tgt := 32) (pc' := 26) dX12_readValue_23 (by decide) rfl ?_ ?_
    · refine sm_lo (lv' := [(0, vR (some a0)), (1, vI a1), (2, vI a2), (3, vI x1)]) [1, 2, 3, 0] rfl ?_
      exact sX12_readValue_32 l D aC B  a0 a1 a2 x1 h5
    refine sm_aload_n (i := 0) (j := 1) (pc' := 27) dX12_readValue_26 rfl rfl rfl ?_
    refine sm_iconst (v := (1 : Int32)) (pc' := 28) dX12_readValue_27 rfl (by decide) ?_
    refine sm_putI (k := 45) (pc' := 31) kX12 (by decide) mw756 rfl rfl dX12_readValue_28 rfl (fun h6 => ?_)
    exact sm_vret rfl dX12_readValue_31
  exact sm_vret rfl dX12_readValue_13
set_option maxRecDepth 100000 in
theorem mX12_readValue (l : Launch) (D : va_G) (aC : Nat → ClassId) (B : Nat) (a0 : Nat) (a1 : Int32) (a2 : Int32) (h : sm_H) : sm_M l D vwCl gAts aC B gTs gNs gOs yX12_readValue cX12_readValue 9 none 2 51 vlU [vR (some a0), vI a1, vI a2] h (fX12_readValue a0 a1 a2 h) := sm_meth [vR (some a0), vI a1, vI a2] yY_yX12_readValue gG gN (Nat.le_of_ble_eq_true rfl) rfl (sX12_readValue_0 l D aC B a0 a1 a2 h)
