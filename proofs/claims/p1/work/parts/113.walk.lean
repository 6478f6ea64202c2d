-- M:TreeAgentModel.value(IIJ)I
noncomputable def fX12_value_106  (a0 : Nat) (a1 : Int32) (a3 : Int64) (a5 : Int32) (h : sm_H) : Option (Int32 × sm_H) :=
  (sm_R (sm_get h (some a0) 12 17)).bind fun x1 =>
  (sm_R (sm_get h (some a0) 12 11)).bind fun x2 =>
  (sm_aI h x2 0 a1).bind fun x3 =>
  if x3 = (64 : Int32) then (
    (sm_sJ h x1 1 a5 (a3 &&& (4294967295 : Int64))).bind fun h5 =>
    some ((1 : Int32), h5)
  ) else
  (sm_sJ h x1 1 a5 a3).bind fun h4 =>
  some ((1 : Int32), h4)
set_option maxRecDepth 100000 in
set_option maxHeartbeats 4000000 in
theorem sX12_value_106 (l : Launch) (D : va_G) (aC : Nat → ClassId) (B : Nat)   (a0 : Nat) (a1 : Int32) (a3 : Int64) (a5 : Int32) (h : sm_H) : zS l D aC B cX12_value 6 RX12 2 48 (some .int) "value" vlI (fX12_value_106 a0 a1 a3 a5 h) 106 [(0, vR (some a0)), (1, vI a1), (3, vJ a3), (5, vI a5)] [] h := by
  unfold fX12_value_106
  refine sm_aload_n (i := 0) (j := 0) (pc' := 107) dX12_value_106 rfl rfl rfl ?_
  refine sm_getR (k := 17) (pc' := 110) kX12 (by decide) mw669 dX12_value_107 rfl (fun x1 => ?_)
  refine sm_iload (i := 5) (j := 3) (pc' := 112) dX12_value_110 rfl rfl ?_
  refine sm_aload_n (i := 0) (j := 0) (pc' := 113) dX12_value_112 rfl rfl rfl ?_
  refine sm_getR (k := 11) (pc' := 116) kX12 (by decide) mw663 dX12_value_113 rfl (fun x2 => ?_)
  refine sm_iload_n (i := 1) (j := 1) (pc' := 117) dX12_value_116 rfl rfl rfl ?_
  refine sm_iald (t := 0) (pc' := 118) rfl dX12_value_117 rfl (fun x3 => ?_)
  refine sm_bipush (v := (64 : Int32)) (pc' := 120) dX12_value_118 rfl (by decide) ?_
  refine sm_icmp_ne (tgt := 131) (pc' := 123) dX12_value_120 (by decide) rfl ?_ ?_
  · refine sm_lload_n (i := 3) (j := 2) (pc' := 132) dX12_value_131 rfl rfl rfl ?_
    refine sm_last (t := 1) (pc' := 133) rfl dX12_value_132 rfl (fun h4 => ?_)
    refine sm_iconst (v := (1 : Int32)) (pc' := 134) dX12_value_133 rfl (by decide) ?_
    exact sm_iret rfl dX12_value_134
  refine sm_lload_n (i := 3) (j := 2) (pc' := 124) dX12_value_123 rfl rfl rfl ?_
  refine sm_ldc2 (v := (4294967295 : Int64)) (pc' := 127) dX12_value_124 rfl mw705 ?_
  refine sm_land (pc' := 128) dX12_value_127 rfl ?_
  refine sm_goto (pc' := 132) dX12_value_128 (by decide) ?_
  refine sm_last (t := 1) (pc' := 133) rfl dX12_value_132 rfl (fun h5 => ?_)
  refine sm_iconst (v := (1 : Int32)) (pc' := 134) dX12_value_133 rfl (by decide) ?_
  exact sm_iret rfl dX12_value_134
noncomputable def fX12_value_73  (a0 : Nat) (a1 : Int32) (a3 : Int64) (a5 : Int32) (h : sm_H) : Option (Int32 × sm_H) :=
  (sm_R (sm_get h (some a0) 12 11)).bind fun x1 =>
  (sm_aI h x1 0 a1).bind fun x2 =>
  sm_cb (fX12_in (x2.toInt64) (65 : Int64) (67 : Int64) h) fun x3 h4 =>
  if x3 = 0 then (
    fX12_value_106 a0 a1 a3 a5 h4
  ) else
  sm_cb (fX12_in a3 (0 : Int64) (4294967295 : Int64) h4) fun x5 h6 =>
  if x5 = 0 then (
    some ((-2 : Int32), h6)
  ) else
  fX12_value_106 a0 a1 a3 a5 h6
set_option maxRecDepth 100000 in
set_option maxHeartbeats 4000000 in
theorem sX12_value_73 (l : Launch) (D : va_G) (aC : Nat → ClassId) (B : Nat)   (a0 : Nat) (a1 : Int32) (a3 : Int64) (a5 : Int32) (h : sm_H) : zS l D aC B cX12_value 6 RX12 2 48 (some .int) "value" vlI (fX12_value_73 a0 a1 a3 a5 h) 73 [(0, vR (some a0)), (1, vI a1), (3, vJ a3), (5, vI a5)] [] h := by
  unfold fX12_value_73
  refine sm_aload_n (i := 0) (j := 0) (pc' := 74) dX12_value_73 rfl rfl rfl ?_
  refine sm_getR (k := 11) (pc' := 77) kX12 (by decide) mw663 dX12_value_74 rfl (fun x1 => ?_)
  refine sm_iload_n (i := 1) (j := 1) (pc' := 78) dX12_value_77 rfl rfl rfl ?_
  refine sm_iald (t := 0) (pc' := 79) rfl dX12_value_78 rfl (fun x2 => ?_)
  refine sm_i2l (pc' := 80) dX12_value_79 rfl ?_
  refine sm_ldc2 (v := (65 : Int64)) (pc' := 83) dX12_value_80 rfl mw739 ?_
  refine sm_ldc2 (v := (67 : Int64)) (pc' := 86) dX12_value_83 rfl mw712 ?_
  refine sm_cSI (pc' := 89) (st := []) [vJ (x2.toInt64), vJ (65 : Int64), vJ (67 : Int64)] yY_yX12_in mw701 mw702 (mX12_in l D aC B (x2.toInt64) (65 : Int64) (67 : Int64) h) rfl (by decide) (by decide) (by exact Nat.le_of_ble_eq_true rfl) rfl dX12_value_86 rfl (fun x3 h4 => ?_)
  refine sm_if_eq (tgt := 106) (pc' := 92) dX12_value_89 (by decide) rfl ?_ ?_
  · exact sX12_value_106 l D aC B  a0 a1 a3 a5 h4
  refine sm_lload_n (i := 3) (j := 2) (pc' := 93) dX12_value_92 rfl rfl rfl ?_
  refine sm_lconst (v := (0 : Int64)) (pc' := 94) dX12_value_93 rfl (by decide) ?_
  refine sm_ldc2 (v := (4294967295 : Int64)) (pc' := 97) dX12_value_94 rfl mw705 ?_
  refine sm_cSI (pc' := 100) (st := []) [vJ a3, vJ (0 : Int64), vJ (4294967295 : Int64)] yY_yX12_in mw701 mw702 (mX12_in l D aC B a3 (0 : Int64) (4294967295 : Int64) h4) rfl (by decide) (by decide) (by exact Nat.le_of_ble_eq_true rfl) rfl dX12_value_97 rfl (fun x5 h6 => ?_)
  refine sm_if_ne (tgt := 106) (pc' := 103) dX12_value_100 (by decide) rfl ?_ ?_
  · exact sX12_value_106 l D aC B  a0 a1 a3 a5 h6
  refine sm_bipush (v := (-2 : Int32)) (pc' := 105) dX12_value_103 rfl (by decide) ?_
  exact sm_iret rfl dX12_value_105
noncomputable def fX12_value  (a0 : Nat) (a1 : Int32) (a2 : Int32) (a3 : Int64) (h : sm_H) : Option (Int32 × sm_H) :=
  (sm_put h (some a0) 12 0 (sm_v (vI (0 : Int32)))).bind fun h1 =>
  (sm_obj h1 (some a0) 12).bind fun b14 =>
  sm_cb (fX12_instance b14 a1 a2 h1) fun x2 h3 =>
  if x2 < 0 then (
    some ((-1 : Int32), h3)
  ) else
  (sm_R (sm_get h3 (some a0) 12 11)).bind fun x4 =>
  (sm_aI h3 x4 0 a1).bind fun x5 =>
  if x5 = (4 : Int32) then (
    some ((-1 : Int32), h3)
  ) else
  (sm_R (sm_get h3 (some a0) 12 11)).bind fun x6 =>
  (sm_aI h3 x6 0 a1).bind fun x7 =>
  if x7 = (6 : Int32) then (
    some ((-1 : Int32), h3)
  ) else
  (sm_R (sm_get h3 (some a0) 12 16)).bind fun x8 =>
  (sm_aI h3 x8 2 a1).bind fun x9 =>
  if x9 = 0 then (
    (sm_R (sm_get h3 (some a0) 12 11)).bind fun x10 =>
    (sm_aI h3 x10 0 a1).bind fun x11 =>
    if x11 = (2 : Int32) then (
      sm_cb (fX12_in a3 (-2147483648 : Int64) (2147483647 : Int64) h3) fun x12 h13 =>
      if x12 = 0 then (
        some ((-2 : Int32), h13)
      ) else
      fX12_value_73 a0 a1 a3 x2 h13
    ) else
    fX12_value_73 a0 a1 a3 x2 h3
  ) else
  some ((-1 : Int32), h3)
set_option maxRecDepth 100000 in
set_option maxHeartbeats 4000000 in
theorem sX12_value_0 (l : Launch) (D : va_G) (aC : Nat → ClassId) (B : Nat)   (a0 : Nat) (a1 : Int32) (a2 : Int32) (a3 : Int64) (h : sm_H) : zS l D aC B cX12_value 6 RX12 2 48 (some .int) "value" vlI (fX12_value a0 a1 a2 a3 h) 0 [(0, vR (some a0)), (1, vI a1), (2, vI a2), (3, vJ a3)] [] h := by
  unfold fX12_value
  refine sm_aload_n (i := 0) (j := 0) (pc' := 1) dX12_value_0 rfl rfl rfl ?_
  refine sm_iconst (v := (0 : Int32)) (pc' := 2) dX12_value_1 rfl (by decide) ?_
  refine sm_putI (k := 0) (pc' := 5) kX12 (by decide) mw699 rfl rfl dX12_value_2 rfl (fun h1 => ?_)
  refine sm_aload_n (i := 0) (j := 0) (pc' := 6) dX12_value_5 rfl rfl rfl ?_
  refine sm_iload_n (i := 1) (j := 1) (pc' := 7) dX12_value_6 rfl rfl rfl ?_
  refine sm_iload_n (i := 2) (j := 2) (pc' := 8) dX12_value_7 rfl rfl rfl ?_
  refine sm_cVI (pc' := 11) (ci := 12) (st := []) (F := fun b => fX12_instance b a1 a2 h1) [vI a1, vI a2] yY_yX12_instance rfl mw740 mw743 mw744 (fun b => mX12_instance l D aC B b a1 a2 h1) rfl (by decide) (by decide) (by exact Nat.le_of_ble_eq_true rfl) rfl dX12_value_8 rfl (fun x2 h3 => ?_)
  refine sm_istore (i := 5) (lv' := [(5, vI x2), (0, vR (some a0)), (1, vI a1), (2, vI a2), (3, vJ a3)]) (pc' := 13) dX12_value_11 rfl (by decide) rfl ?_
  refine sm_iload (i := 5) (j := 0) (pc' := 15) dX12_value_13 rfl rfl ?_
  refine sm_if_lt (tgt := 48) (pc' := 18) dX12_value_15 (by decide) rfl ?_ ?_
  · refine sm_iconst (v := (-1 : Int32)) (pc' := 49) dX12_value_48 rfl (by decide) ?_
    exact sm_iret rfl dX12_value_49
  refine sm_aload_n (i := 0) (j := 1) (pc' := 19) dX12_value_18 rfl rfl rfl ?_
  refine sm_getR (k := 11) (pc' := 22) kX12 (by decide) mw663 dX12_value_19 rfl (fun x4 => ?_)
  refine sm_iload_n (i := 1) (j := 2) (pc' := 23) dX12_value_22 rfl rfl rfl ?_
  refine sm_iald (t := 0) (pc' := 24) rfl dX12_value_23 rfl (fun x5 => ?_)
  refine sm_iconst (v := (4 : Int32)) (pc' := 25) dX12_value_24 rfl (by decide) ?_
  refine sm_icmp_eq (tgt := 48) (pc' := 28) dX12_value_25 (by decide) rfl ?_ ?_
  · refine sm_iconst (v := (-1 : Int32)) (pc' := 49) dX12_value_48 rfl (by decide) ?_
    exact sm_iret rfl dX12_value_49
  refine sm_aload_n (i := 0) (j := 1) (pc' := 29) dX12_value_28 rfl rfl rfl ?_
  refine sm_getR (k := 11) (pc' := 32) kX12 (by decide) mw663 dX12_value_29 rfl (fun x6 => ?_)
  refine sm_iload_n (i := 1) (j := 2) (pc' := 33) dX12_value_32 rfl rfl rfl ?_
  refine sm_iald (t := 0) (pc' := 34) rfl dX12_value_33 rfl (fun x7 => ?_)
  refine sm_bipush (v := (6 : Int32)) (pc' := 36) dX12_value_34 rfl (by decide) ?_
  refine sm_icmp_eq (tgt := 48) (pc' := 39) dX12_value_36 (by decide) rfl ?_ ?_
  · refine sm_iconst (v := (-1 : Int32)) (pc' := 49) dX12_value_48 rfl (by decide) ?_
    exact sm_iret rfl dX12_value_49
  refine sm_aload_n (i := 0) (j := 1) (pc' := 40) dX12_value_39 rfl rfl rfl ?_
  refine sm_getR (k := 16) (pc' := 43) kX12 (by decide) mw668 dX12_value_40 rfl (fun x8 => ?_)
  refine sm_iload_n (i := 1) (j := 2) (pc' := 44) dX12_value_43 rfl rfl rfl ?_
  refine sm_zald (t := 2) (pc' := 45) rfl dX12_value_44 rfl (fun x9 => ?_)
  refine sm_if_eq (tgt := 50) (pc' := 48) dX12_value_45 (by decide) rfl ?_ ?_
  · refine sm_aload_n (i := 0) (j := 1) (pc' := 51) dX12_value_50 rfl rfl rfl ?_
    refine sm_getR (k := 11) (pc' := 54) kX12 (by decide) mw663 dX12_value_51 rfl (fun x10 => ?_)
    refine sm_iload_n (i := 1) (j := 2) (pc' := 55) dX12_value_54 rfl rfl rfl ?_
    refine sm_iald (t := 0) (pc' := 56) rfl dX12_value_55 rfl (fun x11 => ?_)
    refine sm_iconst (v := (2 : Int32)) (pc' := 57) dX12_value_56 rfl (by decide) ?_
    refine sm_icmp_ne (tgt := 73) (pc' := 60) dX12_value_57 (by decide) rfl ?_ ?_
    · refine sm_lo (lv' := [(0, vR (some a0)), (1, vI a1), (3, vJ a3), (5, vI x2)]) [1, 2, 4, 0] rfl ?_
      exact sX12_value_73 l D aC B  a0 a1 a3 x2 h3
    refine sm_lload_n (i := 3) (j := 4) (pc' := 61) dX12_value_60 rfl rfl rfl ?_
    refine sm_ldc2 (v := (-2147483648 : Int64)) (pc' := 64) dX12_value_61 rfl mw741 ?_
    refine sm_ldc2 (v := (2147483647 : Int64)) (pc' := 67) dX12_value_64 rfl mw742 ?_
    refine sm_cSI (pc' := 70) (st := []) [vJ a3, vJ (-2147483648 : Int64), vJ (2147483647 : Int64)] yY_yX12_in mw701 mw702 (mX12_in l D aC B a3 (-2147483648 : Int64) (2147483647 : Int64) h3) rfl (by decide) (by decide) (by exact Nat.le_of_ble_eq_true rfl) rfl dX12_value_67 rfl (fun x12 h13 => ?_)
    refine sm_if_eq (tgt := 103) (pc' := 73) dX12_value_70 (by decide) rfl ?_ ?_
    · refine sm_bipush (v := (-2 : Int32)) (pc' := 105) dX12_value_103 rfl (by decide) ?_
      exact sm_iret rfl dX12_value_105
    refine sm_lo (lv' := [(0, vR (some a0)), (1, vI a1), (3, vJ a3), (5, vI x2)]) [1, 2, 4, 0] rfl ?_
    exact sX12_value_73 l D aC B  a0 a1 a3 x2 h13
  refine sm_iconst (v := (-1 : Int32)) (pc' := 49) dX12_value_48 rfl (by decide) ?_
  exact sm_iret rfl dX12_value_49
set_option maxRecDepth 100000 in
theorem mX12_value (l : Launch) (D : va_G) (aC : Nat → ClassId) (B : Nat) (a0 : Nat) (a1 : Int32) (a2 : Int32) (a3 : Int64) (h : sm_H) : sm_M l D vwCl gAts aC B gTs gNs gOs yX12_value cX12_value 6 (some .int) 2 48 vlI [vR (some a0), vI a1, vI a2, vJ a3] h (fX12_value a0 a1 a2 a3 h) := sm_meth [vR (some a0), vI a1, vI a2, vJ a3] yY_yX12_value gG gN (Nat.le_of_ble_eq_true rfl) rfl (sX12_value_0 l D aC B a0 a1 a2 a3 h)
-- M:TreeAgentModel.text(II)I
noncomputable def fX12_text_52  : Nat → Nat → Int32 → Int32 → Int32 → sm_H → Option (Int32 × sm_H)
  | 0 => fun _ _ _ _ _ => none
  | n + 1 => fun a0 a3 a4 a5 h =>
    if a3 ≤ a5 then (
      (sm_R (sm_get h (some a0) 12 19)).bind fun x1 =>
      (sm_sI h x1 0 a4 a3).bind fun h2 =>
      some (a3, h2)
    ) else
    (sm_R (sm_get h (some a0) 12 18)).bind fun x3 =>
    (sm_R (sm_get h (some a0) 12 1)).bind fun x4 =>
    (sm_aI h x4 3 a5).bind fun x5 =>
    (sm_sI h x3 3 (((40 : Int32) * a4) + a5) (vp_nar .byte x5)).bind fun h6 =>
    sm_let (a5 + (1 : Int32)) fun x7 =>
    (fX12_text_52 n) a0 a3 a4 x7 h6
set_option maxRecDepth 100000 in
set_option maxHeartbeats 4000000 in
theorem sX12_text_52 (l : Launch) (D : va_G) (aC : Nat → ClassId) (B : Nat)   (n : Nat) : ∀ (a0 : Nat) (a3 : Int32) (a4 : Int32) (a5 : Int32) (h : sm_H), zS l D aC B cX12_text 6 RX12 2 48 (some .int) "text" vlI (fX12_text_52 n a0 a3 a4 a5 h) 52 [(0, vR (some a0)), (3, vI a3), (4, vI a4), (5, vI a5)] [] h := by
  induction n with
  | zero => intro a0 a3 a4 a5 h; exact sm_none
  | succ n ih =>
    intro a0 a3 a4 a5 h
    show zS l D aC B cX12_text 6 RX12 2 48 (some .int) "text" vlI (fX12_text_52 (n + 1) a0 a3 a4 a5 h) 52 [(0, vR (some a0)), (3, vI a3), (4, vI a4), (5, vI a5)] [] h
    unfold fX12_text_52
    refine sm_iload (i := 5) (j := 3) (pc' := 54) dX12_text_52 rfl rfl ?_
    refine sm_iload_n (i := 3) (j := 1) (pc' := 55) dX12_text_54 rfl rfl rfl ?_
    refine sm_icmp_ge (tgt := 84) (pc' := 58) dX12_text_55 (by decide) rfl ?_ ?_
    · refine sm_aload_n (i := 0) (j := 0) (pc' := 85) dX12_text_84 rfl rfl rfl ?_
      refine sm_getR (k := 19) (pc' := 88) kX12 (by decide) mw671 dX12_text_85 rfl (fun x1 => ?_)
      refine sm_iload (i := 4) (j := 2) (pc' := 90) dX12_text_88 rfl rfl ?_
      refine sm_iload_n (i := 3) (j := 1) (pc' := 91) dX12_text_90 rfl rfl rfl ?_
      refine sm_iast (t := 0) (pc' := 92) rfl dX12_text_91 rfl (fun h2 => ?_)
      refine sm_iload_n (i := 3) (j := 1) (pc' := 93) dX12_text_92 rfl rfl rfl ?_
      exact sm_iret rfl dX12_text_93
    refine sm_aload_n (i := 0) (j := 0) (pc' := 59) dX12_text_58 rfl rfl rfl ?_
    refine sm_getR (k := 18) (pc' := 62) kX12 (by decide) mw670 dX12_text_59 rfl (fun x3 => ?_)
    refine sm_bipush (v := (40 : Int32)) (pc' := 64) dX12_text_62 rfl (by decide) ?_
    refine sm_iload (i := 4) (j := 2) (pc' := 66) dX12_text_64 rfl rfl ?_
    refine sm_imul (pc' := 67) dX12_text_66 rfl ?_
    refine sm_iload (i := 5) (j := 3) (pc' := 69) dX12_text_67 rfl rfl ?_
    refine sm_iadd (pc' := 70) dX12_text_69 rfl ?_
    refine sm_aload_n (i := 0) (j := 0) (pc' := 71) dX12_text_70 rfl rfl rfl ?_
    refine sm_getR (k := 1) (pc' := 74) kX12 (by decide) mw657 dX12_text_71 rfl (fun x4 => ?_)
    refine sm_iload (i := 5) (j := 3) (pc' := 76) dX12_text_74 rfl rfl ?_
    refine sm_bald (t := 3) (pc' := 77) rfl dX12_text_76 rfl (fun x5 => ?_)
    refine sm_bast (t := 3) (pc' := 78) rfl dX12_text_77 rfl (fun h6 => ?_)
    refine sm_iincL (i := 5) (j := 3) (x := a5) (d := (1 : Int32)) (fun x7 => [(5, vI x7), (0, vR (some a0)), (3, vI a3), (4, vI a4)]) (pc' := 81) dX12_text_78 rfl rfl (by decide) (by decide) (fun _ => rfl) (fun x7 => ?_)
    refine sm_goto (pc' := 52) dX12_text_81 (by decide) ?_
    refine sm_lo (lv' := [(0, vR (some a0)), (3, vI a3), (4, vI a4), (5, vI x7)]) [1, 2, 3, 0] rfl ?_
    exact ih a0 a3 a4 x7 h6
noncomputable def fX12_text  (a0 : Nat) (a1 : Int32) (a2 : Int32) (h : sm_H) : Option (Int32 × sm_H) :=
  (sm_put h (some a0) 12 0 (sm_v (vI (0 : Int32)))).bind fun h1 =>
  (sm_I (sm_get h1 (some a0) 12 2)).bind fun x2 =>
  (sm_put h1 (some a0) 12 2 (sm_v (vI (0 : Int32)))).bind fun h3 =>
  (sm_obj h3 (some a0) 12).bind fun b8 =>
  sm_cb (fX12_instance b8 a1 a2 h3) fun x4 h5 =>
  if x4 < 0 then (
    some ((-1 : Int32), h5)
  ) else
  (sm_R (sm_get h5 (some a0) 12 11)).bind fun x6 =>
  (sm_aI h5 x6 0 a1).bind fun x7 =>
  if x7 = (4 : Int32) then (
    if x2 ≤ (40 : Int32) then (
      fX12_text_52 sm_fuel a0 x2 x4 (0 : Int32) h5
    ) else
    some ((-2 : Int32), h5)
  ) else
  some ((-1 : Int32), h5)
set_option maxRecDepth 100000 in
set_option maxHeartbeats 4000000 in
theorem sX12_text_0 (l : Launch) (D : va_G) (aC : Nat → ClassId) (B : Nat)   (a0 : Nat) (a1 : Int32) (a2 : Int32) (h : sm_H) : zS l D aC B cX12_text 6 RX12 2 48 (some .int) "text" vlI (fX12_text a0 a1 a2 h) 0 [(0, vR (some a0)), (1, vI a1), (2, vI a2)] [] h := by
  unfold fX12_text
  refine sm_aload_n (i := 0) (j := 0) (pc' := 1) dX12_text_0 rfl rfl rfl ?_
  refine sm_iconst (v := (0 : Int32)) (pc' := 2) dX12_text_1 rfl (by decide) ?_
  refine sm_putI (k := 0) (pc' := 5) kX12 (by decide) mw699 rfl rfl dX12_text_2 rfl (fun h1 => ?_)
  refine sm_aload_n (i := 0) (j := 0) (pc' := 6) dX12_text_5 rfl rfl rfl ?_
  refine sm_getI (k := 2) (pc' := 9) kX12 (by decide) mw698 dX12_text_6 rfl (fun x2 => ?_)
  refine sm_istore_n (i := 3) (lv' := [(3, vI x2), (0, vR (some a0)), (1, vI a1), (2, vI a2)]) (pc' := 10) dX12_text_9 rfl rfl (by decide) rfl ?_
  refine sm_aload_n (i := 0) (j := 1) (pc' := 11) dX12_text_10 rfl rfl rfl ?_
  refine sm_iconst (v := (0 : Int32)) (pc' := 12) dX12_text_11 rfl (by decide) ?_
  refine sm_putI (k := 2) (pc' := 15) kX12 (by decide) mw698 rfl rfl dX12_text_12 rfl (fun h3 => ?_)
  refine sm_aload_n (i := 0) (j := 1) (pc' := 16) dX12_text_15 rfl rfl rfl ?_
  refine sm_iload_n (i := 1) (j := 2) (pc' := 17) dX12_text_16 rfl rfl rfl ?_
  refine sm_iload_n (i := 2) (j := 3) (pc' := 18) dX12_text_17 rfl rfl rfl ?_
  refine sm_cVI (pc' := 21) (ci := 12) (st := []) (F := fun b => fX12_instance b a1 a2 h3) [vI a1, vI a2] yY_yX12_instance rfl mw740 mw743 mw744 (fun b => mX12_instance l D aC B b a1 a2 h3) rfl (by decide) (by decide) (by exact Nat.le_of_ble_eq_true rfl) rfl dX12_text_18 rfl (fun x4 h5 => ?_)
  refine sm_istore (i := 4) (lv' := [(4, vI x4), (3, vI x2), (0, vR (some a0)), (1, vI a1), (2, vI a2)]) (pc' := 23) dX12_text_21 rfl (by decide) rfl ?_
  refine sm_iload (i := 4) (j := 0) (pc' := 25) dX12_text_23 rfl rfl ?_
  refine sm_if_lt (tgt := 38) (pc' := 28) dX12_text_25 (by decide) rfl ?_ ?_
  · refine sm_iconst (v := (-1 : Int32)) (pc' := 39) dX12_text_38 rfl (by decide) ?_
    exact sm_iret rfl dX12_text_39
  refine sm_aload_n (i := 0) (j := 2) (pc' := 29) dX12_text_28 rfl rfl rfl ?_
  refine sm_getR (k := 11) (pc' := 32) kX12 (by decide) mw663 dX12_text_29 rfl (fun x6 => ?_)
  refine sm_iload_n (i := 1) (j := 3) (pc' := 33) dX12_text_32 rfl rfl rfl ?_
  refine sm_iald (t := 0) (pc' := 34) rfl dX12_text_33 rfl (fun x7 => ?_)
  refine sm_iconst (v := (4 : Int32)) (pc' := 35) dX12_text_34 rfl (by decide) ?_
  refine sm_icmp_eq (tgt := 40) (pc' := 38) dX12_text_35 (by decide) rfl ?_ ?_
  · refine sm_iload_n (i := 3) (j := 1) (pc' := 41) dX12_text_40 rfl rfl rfl ?_
    refine sm_bipush (v := (40 : Int32)) (pc' := 43) dX12_text_41 rfl (by decide) ?_
    refine sm_icmp_le (tgt := 49) (pc' := 46) dX12_text_43 (by decide) rfl ?_ ?_
    · refine sm_iconst (v := (0 : Int32)) (pc' := 50) dX12_text_49 rfl (by decide) ?_
      refine sm_istore (i := 5) (lv' := [(5, vI (0 : Int32)), (4, vI x4), (3, vI x2), (0, vR (some a0)), (1, vI a1), (2, vI a2)]) (pc' := 52) dX12_text_50 rfl (by decide) rfl ?_
      refine sm_lo (lv' := [(0, vR (some a0)), (3, vI x2), (4, vI x4), (5, vI (0 : Int32))]) [3, 2, 1, 0] rfl ?_
      exact sX12_text_52 l D aC B   sm_fuel a0 x2 x4 (0 : Int32) h5
    refine sm_bipush (v := (-2 : Int32)) (pc' := 48) dX12_text_46 rfl (by decide) ?_
    exact sm_iret rfl dX12_text_48
  refine sm_iconst (v := (-1 : Int32)) (pc' := 39) dX12_text_38 rfl (by decide) ?_
  exact sm_iret rfl dX12_text_39
set_option maxRecDepth 100000 in
theorem mX12_text (l : Launch) (D : va_G) (aC : Nat → ClassId) (B : Nat) (a0 : Nat) (a1 : Int32) (a2 : Int32) (h : sm_H) : sm_M l D vwCl gAts aC B gTs gNs gOs yX12_text cX12_text 6 (some .int) 2 48 vlI [vR (some a0), vI a1, vI a2] h (fX12_text a0 a1 a2 h) := sm_meth [vR (some a0), vI a1, vI a2] yY_yX12_text gG gN (Nat.le_of_ble_eq_true rfl) rfl (sX12_text_0 l D aC B a0 a1 a2 h)
-- M:TreeAgentModel.identity(II)I
noncomputable def fX12_identity_61  : Nat → Nat → Int32 → Int32 → Int32 → sm_H → Option (Int32 × sm_H)
  | 0 => fun _ _ _ _ _ => none
  | n + 1 => fun a0 a3 a4 a5 h =>
    if a3 ≤ a5 then (
      (sm_R (sm_get h (some a0) 12 21)).bind fun x1 =>
      (sm_sI h x1 0 a4 a3).bind fun h2 =>
      some (a3, h2)
    ) else
    (sm_R (sm_get h (some a0) 12 20)).bind fun x3 =>
    (sm_R (sm_get h (some a0) 12 3)).bind fun x4 =>
    (sm_aJ h x4 1 a5).bind fun x5 =>
    (sm_sJ h x3 1 (((16 : Int32) * a4) + a5) x5).bind fun h6 =>
    sm_let (a5 + (1 : Int32)) fun x7 =>
    (fX12_identity_61 n) a0 a3 a4 x7 h6
set_option maxRecDepth 100000 in
set_option maxHeartbeats 4000000 in
theorem sX12_identity_61 (l : Launch) (D : va_G) (aC : Nat → ClassId) (B : Nat)   (n : Nat) : ∀ (a0 : Nat) (a3 : Int32) (a4 : Int32) (a5 : Int32) (h : sm_H), zS l D aC B cX12_identity 6 RX12 2 48 (some .int) "identity" vlI (fX12_identity_61 n a0 a3 a4 a5 h) 61 [(0, vR (some a0)), (3, vI a3), (4, vI a4), (5, vI a5)] [] h := by
  induction n with
  | zero => intro a0 a3 a4 a5 h; exact sm_none
  | succ n ih =>
    intro a0 a3 a4 a5 h
    show zS l D aC B cX12_identity 6 RX12 2 48 (some .int) "identity" vlI (fX12_identity_61 (n + 1) a0 a3 a4 a5 h) 61 [(0, vR (some a0)), (3, vI a3), (4, vI a4), (5, vI a5)] [] h
    unfold fX12_identity_61
    refine sm_iload (i := 5) (j := 3) (pc' := 63) dX12_identity_61 rfl rfl ?_
    refine sm_iload_n (i := 3) (j := 1) (pc' := 64) dX12_identity_63 rfl rfl rfl ?_
    refine sm_icmp_ge (tgt := 93) (pc' := 67) dX12_identity_64 (by decide) rfl ?_ ?_
    · refine sm_aload_n (i := 0) (j := 0) (pc' := 94) dX12_identity_93 rfl rfl rfl ?_
      refine sm_getR (k := 21) (pc' := 97) kX12 (by decide) mw673 dX12_identity_94 rfl (fun x1 => ?_)
      refine sm_iload (i := 4) (j := 2) (pc' := 99) dX12_identity_97 rfl rfl ?_
      refine sm_iload_n (i := 3) (j := 1) (pc' := 100) dX12_identity_99 rfl rfl rfl ?_
      refine sm_iast (t := 0) (pc' := 101) rfl dX12_identity_100 rfl (fun h2 => ?_)
      refine sm_iload_n (i := 3) (j := 1) (pc' := 102) dX12_identity_101 rfl rfl rfl ?_
      exact sm_iret rfl dX12_identity_102
    refine sm_aload_n (i := 0) (j := 0) (pc' := 68) dX12_identity_67 rfl rfl rfl ?_
    refine sm_getR (k := 20) (pc' := 71) kX12 (by decide) mw672 dX12_identity_68 rfl (fun x3 => ?_)
    refine sm_bipush (v := (16 : Int32)) (pc' := 73) dX12_identity_71 rfl (by decide) ?_
    refine sm_iload (i := 4) (j := 2) (pc' := 75) dX12_identity_73 rfl rfl ?_
    refine sm_imul (pc' := 76) dX12_identity_75 rfl ?_
    refine sm_iload (i := 5) (j := 3) (pc' := 78) dX12_identity_76 rfl rfl ?_
    refine sm_iadd (pc' := 79) dX12_identity_78 rfl ?_
    refine sm_aload_n (i := 0) (j := 0) (pc' := 80) dX12_identity_79 rfl rfl rfl ?_
    refine sm_getR (k := 3) (pc' := 83) kX12 (by decide) mw658 dX12_identity_80 rfl (fun x4 => ?_)
    refine sm_iload (i := 5) (j := 3) (pc' := 85) dX12_identity_83 rfl rfl ?_
    refine sm_lald (t := 1) (pc' := 86) rfl dX12_identity_85 rfl (fun x5 => ?_)
    refine sm_last (t := 1) (pc' := 87) rfl dX12_identity_86 rfl (fun h6 => ?_)
    refine sm_iincL (i := 5) (j := 3) (x := a5) (d := (1 : Int32)) (fun x7 => [(5, vI x7), (0, vR (some a0)), (3, vI a3), (4, vI a4)]) (pc' := 90) dX12_identity_87 rfl rfl (by decide) (by decide) (fun _ => rfl) (fun x7 => ?_)
    refine sm_goto (pc' := 61) dX12_identity_90 (by decide) ?_
    refine sm_lo (lv' := [(0, vR (some a0)), (3, vI a3), (4, vI a4), (5, vI x7)]) [1, 2, 3, 0] rfl ?_
    exact ih a0 a3 a4 x7 h6
noncomputable def fX12_identity  (a0 : Nat) (a1 : Int32) (a2 : Int32) (h : sm_H) : Option (Int32 × sm_H) :=
  (sm_put h (some a0) 12 0 (sm_v (vI (0 : Int32)))).bind fun h1 =>
  (sm_I (sm_get h1 (some a0) 12 4)).bind fun x2 =>
  (sm_put h1 (some a0) 12 4 (sm_v (vI (0 : Int32)))).bind fun h3 =>
  (sm_obj h3 (some a0) 12).bind fun b10 =>
  sm_cb (fX12_instance b10 a1 a2 h3) fun x4 h5 =>
  if x4 < 0 then (
    some ((-1 : Int32), h5)
  ) else
  (sm_R (sm_get h5 (some a0) 12 11)).bind fun x6 =>
  (sm_aI h5 x6 0 a1).bind fun x7 =>
  if x7 = (6 : Int32) then (
    sm_cb (fX12_in (x2.toInt64) (2 : Int64) (16 : Int64) h5) fun x8 h9 =>
    if x8 = 0 then (
      some ((-2 : Int32), h9)
    ) else
    fX12_identity_61 sm_fuel a0 x2 x4 (0 : Int32) h9
  ) else
  some ((-1 : Int32), h5)
set_option maxRecDepth 100000 in
set_option maxHeartbeats 4000000 in
theorem sX12_identity_0 (l : Launch) (D : va_G) (aC : Nat → ClassId) (B : Nat)   (a0 : Nat) (a1 : Int32) (a2 : Int32) (h : sm_H) : zS l D aC B cX12_identity 6 RX12 2 48 (some .int) "identity" vlI (fX12_identity a0 a1 a2 h) 0 [(0, vR (some a0)), (1, vI a1), (2, vI a2)] [] h := by
  unfold fX12_identity
  refine sm_aload_n (i := 0) (j := 0) (pc' := 1) dX12_identity_0 rfl rfl rfl ?_
  refine sm_iconst (v := (0 : Int32)) (pc' := 2) dX12_identity_1 rfl (by decide) ?_
  refine sm_putI (k := 0) (pc' := 5) kX12 (by decide) mw699 rfl rfl dX12_identity_2 rfl (fun h1 => ?_)
  refine sm_aload_n (i := 0) (j := 0) (pc' := 6) dX12_identity_5 rfl rfl rfl ?_
  refine sm_getI (k := 4) (pc' := 9) kX12 (by decide) mw703 dX12_identity_6 rfl (fun x2 => ?_)
  refine sm_istore_n (i := 3) (lv' := [(3, vI x2), (0, vR (some a0)), (1, vI a1), (2, vI a2)]) (pc' := 10) dX12_identity_9 rfl rfl (by decide) rfl ?_
  refine sm_aload_n (i := 0) (j := 1) (pc' := 11) dX12_identity_10 rfl rfl rfl ?_
  refine sm_iconst (v := (0 : Int32)) (pc' := 12) dX12_identity_11 rfl (by decide) ?_
  refine sm_putI (k := 4) (pc' := 15) kX12 (by decide) mw703 rfl rfl dX12_identity_12 rfl (fun h3 => ?_)
  refine sm_aload_n (i := 0) (j := 1) (pc' := 16) dX12_identity_15 rfl rfl rfl ?_
  refine sm_iload_n (i := 1) (j := 2) (pc' := 17) dX12_identity_16 rfl rfl rfl ?_
  refine sm_iload_n (i := 2) (j := 3) (pc' := 18) dX12_identity_17 rfl rfl rfl ?_
  refine sm_cVI (pc' := 21) (ci := 12) (st := []) (F := fun b => fX12_instance b a1 a2 h3) [vI a1, vI a2] yY_yX12_instance rfl mw740 mw743 mw744 (fun b => mX12_instance l D aC B b a1 a2 h3) rfl (by decide) (by decide) (by exact Nat.le_of_ble_eq_true rfl) rfl dX12_identity_18 rfl (fun x4 h5 => ?_)
  refine sm_istore (i := 4) (lv' := [(4, vI x4), (3, vI x2), (0, vR (some a0)), (1, vI a1), (2, vI a2)]) (pc' := 23) dX12_identity_21 rfl (by decide) rfl ?_
  refine sm_iload (i := 4) (j := 0) (pc' := 25) dX12_identity_23 rfl rfl ?_
  refine sm_if_lt (tgt := 39) (pc' := 28) dX12_identity_25 (by decide) rfl ?_ ?_
  · refine sm_iconst (v := (-1 : Int32)) (pc' := 40) dX12_identity_39 rfl (by decide) ?_
    exact sm_iret rfl dX12_identity_40
  refine sm_aload_n (i := 0) (j := 2) (pc' := 29) dX12_identity_28 rfl rfl rfl ?_
  refine sm_getR (k := 11) (pc' := 32) kX12 (by decide) mw663 dX12_identity_29 rfl (fun x6 => ?_)
  refine sm_iload_n (i := 1) (j := 3) (pc' := 33) dX12_identity_32 rfl rfl rfl ?_
  refine sm_iald (t := 0) (pc' := 34) rfl dX12_identity_33 rfl (fun x7 => ?_)
  refine sm_bipush (v := (6 : Int32)) (pc' := 36) dX12_identity_34 rfl (by decide) ?_
  refine sm_icmp_eq (tgt := 41) (pc' := 39) dX12_identity_36 (by decide) rfl ?_ ?_
  · refine sm_iload_n (i := 3) (j := 1) (pc' := 42) dX12_identity_41 rfl rfl rfl ?_
    refine sm_i2l (pc' := 43) dX12_identity_42 rfl ?_
    refine sm_ldc2 (v := (2 : Int64)) (pc' := 46) dX12_identity_43 rfl mw707 ?_
    refine sm_ldc2 (v := (16 : Int64)) (pc' := 49) dX12_identity_46 rfl mw745 ?_
    refine sm_cSI (pc' := 52) (st := []) [vJ (x2.toInt64), vJ (2 : Int64), vJ (16 : Int64)] yY_yX12_in mw701 mw702 (mX12_in l D aC B (x2.toInt64) (2 : Int64) (16 : Int64) h5) rfl (by decide) (by decide) (by exact Nat.le_of_ble_eq_true rfl) rfl dX12_identity_49 rfl (fun x8 h9 => ?_)
    refine sm_if_ne (tgt := 58) (pc' := 55) dX12_identity_52 (by decide) rfl ?_ ?_
    · refine sm_iconst (v := (0 : Int32)) (pc' := 59) dX12_identity_58 rfl (by decide) ?_
      refine sm_istore (i := 5) (lv' := [(5, vI (0 : Int32)), (4, vI x4), (3, vI x2), (0, vR (some a0)), (1, vI a1), (2, vI a2)]) (pc' := 61) dX12_identity_59 rfl (by decide) rfl ?_
      refine sm_lo (lv' := [(0, vR (some a0)), (3, vI x2), (4, vI x4), (5, vI (0 : Int32))]) [3, 2, 1, 0] rfl ?_
      exact sX12_identity_61 l D aC B   sm_fuel a0 x2 x4 (0 : Int32) h9
    refine sm_bipush (v := (-2 : Int32)) (pc' := 57) dX12_identity_55 rfl (by decide) ?_
    exact sm_iret rfl dX12_identity_57
  refine sm_iconst (v := (-1 : Int32)) (pc' := 40) dX12_identity_39 rfl (by decide) ?_
  exact sm_iret rfl dX12_identity_40
set_option maxRecDepth 100000 in
theorem mX12_identity (l : Launch) (D : va_G) (aC : Nat → ClassId) (B : Nat) (a0 : Nat) (a1 : Int32) (a2 : Int32) (h : sm_H) : sm_M l D vwCl gAts aC B gTs gNs gOs yX12_identity cX12_identity 6 (some .int) 2 48 vlI [vR (some a0), vI a1, vI a2] h (fX12_identity a0 a1 a2 h) := sm_meth [vR (some a0), vI a1, vI a2] yY_yX12_identity gG gN (Nat.le_of_ble_eq_true rfl) rfl (sX12_identity_0 l D aC B a0 a1 a2 h)
-- M:TreeAgentModel.communityOf([BII)I
noncomputable def fX12_communityOf_33 (K3 : Nat → Option Nat → Int32 → Int32 → Int32 → sm_H → Option (Int32 × sm_H)) : Nat → Nat → Option Nat → Int32 → Int32 → Int32 → Int32 → Int32 → sm_H → Option (Int32 × sm_H)
  | 0 => fun _ _ _ _ _ _ _ _ => none
  | n + 1 => fun a0 a1 a2 a3 a4 a5 a6 h =>
    if a3 ≤ a6 then (
      if a5 = 0 then (
        sm_let (a4 + (1 : Int32)) fun x1 =>
        K3 a0 a1 a2 a3 x1 h
      ) else
      some (a4, h)
    ) else
    if a5 = 0 then (
      if a5 = 0 then (
        sm_let (a4 + (1 : Int32)) fun x2 =>
        K3 a0 a1 a2 a3 x2 h
      ) else
      some (a4, h)
    ) else
    (sm_R (sm_get h (some a0) 12 29)).bind fun x3 =>
    (sm_aI h x3 3 (((40 : Int32) * a4) + a6)).bind fun x4 =>
    (sm_aI h a1 3 (a2 + a6)).bind fun x5 =>
    if x4 = x5 then (
      sm_let (a6 + (1 : Int32)) fun x7 =>
      (fX12_communityOf_33 K3 n) a0 a1 a2 a3 a4 (1 : Int32) x7 h
    ) else
    sm_let (a6 + (1 : Int32)) fun x6 =>
    (fX12_communityOf_33 K3 n) a0 a1 a2 a3 a4 (0 : Int32) x6 h
set_option maxRecDepth 100000 in
set_option maxHeartbeats 4000000 in
theorem sX12_communityOf_33 (l : Launch) (D : va_G) (aC : Nat → ClassId) (B : Nat) (K3 : Nat → Option Nat → Int32 → Int32 → Int32 → sm_H → Option (Int32 × sm_H)) (hK3 : ∀ (a0 : Nat) (a1 : Option Nat) (a2 : Int32) (a3 : Int32) (a4 : Int32) (h : sm_H), zS l D aC B cX12_communityOf 7 RX12 0 0 (some .int) "communityOf" vlI (K3 a0 a1 a2 a3 a4 h) 3 [(0, vR (some a0)), (1, vR a1), (2, vI a2), (3, vI a3), (4, vI a4)] [] h) (n : Nat) : ∀ (a0 : Nat) (a1 : Option Nat) (a2 : Int32) (a3 : Int32) (a4 : Int32) (a5 : Int32) (a6 : Int32) (h : sm_H), zS l D aC B cX12_communityOf 7 RX12 0 0 (some .int) "communityOf" vlI (fX12_communityOf_33 K3 n a0 a1 a2 a3 a4 a5 a6 h) 33 [(0, vR (some a0)), (1, vR a1), (2, vI a2), (3, vI a3), (4, vI a4), (5, vI a5), (6, vI a6)] [] h := by
  induction n with
  | zero => intro a0 a1 a2 a3 a4 a5 a6 h; exact sm_none
  | succ n ih =>
    intro a0 a1 a2 a3 a4 a5 a6 h
    show zS l D aC B cX12_communityOf 7 RX12 0 0 (some .int) "communityOf" vlI (fX12_communityOf_33 K3 (n + 1) a0 a1 a2 a3 a4 a5 a6 h) 33 [(0, vR (some a0)), (1, vR a1), (2, vI a2), (3, vI a3), (4, vI a4), (5, vI a5), (6, vI a6)] [] h
    unfold fX12_communityOf_33
    refine sm_iload (i := 6) (j := 6) (pc' := 35) dX12_communityOf_33 rfl rfl ?_
    refine sm_iload_n (i := 3) (j := 3) (pc' := 36) dX12_communityOf_35 rfl rfl rfl ?_
    refine sm_icmp_ge (tgt := 79) (pc' := 39) dX12_communityOf_36 (by decide) rfl ?_ ?_
    · refine sm_iload (i := 5) (j := 5) (pc' := 81) dX12_communityOf_79 rfl rfl ?_
      refine sm_if_eq (tgt := 87) (pc' := 84) dX12_communityOf_81 (by decide) rfl ?_ ?_
      · refine sm_iincL (i := 4) (j := 4) (x := a4) (d := (1 : Int32)) (fun x1 => [(4, vI x1), (0, vR (some a0)), (1, vR a1), (2, vI a2), (3, vI a3), (5, vI a5), (6, vI a6)]) (pc' := 90) dX12_communityOf_87 rfl rfl (by decide) (by decide) (fun _ => rfl) (fun x1 => ?_)
        refine sm_goto (pc' := 3) dX12_communityOf_90 (by decide) ?_
        refine sm_lo (lv' := [(0, vR (some a0)), (1, vR a1), (2, vI a2), (3, vI a3), (4, vI x1)]) [1, 2, 3, 4, 0] rfl ?_
        exact hK3 a0 a1 a2 a3 x1 h
      refine sm_iload (i := 4) (j := 4) (pc' := 86) dX12_communityOf_84 rfl rfl ?_
      exact sm_iret rfl dX12_communityOf_86
    refine sm_iload (i := 5) (j := 5) (pc' := 41) dX12_communityOf_39 rfl rfl ?_
    refine sm_if_eq (tgt := 79) (pc' := 44) dX12_communityOf_41 (by decide) rfl ?_ ?_
    · refine sm_iload (i := 5) (j := 5) (pc' := 81) dX12_communityOf_79 rfl rfl ?_
      refine sm_if_eq (tgt := 87) (pc' := 84) dX12_communityOf_81 (by decide) rfl ?_ ?_
      · refine sm_iincL (i := 4) (j := 4) (x := a4) (d := (1 : Int32)) (fun x2 => [(4, vI x2), (0, vR (some a0)), (1, vR a1), (2, vI a2), (3, vI a3), (5, vI a5), (6, vI a6)]) (pc' := 90) dX12_communityOf_87 rfl rfl (by decide) (by decide) (fun _ => rfl) (fun x2 => ?_)
        refine sm_goto (pc' := 3) dX12_communityOf_90 (by decide) ?_
        refine sm_lo (lv' := [(0, vR (some a0)), (1, vR a1), (2, vI a2), (3, vI a3), (4, vI x2)]) [1, 2, 3, 4, 0] rfl ?_
        exact hK3 a0 a1 a2 a3 x2 h
      refine sm_iload (i := 4) (j := 4) (pc' := 86) dX12_communityOf_84 rfl rfl ?_
      exact sm_iret rfl dX12_communityOf_86
    refine sm_aload_n (i := 0) (j := 0) (pc' := 45) dX12_communityOf_44 rfl rfl rfl ?_
    refine sm_getR (k := 29) (pc' := 48) kX12 (by decide) mw679 dX12_communityOf_45 rfl (fun x3 => ?_)
    refine sm_bipush (v := (40 : Int32)) (pc' := 50) dX12_communityOf_48 rfl (by decide) ?_
    refine sm_iload (i := 4) (j := 4) (pc' := 52) dX12_communityOf_50 rfl rfl ?_
    refine sm_imul (pc' := 53) dX12_communityOf_52 rfl ?_
    refine sm_iload (i := 6) (j := 6) (pc' := 55) dX12_communityOf_53 rfl rfl ?_
    refine sm_iadd (pc' := 56) dX12_communityOf_55 rfl ?_
    refine sm_bald (t := 3) (pc' := 57) rfl dX12_communityOf_56 rfl (fun x4 => ?_)
    refine sm_aload_n (i := 1) (j := 1) (pc' := 58) dX12_communityOf_57 rfl rfl rfl ?_
    refine sm_iload_n (i := 2) (j := 2) (pc' := 59) dX12_communityOf_58 rfl rfl rfl ?_
    refine sm_iload (i := 6) (j := 6) (pc' := 61) dX12_communityOf_59 rfl rfl ?_
    refine sm_iadd (pc' := 62) dX12_communityOf_61 rfl ?_
    refine sm_bald (t := 3) (pc' := 63) rfl dX12_communityOf_62 rfl (fun x5 => ?_)
    refine sm_icmp_ne (tgt := 70) (pc' := 66) dX12_communityOf_63 (by decide) rfl ?_ ?_
    · refine sm_iconst (v := (0 : Int32)) (pc' := 71) dX12_communityOf_70 rfl (by decide) ?_
      refine sm_istore (i := 5) (lv' := [(5, vI (0 : Int32)), (0, vR (some a0)), (1, vR a1), (2, vI a2), (3, vI a3), (4, vI a4), (6, vI a6)]) (pc' := 73) dX12_communityOf_71 rfl (by decide) rfl ?_
      refine sm_iincL (i := 6) (j := 6) (x := a6) (d := (1 : Int32)) (fun x6 => [(6, vI x6), (5, vI (0 : Int32)), (0, vR (some a0)), (1, vR a1), (2, vI a2), (3, vI a3), (4, vI a4)]) (pc' := 76) dX12_communityOf_73 rfl rfl (by decide) (by decide) (fun _ => rfl) (fun x6 => ?_)
      refine sm_goto (pc' := 33) dX12_communityOf_76 (by decide) ?_
      refine sm_lo (lv' := [(0, vR (some a0)), (1, vR a1), (2, vI a2), (3, vI a3), (4, vI a4), (5, vI (0 : Int32)), (6, vI x6)]) [2, 3, 4, 5, 6, 1, 0] rfl ?_
      exact ih a0 a1 a2 a3 a4 (0 : Int32) x6 h
    refine sm_iconst (v := (1 : Int32)) (pc' := 67) dX12_communityOf_66 rfl (by decide) ?_
    refine sm_goto (pc' := 71) dX12_communityOf_67 (by decide) ?_
    refine sm_istore (i := 5) (lv' := [(5, vI (1 : Int32)), (0, vR (some a0)), (1, vR a1), (2, vI a2), (3, vI a3), (4, vI a4), (6, vI a6)]) (pc' := 73) dX12_communityOf_71 rfl (by decide) rfl ?_
    refine sm_iincL (i := 6) (j := 6) (x := a6) (d := (1 : Int32)) (fun x7 => [(6, vI x7), (5, vI (1 : Int32)), (0, vR (some a0)), (1, vR a1), (2, vI a2), (3, vI a3), (4, vI a4)]) (pc' := 76) dX12_communityOf_73 rfl rfl (by decide) (by decide) (fun _ => rfl) (fun x7 => ?_)
    refine sm_goto (pc' := 33) dX12_communityOf_76 (by decide) ?_
    refine sm_lo (lv' := [(0, vR (some a0)), (1, vR a1), (2, vI a2), (3, vI a3), (4, vI a4), (5, vI (1 : Int32)), (6, vI x7)]) [2, 3, 4, 5, 6, 1, 0] rfl ?_
    exact ih a0 a1 a2 a3 a4 (1 : Int32) x7 h
noncomputable def fX12_communityOf_3  : Nat → Nat → Option Nat → Int32 → Int32 → Int32 → sm_H → Option (Int32 × sm_H)
  | 0 => fun _ _ _ _ _ _ => none
  | n + 1 => fun a0 a1 a2 a3 a4 h =>
    (sm_I (sm_get h (some a0) 12 28)).bind fun x1 =>
    if x1 ≤ a4 then (
      some ((-1 : Int32), h)
    ) else
    (sm_R (sm_get h (some a0) 12 30)).bind fun x2 =>
    (sm_aI h x2 0 a4).bind fun x3 =>
    if x3 = a3 then (
      fX12_communityOf_33 (fX12_communityOf_3 n) sm_fuel a0 a1 a2 a3 a4 (1 : Int32) (0 : Int32) h
    ) else
    fX12_communityOf_33 (fX12_communityOf_3 n) sm_fuel a0 a1 a2 a3 a4 (0 : Int32) (0 : Int32) h
set_option maxRecDepth 100000 in
set_option maxHeartbeats 4000000 in
theorem sX12_communityOf_3 (l : Launch) (D : va_G) (aC : Nat → ClassId) (B : Nat)   (n : Nat) : ∀ (a0 : Nat) (a1 : Option Nat) (a2 : Int32) (a3 : Int32) (a4 : Int32) (h : sm_H), zS l D aC B cX12_communityOf 7 RX12 0 0 (some .int) "communityOf" vlI (fX12_communityOf_3 n a0 a1 a2 a3 a4 h) 3 [(0, vR (some a0)), (1, vR a1), (2, vI a2), (3, vI a3), (4, vI a4)] [] h := by
  induction n with
  | zero => intro a0 a1 a2 a3 a4 h; exact sm_none
  | succ n ih =>
    intro a0 a1 a2 a3 a4 h
    show zS l D aC B cX12_communityOf 7 RX12 0 0 (some .int) "communityOf" vlI (fX12_communityOf_3 (n + 1) a0 a1 a2 a3 a4 h) 3 [(0, vR (some a0)), (1, vR a1), (2, vI a2), (3, vI a3), (4, vI a4)] [] h
    unfold fX12_communityOf_3
    refine sm_iload (i := 4) (j := 4) (pc' := 5) dX12_communityOf_3 rfl rfl ?_
    refine sm_aload_n (i := 0) (j := 0) (pc' := 6) dX12_communityOf_5 rfl rfl rfl ?_
    refine sm_getI (k := 28) (pc' := 9) kX12 (by decide) mw746 dX12_communityOf_6 rfl (fun x1 => ?_)
    refine sm_icmp_ge (tgt := 93) (pc' := 12) dX12_communityOf_9 (by decide) rfl ?_ ?_
    · refine sm_iconst (v := (-1 : Int32)) (pc' := 94) dX12_communityOf_93 rfl (by decide) ?_
      exact sm_iret rfl dX12_communityOf_94
    refine sm_aload_n (i := 0) (j := 0) (pc' := 13) dX12_communityOf_12 rfl rfl rfl ?_
    refine sm_getR (k := 30) (pc' := 16) kX12 (by decide) mw680 dX12_communityOf_13 rfl (fun x2 => ?_)
    refine sm_iload (i := 4) (j := 4) (pc' := 18) dX12_communityOf_16 rfl rfl ?_
    refine sm_iald (t := 0) (pc' := 19) rfl dX12_communityOf_18 rfl (fun x3 => ?_)
    refine sm_iload_n (i := 3) (j := 3) (pc' := 20) dX12_communityOf_19 rfl rfl rfl ?_
    refine sm_icmp_ne (tgt := 27) (pc' := 23) dX12_communityOf_20 (by decide) rfl ?_ ?_
    · refine sm_iconst (v := (0 : Int32)) (pc' := 28) dX12_communityOf_27 rfl (by decide) ?_
      refine sm_istore (i := 5) (lv' := [(5, vI (0 : Int32)), (0, vR (some a0)), (1, vR a1), (2, vI a2), (3, vI a3), (4, vI a4)]) (pc' := 30) dX12_communityOf_28 rfl (by decide) rfl ?_
      refine sm_iconst (v := (0 : Int32)) (pc' := 31) dX12_communityOf_30 rfl (by decide) ?_
      refine sm_istore (i := 6) (lv' := [(6, vI (0 : Int32)), (5, vI (0 : Int32)), (0, vR (some a0)), (1, vR a1), (2, vI a2), (3, vI a3), (4, vI a4)]) (pc' := 33) dX12_communityOf_31 rfl (by decide) rfl ?_
      refine sm_lo (lv' := [(0, vR (some a0)), (1, vR a1), (2, vI a2), (3, vI a3), (4, vI a4), (5, vI (0 : Int32)), (6, vI (0 : Int32))]) [2, 3, 4, 5, 6, 1, 0] rfl ?_
      exact sX12_communityOf_33 l D aC B  (fX12_communityOf_3 n) ih sm_fuel a0 a1 a2 a3 a4 (0 : Int32) (0 : Int32) h
    refine sm_iconst (v := (1 : Int32)) (pc' := 24) dX12_communityOf_23 rfl (by decide) ?_
    refine sm_goto (pc' := 28) dX12_communityOf_24 (by decide) ?_
    refine sm_istore (i := 5) (lv' := [(5, vI (1 : Int32)), (0, vR (some a0)), (1, vR a1), (2, vI a2), (3, vI a3), (4, vI a4)]) (pc' := 30) dX12_communityOf_28 rfl (by decide) rfl ?_
    refine sm_iconst (v := (0 : Int32)) (pc' := 31) dX12_communityOf_30 rfl (by decide) ?_
    refine sm_istore (i := 6) (lv' := [(6, vI (0 : Int32)), (5, vI (1 : Int32)), (0, vR (some a0)), (1, vR a1), (2, vI a2), (3, vI a3), (4, vI a4)]) (pc' := 33) dX12_communityOf_31 rfl (by decide) rfl ?_
    refine sm_lo (lv' := [(0, vR (some a0)), (1, vR a1), (2, vI a2), (3, vI a3), (4, vI a4), (5, vI (1 : Int32)), (6, vI (0 : Int32))]) [2, 3, 4, 5, 6, 1, 0] rfl ?_
    exact sX12_communityOf_33 l D aC B  (fX12_communityOf_3 n) ih sm_fuel a0 a1 a2 a3 a4 (1 : Int32) (0 : Int32) h
noncomputable def fX12_communityOf  (a0 : Nat) (a1 : Option Nat) (a2 : Int32) (a3 : Int32) (h : sm_H) : Option (Int32 × sm_H) :=
  fX12_communityOf_3 sm_fuel a0 a1 a2 a3 (0 : Int32) h
set_option maxRecDepth 100000 in
set_option maxHeartbeats 4000000 in
theorem sX12_communityOf_0 (l : Launch) (D : va_G) (aC : Nat → ClassId) (B : Nat)   (a0 : Nat) (a1 : Option Nat) (a2 : Int32) (a3 : Int32) (h : sm_H) : zS l D aC B cX12_communityOf 7 RX12 0 0 (some .int) "communityOf" vlI (fX12_communityOf a0 a1 a2 a3 h) 0 [(0, vR (some a0)), (1, vR a1), (2, vI a2), (3, vI a3)] [] h := by
  unfold fX12_communityOf
  refine sm_iconst (v := (0 : Int32)) (pc' := 1) dX12_communityOf_0 rfl (by decide) ?_
  refine sm_istore (i := 4) (lv' := [(4, vI (0 : Int32)), (0, vR (some a0)), (1, vR a1), (2, vI a2), (3, vI a3)]) (pc' := 3) dX12_communityOf_1 rfl (by decide) rfl ?_
  refine sm_lo (lv' := [(0, vR (some a0)), (1, vR a1), (2, vI a2), (3, vI a3), (4, vI (0 : Int32))]) [1, 2, 3, 4, 0] rfl ?_
  exact sX12_communityOf_3 l D aC B   sm_fuel a0 a1 a2 a3 (0 : Int32) h
set_option maxRecDepth 100000 in
theorem mX12_communityOf (l : Launch) (D : va_G) (aC : Nat → ClassId) (B : Nat) (a0 : Nat) (a1 : Option Nat) (a2 : Int32) (a3 : Int32) (h : sm_H) : sm_M l D vwCl gAts aC B gTs gNs gOs yX12_communityOf cX12_communityOf 7 (some .int) 0 0 vlI [vR (some a0), vR a1, vI a2, vI a3] h (fX12_communityOf a0 a1 a2 a3 h) := sm_meth [vR (some a0), vR a1, vI a2, vI a3] yY_yX12_communityOf gG gN (Nat.le_of_ble_eq_true rfl) rfl (sX12_communityOf_0 l D aC B a0 a1 a2 a3 h)
-- M:TreeAgentModel.community(Z)I
noncomputable def fX12_community_54  : Nat → Nat → Int32 → Int32 → Int32 → sm_H → Option (Int32 × sm_H)
  | 0 => fun _ _ _ _ _ => none
  | n + 1 => fun a0 a1 a2 a3 h =>
    if a2 ≤ a3 then (
      (sm_R (sm_get h (some a0) 12 30)).bind fun x1 =>
      (sm_I (sm_get h (some a0) 12 28)).bind fun x2 =>
      (sm_sI h x1 0 x2 a2).bind fun h3 =>
      (sm_R (sm_get h3 (some a0) 12 31)).bind fun x4 =>
      (sm_I (sm_get h3 (some a0) 12 28)).bind fun x5 =>
      (sm_sI h3 x4 2 x5 (vp_nar .boolean a1)).bind fun h6 =>
      (sm_I (sm_get h6 (some a0) 12 28)).bind fun x7 =>
      (sm_put h6 (some a0) 12 28 (sm_v (vI (x7 + (1 : Int32))))).bind fun h8 =>
      (sm_I (sm_get h8 (some a0) 12 28)).bind fun x9 =>
      some (x9 - (1 : Int32), h8)
    ) else
    (sm_R (sm_get h (some a0) 12 29)).bind fun x10 =>
    (sm_I (sm_get h (some a0) 12 28)).bind fun x11 =>
    (sm_R (sm_get h (some a0) 12 1)).bind fun x12 =>
    (sm_aI h x12 3 a3).bind fun x13 =>
    (sm_sI h x10 3 (((40 : Int32) * x11) + a3) (vp_nar .byte x13)).bind fun h14 =>
    sm_let (a3 + (1 : Int32)) fun x15 =>
    (fX12_community_54 n) a0 a1 a2 x15 h14
set_option maxRecDepth 100000 in
set_option maxHeartbeats 4000000 in
theorem sX12_community_54 (l : Launch) (D : va_G) (aC : Nat → ClassId) (B : Nat)   (n : Nat) : ∀ (a0 : Nat) (a1 : Int32) (a2 : Int32) (a3 : Int32) (h : sm_H), zS l D aC B cX12_community 4 RX12 1 26 (some .int) "community" vlI (fX12_community_54 n a0 a1 a2 a3 h) 54 [(0, vR (some a0)), (1, vI a1), (2, vI a2), (3, vI a3)] [] h := by
  induction n with
  | zero => intro a0 a1 a2 a3 h; exact sm_none
  | succ n ih =>
    intro a0 a1 a2 a3 h
    show zS l D aC B cX12_community 4 RX12 1 26 (some .int) "community" vlI (fX12_community_54 (n + 1) a0 a1 a2 a3 h) 54 [(0, vR (some a0)), (1, vI a1), (2, vI a2), (3, vI a3)] [] h
    unfold fX12_community_54
    refine sm_iload_n (i := 3) (j := 3) (pc' := 55) dX12_community_54 rfl rfl rfl ?_
    refine sm_iload_n (i := 2) (j := 2) (pc' := 56) dX12_community_55 rfl rfl rfl ?_
    refine sm_icmp_ge (tgt := 85) (pc' := 59) dX12_community_56 (by decide) rfl ?_ ?_
    · refine sm_aload_n (i := 0) (j := 0) (pc' := 86) dX12_community_85 rfl rfl rfl ?_
      refine sm_getR (k := 30) (pc' := 89) kX12 (by decide) mw680 dX12_community_86 rfl (fun x1 => ?_)
      refine sm_aload_n (i := 0) (j := 0) (pc' := 90) dX12_community_89 rfl rfl rfl ?_
      refine sm_getI (k := 28) (pc' := 93) kX12 (by decide) mw746 dX12_community_90 rfl (fun x2 => ?_)
      refine sm_iload_n (i := 2) (j := 2) (pc' := 94) dX12_community_93 rfl rfl rfl ?_
      refine sm_iast (t := 0) (pc' := 95) rfl dX12_community_94 rfl (fun h3 => ?_)
      refine sm_aload_n (i := 0) (j := 0) (pc' := 96) dX12_community_95 rfl rfl rfl ?_
      refine sm_getR (k := 31) (pc' := 99) kX12 (by decide) mw681 dX12_community_96 rfl (fun x4 => ?_)
      refine sm_aload_n (i := 0) (j := 0) (pc' := 100) dX12_community_99 rfl rfl rfl ?_
      refine sm_getI (k := 28) (pc' := 103) kX12 (by decide) mw746 dX12_community_100 rfl (fun x5 => ?_)
      refine sm_iload_n (i := 1) (j := 1) (pc' := 104) dX12_community_103 rfl rfl rfl ?_
      refine sm_zast (t := 2) (pc' := 105) rfl dX12_community_104 rfl (fun h6 => ?_)
      refine sm_aload_n (i := 0) (j := 0) (pc' := 106) dX12_community_105 rfl rfl rfl ?_
      refine sm_dup (pc' := 107) rfl dX12_community_106 rfl ?_
      refine sm_getI (k := 28) (pc' := 110) kX12 (by decide) mw746 dX12_community_107 rfl (fun x7 => ?_)
      refine sm_iconst (v := (1 : Int32)) (pc' := 111) dX12_community_110 rfl (by decide) ?_
      refine sm_iadd (pc' := 112) dX12_community_111 rfl ?_
      refine sm_putI (k := 28) (pc' := 115) kX12 (by decide) mw746 rfl rfl dX12_community_112 rfl (fun h8 => ?_)
      refine sm_aload_n (i := 0) (j := 0) (pc' := 116) dX12_community_115 rfl rfl rfl ?_
      refine sm_getI (k := 28) (pc' := 119) kX12 (by decide) mw746 dX12_community_116 rfl (fun x9 => ?_)
      refine sm_iconst (v := (1 : Int32)) (pc' := 120) dX12_community_119 rfl (by decide) ?_
      refine sm_isub (pc' := 121) dX12_community_120 rfl ?_
      exact sm_iret rfl dX12_community_121
    refine sm_aload_n (i := 0) (j := 0) (pc' := 60) dX12_community_59 rfl rfl rfl ?_
    refine sm_getR (k := 29) (pc' := 63) kX12 (by decide) mw679 dX12_community_60 rfl (fun x10 => ?_)
    refine sm_bipush (v := (40 : Int32)) (pc' := 65) dX12_community_63 rfl (by decide) ?_
    refine sm_aload_n (i := 0) (j := 0) (pc' := 66) dX12_community_65 rfl rfl rfl ?_
    refine sm_getI (k := 28) (pc' := 69) kX12 (by decide) mw746 dX12_community_66 rfl (fun x11 => ?_)
    refine sm_imul (pc' := 70) dX12_community_69 rfl ?_
    refine sm_iload_n (i := 3) (j := 3) (pc' := 71) dX12_community_70 rfl rfl rfl ?_
    refine sm_iadd (pc' := 72) dX12_community_71 rfl ?_
    refine sm_aload_n (i := 0) (j := 0) (pc' := 73) dX12_community_72 rfl rfl rfl ?_
    refine sm_getR (k := 1) (pc' := 76) kX12 (by decide) mw657 dX12_community_73 rfl (fun x12 => ?_)
    refine sm_iload_n (i := 3) (j := 3) (pc' := 77) dX12_community_76 rfl rfl rfl ?_
    refine sm_bald (t := 3) (pc' := 78) rfl dX12_community_77 rfl (fun x13 => ?_)
    refine sm_bast (t := 3) (pc' := 79) rfl dX12_community_78 rfl (fun h14 => ?_)
    refine sm_iincL (i := 3) (j := 3) (x := a3) (d := (1 : Int32)) (fun x15 => [(3, vI x15), (0, vR (some a0)), (1, vI a1), (2, vI a2)]) (pc' := 82) dX12_community_79 rfl rfl (by decide) (by decide) (fun _ => rfl) (fun x15 => ?_)
    refine sm_goto (pc' := 54) dX12_community_82 (by decide) ?_
    refine sm_lo (lv' := [(0, vR (some a0)), (1, vI a1), (2, vI a2), (3, vI x15)]) [1, 2, 3, 0] rfl ?_
    exact ih a0 a1 a2 x15 h14
noncomputable def fX12_community  (a0 : Nat) (a1 : Int32) (h : sm_H) : Option (Int32 × sm_H) :=
  (sm_put h (some a0) 12 0 (sm_v (vI (0 : Int32)))).bind fun h1 =>
  (sm_I (sm_get h1 (some a0) 12 2)).bind fun x2 =>
  (sm_put h1 (some a0) 12 2 (sm_v (vI (0 : Int32)))).bind fun h3 =>
  if x2 ≤ (40 : Int32) then (
    (sm_R (sm_get h3 (some a0) 12 1)).bind fun x4 =>
    (sm_obj h3 (some a0) 12).bind fun b8 =>
    sm_cb (fX12_communityOf b8 x4 (0 : Int32) x2 h3) fun x5 h6 =>
    if x5 < 0 then (
      (sm_I (sm_get h6 (some a0) 12 28)).bind fun x7 =>
      if x7 = (8 : Int32) then (
        some ((-4 : Int32), h6)
      ) else
      fX12_community_54 sm_fuel a0 a1 x2 (0 : Int32) h6
    ) else
    some ((-3 : Int32), h6)
  ) else
  some ((-2 : Int32), h3)
set_option maxRecDepth 100000 in
set_option maxHeartbeats 4000000 in
theorem sX12_community_0 (l : Launch) (D : va_G) (aC : Nat → ClassId) (B : Nat)   (a0 : Nat) (a1 : Int32) (h : sm_H) : zS l D aC B cX12_community 4 RX12 1 26 (some .int) "community" vlI (fX12_community a0 a1 h) 0 [(0, vR (some a0)), (1, vI a1)] [] h := by
  unfold fX12_community
  refine sm_aload_n (i := 0) (j := 0) (pc' := 1) dX12_community_0 rfl rfl rfl ?_
  refine sm_iconst (v := (0 : Int32)) (pc' := 2) dX12_community_1 rfl (by decide) ?_
  refine sm_putI (k := 0) (pc' := 5) kX12 (by decide) mw699 rfl rfl dX12_community_2 rfl (fun h1 => ?_)
  refine sm_aload_n (i := 0) (j := 0) (pc' := 6) dX12_community_5 rfl rfl rfl ?_
  refine sm_getI (k := 2) (pc' := 9) kX12 (by decide) mw698 dX12_community_6 rfl (fun x2 => ?_)
  refine sm_istore_n (i := 2) (lv' := [(2, vI x2), (0, vR (some a0)), (1, vI a1)]) (pc' := 10) dX12_community_9 rfl rfl (by decide) rfl ?_
  refine sm_aload_n (i := 0) (j := 1) (pc' := 11) dX12_community_10 rfl rfl rfl ?_
  refine sm_iconst (v := (0 : Int32)) (pc' := 12) dX12_community_11 rfl (by decide) ?_
  refine sm_putI (k := 2) (pc' := 15) kX12 (by decide) mw698 rfl rfl dX12_community_12 rfl (fun h3 => ?_)
  refine sm_iload_n (i := 2) (j := 0) (pc' := 16) dX12_community_15 rfl rfl rfl ?_
  refine sm_bipush (v := (40 : Int32)) (pc' := 18) dX12_community_16 rfl (by decide) ?_
  refine sm_icmp_le (tgt := 24) (pc' := 21) dX12_community_18 (by decide) rfl ?_ ?_
  · refine sm_aload_n (i := 0) (j := 1) (pc' := 25) dX12_community_24 rfl rfl rfl ?_
    refine sm_aload_n (i := 0) (j := 1) (pc' := 26) dX12_community_25 rfl rfl rfl ?_
    refine sm_getR (k := 1) (pc' := 29) kX12 (by decide) mw657 dX12_community_26 rfl (fun x4 => ?_)
    refine sm_iconst (v := (0 : Int32)) (pc' := 30) dX12_community_29 rfl (by decide) ?_
    refine sm_iload_n (i := 2) (j := 0) (pc' := 31) dX12_community_30 rfl rfl rfl ?_
    refine sm_cVI (pc' := 34) (ci := 12) (st := []) (F := fun b => fX12_communityOf b x4 (0 : Int32) x2 h3) [vR x4, vI (0 : Int32), vI x2] yY_yX12_communityOf rfl mw747 mw748 mw749 (fun b => mX12_communityOf l D aC B b x4 (0 : Int32) x2 h3) rfl (by decide) (by decide) (by exact Nat.le_of_ble_eq_true rfl) rfl dX12_community_31 rfl (fun x5 h6 => ?_)
    refine sm_if_lt (tgt := 40) (pc' := 37) dX12_community_34 (by decide) rfl ?_ ?_
    · refine sm_aload_n (i := 0) (j := 1) (pc' := 41) dX12_community_40 rfl rfl rfl ?_
      refine sm_getI (k := 28) (pc' := 44) kX12 (by decide) mw746 dX12_community_41 rfl (fun x7 => ?_)
      refine sm_bipush (v := (8 : Int32)) (pc' := 46) dX12_community_44 rfl (by decide) ?_
      refine sm_icmp_ne (tgt := 52) (pc' := 49) dX12_community_46 (by decide) rfl ?_ ?_
      · refine sm_iconst (v := (0 : Int32)) (pc' := 53) dX12_community_52 rfl (by decide) ?_
        refine sm_istore_n (i := 3) (lv' := [(3, vI (0 : Int32)), (2, vI x2), (0, vR (some a0)), (1, vI a1)]) (pc' := 54) dX12_community_53 rfl rfl (by decide) rfl ?_
        refine sm_lo (lv' := [(0, vR (some a0)), (1, vI a1), (2, vI x2), (3, vI (0 : Int32))]) [2, 3, 1, 0] rfl ?_
        exact sX12_community_54 l D aC B   sm_fuel a0 a1 x2 (0 : Int32) h6
      refine sm_bipush (v := (-4 : Int32)) (pc' := 51) dX12_community_49 rfl (by decide) ?_
      exact sm_iret rfl dX12_community_51
    refine sm_bipush (v := (-3 : Int32)) (pc' := 39) dX12_community_37 rfl (by decide) ?_
    exact sm_iret rfl dX12_community_39
  refine sm_bipush (v := (-2 : Int32)) (pc' := 23) dX12_community_21 rfl (by decide) ?_
  exact sm_iret rfl dX12_community_23
set_option maxRecDepth 100000 in
theorem mX12_community (l : Launch) (D : va_G) (aC : Nat → ClassId) (B : Nat) (a0 : Nat) (a1 : Int32) (h : sm_H) : sm_M l D vwCl gAts aC B gTs gNs gOs yX12_community cX12_community 4 (some .int) 1 26 vlI [vR (some a0), vI a1] h (fX12_community a0 a1 h) := sm_meth [vR (some a0), vI a1] yY_yX12_community gG gN (Nat.le_of_ble_eq_true rfl) rfl (sX12_community_0 l D aC B a0 a1 h)
-- M:TreeAgentModel.view(IZ)I
noncomputable def fX12_view_80  : Nat → Nat → Int32 → Int32 → Int32 → Int32 → Int32 → sm_H → Option (Int32 × sm_H)
  | 0 => fun _ _ _ _ _ _ _ => none
  | n + 1 => fun a0 a1 a2 a3 a4 a5 h =>
    if a3 ≤ a5 then (
      (sm_R (sm_get h (some a0) 12 34)).bind fun x1 =>
      (sm_sI h x1 0 a4 a3).bind fun h2 =>
      (sm_R (sm_get h2 (some a0) 12 35)).bind fun x3 =>
      (sm_sI h2 x3 2 a4 (vp_nar .boolean a2)).bind fun h4 =>
      (sm_R (sm_get h4 (some a0) 12 32)).bind fun x5 =>
      (sm_aI h4 x5 0 a1).bind fun x6 =>
      (sm_sI h4 x5 0 a1 (x6 + (1 : Int32))).bind fun h7 =>
      (sm_R (sm_get h7 (some a0) 12 32)).bind fun x8 =>
      (sm_aI h7 x8 0 a1).bind fun x9 =>
      some (x9, h7)
    ) else
    (sm_R (sm_get h (some a0) 12 33)).bind fun x10 =>
    (sm_R (sm_get h (some a0) 12 3)).bind fun x11 =>
    (sm_aJ h x11 1 a5).bind fun x12 =>
    (sm_sJ h x10 1 (((16 : Int32) * a4) + a5) x12).bind fun h13 =>
    sm_let (a5 + (1 : Int32)) fun x14 =>
    (fX12_view_80 n) a0 a1 a2 a3 a4 x14 h13
set_option maxRecDepth 100000 in
set_option maxHeartbeats 4000000 in
theorem sX12_view_80 (l : Launch) (D : va_G) (aC : Nat → ClassId) (B : Nat)   (n : Nat) : ∀ (a0 : Nat) (a1 : Int32) (a2 : Int32) (a3 : Int32) (a4 : Int32) (a5 : Int32) (h : sm_H), zS l D aC B cX12_view 6 RX12 1 25 (some .int) "view" vlI (fX12_view_80 n a0 a1 a2 a3 a4 a5 h) 80 [(0, vR (some a0)), (1, vI a1), (2, vI a2), (3, vI a3), (4, vI a4), (5, vI a5)] [] h := by
  induction n with
  | zero => intro a0 a1 a2 a3 a4 a5 h; exact sm_none
  | succ n ih =>
    intro a0 a1 a2 a3 a4 a5 h
    show zS l D aC B cX12_view 6 RX12 1 25 (some .int) "view" vlI (fX12_view_80 (n + 1) a0 a1 a2 a3 a4 a5 h) 80 [(0, vR (some a0)), (1, vI a1), (2, vI a2), (3, vI a3), (4, vI a4), (5, vI a5)] [] h
    unfold fX12_view_80
    refine sm_iload (i := 5) (j := 5) (pc' := 82) dX12_view_80 rfl rfl ?_
    refine sm_iload_n (i := 3) (j := 3) (pc' := 83) dX12_view_82 rfl rfl rfl ?_
    refine sm_icmp_ge (tgt := 112) (pc' := 86) dX12_view_83 (by decide) rfl ?_ ?_
    · refine sm_aload_n (i := 0) (j := 0) (pc' := 113) dX12_view_112 rfl rfl rfl ?_
      refine sm_getR (k := 34) (pc' := 116) kX12 (by decide) mw684 dX12_view_113 rfl (fun x1 => ?_)
      refine sm_iload (i := 4) (j := 4) (pc' := 118) dX12_view_116 rfl rfl ?_
      refine sm_iload_n (i := 3) (j := 3) (pc' := 119) dX12_view_118 rfl rfl rfl ?_
      refine sm_iast (t := 0) (pc' := 120) rfl dX12_view_119 rfl (fun h2 => ?_)
      refine sm_aload_n (i := 0) (j := 0) (pc' := 121) dX12_view_120 rfl rfl rfl ?_
      refine sm_getR (k := 35) (pc' := 124) kX12 (by decide) mw685 dX12_view_121 rfl (fun x3 => ?_)
      refine sm_iload (i := 4) (j := 4) (pc' := 126) dX12_view_124 rfl rfl ?_
      refine sm_iload_n (i := 2) (j := 2) (pc' := 127) dX12_view_126 rfl rfl rfl ?_
      refine sm_zast (t := 2) (pc' := 128) rfl dX12_view_127 rfl (fun h4 => ?_)
      refine sm_aload_n (i := 0) (j := 0) (pc' := 129) dX12_view_128 rfl rfl rfl ?_
      refine sm_getR (k := 32) (pc' := 132) kX12 (by decide) mw682 dX12_view_129 rfl (fun x5 => ?_)
      refine sm_iload_n (i := 1) (j := 1) (pc' := 133) dX12_view_132 rfl rfl rfl ?_
      refine sm_dup2 (pc' := 134) rfl rfl dX12_view_133 rfl ?_
      refine sm_iald (t := 0) (pc' := 135) rfl dX12_view_134 rfl (fun x6 => ?_)
      refine sm_iconst (v := (1 : Int32)) (pc' := 136) dX12_view_135 rfl (by decide) ?_
      refine sm_iadd (pc' := 137) dX12_view_136 rfl ?_
      refine sm_iast (t := 0) (pc' := 138) rfl dX12_view_137 rfl (fun h7 => ?_)
      refine sm_aload_n (i := 0) (j := 0) (pc' := 139) dX12_view_138 rfl rfl rfl ?_
      refine sm_getR (k := 32) (pc' := 142) kX12 (by decide) mw682 dX12_view_139 rfl (fun x8 => ?_)
      refine sm_iload_n (i := 1) (j := 1) (pc' := 143) dX12_view_142 rfl rfl rfl ?_
      refine sm_iald (t := 0) (pc' := 144) rfl dX12_view_143 rfl (fun x9 => ?_)
      exact sm_iret rfl dX12_view_144
    refine sm_aload_n (i := 0) (j := 0) (pc' := 87) dX12_view_86 rfl rfl rfl ?_
    refine sm_getR (k := 33) (pc' := 90) kX12 (by decide) mw683 dX12_view_87 rfl (fun x10 => ?_)
    refine sm_bipush (v := (16 : Int32)) (pc' := 92) dX12_view_90 rfl (by decide) ?_
    refine sm_iload (i := 4) (j := 4) (pc' := 94) dX12_view_92 rfl rfl ?_
    refine sm_imul (pc' := 95) dX12_view_94 rfl ?_
    refine sm_iload (i := 5) (j := 5) (pc' := 97) dX12_view_95 rfl rfl ?_
    refine sm_iadd (pc' := 98) dX12_view_97 rfl ?_
    refine sm_aload_n (i := 0) (j := 0) (pc' := 99) dX12_view_98 rfl rfl rfl ?_
    refine sm_getR (k := 3) (pc' := 102) kX12 (by decide) mw658 dX12_view_99 rfl (fun x11 => ?_)
    refine sm_iload (i := 5) (j := 5) (pc' := 104) dX12_view_102 rfl rfl ?_
    refine sm_lald (t := 1) (pc' := 105) rfl dX12_view_104 rfl (fun x12 => ?_)
    refine sm_last (t := 1) (pc' := 106) rfl dX12_view_105 rfl (fun h13 => ?_)
    refine sm_iincL (i := 5) (j := 5) (x := a5) (d := (1 : Int32)) (fun x14 => [(5, vI x14), (0, vR (some a0)), (1, vI a1), (2, vI a2), (3, vI a3), (4, vI a4)]) (pc' := 109) dX12_view_106 rfl rfl (by decide) (by decide) (fun _ => rfl) (fun x14 => ?_)
    refine sm_goto (pc' := 80) dX12_view_109 (by decide) ?_
    refine sm_lo (lv' := [(0, vR (some a0)), (1, vI a1), (2, vI a2), (3, vI a3), (4, vI a4), (5, vI x14)]) [1, 2, 3, 4, 5, 0] rfl ?_
    exact ih a0 a1 a2 a3 a4 x14 h13
noncomputable def fX12_view  (a0 : Nat) (a1 : Int32) (a2 : Int32) (h : sm_H) : Option (Int32 × sm_H) :=
  (sm_put h (some a0) 12 0 (sm_v (vI (0 : Int32)))).bind fun h1 =>
  (sm_I (sm_get h1 (some a0) 12 4)).bind fun x2 =>
  (sm_put h1 (some a0) 12 4 (sm_v (vI (0 : Int32)))).bind fun h3 =>
  (sm_I (sm_get h3 (some a0) 12 28)).bind fun x4 =>
  sm_cb (fX12_in (a1.toInt64) (0 : Int64) ((x4 - (1 : Int32)).toInt64) h3) fun x5 h6 =>
  if x5 = 0 then (
    some ((-1 : Int32), h6)
  ) else
  sm_cb (fX12_in (x2.toInt64) (2 : Int64) (16 : Int64) h6) fun x7 h8 =>
  if x7 = 0 then (
    some ((-2 : Int32), h8)
  ) else
  (sm_R (sm_get h8 (some a0) 12 32)).bind fun x9 =>
  (sm_aI h8 x9 0 a1).bind fun x10 =>
  if x10 = (8 : Int32) then (
    some ((-4 : Int32), h8)
  ) else
  (sm_R (sm_get h8 (some a0) 12 32)).bind fun x11 =>
  (sm_aI h8 x11 0 a1).bind fun x12 =>
  sm_let (((8 : Int32) * a1) + x12) fun x13 =>
  fX12_view_80 sm_fuel a0 a1 a2 x2 x13 (0 : Int32) h8
set_option maxRecDepth 100000 in
set_option maxHeartbeats 4000000 in
theorem sX12_view_0 (l : Launch) (D : va_G) (aC : Nat → ClassId) (B : Nat)   (a0 : Nat) (a1 : Int32) (a2 : Int32) (h : sm_H) : zS l D aC B cX12_view 6 RX12 1 25 (some .int) "view" vlI (fX12_view a0 a1 a2 h) 0 [(0, vR (some a0)), (1, vI a1), (2, vI a2)] [] h := by
  unfold fX12_view
  refine sm_aload_n (i := 0) (j := 0) (pc' := 1) dX12_view_0 rfl rfl rfl ?_
  refine sm_iconst (v := (0 : Int32)) (pc' := 2) dX12_view_1 rfl (by decide) ?_
  refine sm_putI (k := 0) (pc' := 5) kX12 (by decide) mw699 rfl rfl dX12_view_2 rfl (fun h1 => ?_)
  refine sm_aload_n (i := 0) (j := 0) (pc' := 6) dX12_view_5 rfl rfl rfl ?_
  refine sm_getI (k := 4) (pc' := 9) kX12 (by decide) mw703 dX12_view_6 rfl (fun x2 => ?_)
  refine sm_istore_n (i := 3) (lv' := [(3, vI x2), (0, vR (some a0)), (1, vI a1), (2, vI a2)]) (pc' := 10) dX12_view_9 rfl rfl (by decide) rfl ?_
  refine sm_aload_n (i := 0) (j := 1) (pc' := 11) dX12_view_10 rfl rfl rfl ?_
  refine sm_iconst (v := (0 : Int32)) (pc' := 12) dX12_view_11 rfl (by decide) ?_
  refine sm_putI (k := 4) (pc' := 15) kX12 (by decide) mw703 rfl rfl dX12_view_12 rfl (fun h3 => ?_)
  refine sm_iload_n (i := 1) (j := 2) (pc' := 16) dX12_view_15 rfl rfl rfl ?_
  refine sm_i2l (pc' := 17) dX12_view_16 rfl ?_
  refine sm_lconst (v := (0 : Int64)) (pc' := 18) dX12_view_17 rfl (by decide) ?_
  refine sm_aload_n (i := 0) (j := 1) (pc' := 19) dX12_view_18 rfl rfl rfl ?_
  refine sm_getI (k := 28) (pc' := 22) kX12 (by decide) mw746 dX12_view_19 rfl (fun x4 => ?_)
  refine sm_iconst (v := (1 : Int32)) (pc' := 23) dX12_view_22 rfl (by decide) ?_
  refine sm_isub (pc' := 24) dX12_view_23 rfl ?_
  refine sm_i2l (pc' := 25) dX12_view_24 rfl ?_
  refine sm_cSI (pc' := 28) (st := []) [vJ (a1.toInt64), vJ (0 : Int64), vJ ((x4 - (1 : Int32)).toInt64)] yY_yX12_in mw701 mw702 (mX12_in l D aC B (a1.toInt64) (0 : Int64) ((x4 - (1 : Int32)).toInt64) h3) rfl (by decide) (by decide) (by exact Nat.le_of_ble_eq_true rfl) rfl dX12_view_25 rfl (fun x5 h6 => ?_)
  refine sm_if_ne (tgt := 33) (pc' := 31) dX12_view_28 (by decide) rfl ?_ ?_
  · refine sm_iload_n (i := 3) (j := 0) (pc' := 34) dX12_view_33 rfl rfl rfl ?_
    refine sm_i2l (pc' := 35) dX12_view_34 rfl ?_
    refine sm_ldc2 (v := (2 : Int64)) (pc' := 38) dX12_view_35 rfl mw707 ?_
    refine sm_ldc2 (v := (16 : Int64)) (pc' := 41) dX12_view_38 rfl mw745 ?_
    refine sm_cSI (pc' := 44) (st := []) [vJ (x2.toInt64), vJ (2 : Int64), vJ (16 : Int64)] yY_yX12_in mw701 mw702 (mX12_in l D aC B (x2.toInt64) (2 : Int64) (16 : Int64) h6) rfl (by decide) (by decide) (by exact Nat.le_of_ble_eq_true rfl) rfl dX12_view_41 rfl (fun x7 h8 => ?_)
    refine sm_if_ne (tgt := 50) (pc' := 47) dX12_view_44 (by decide) rfl ?_ ?_
    · refine sm_aload_n (i := 0) (j := 1) (pc' := 51) dX12_view_50 rfl rfl rfl ?_
      refine sm_getR (k := 32) (pc' := 54) kX12 (by decide) mw682 dX12_view_51 rfl (fun x9 => ?_)
      refine sm_iload_n (i := 1) (j := 2) (pc' := 55) dX12_view_54 rfl rfl rfl ?_
      refine sm_iald (t := 0) (pc' := 56) rfl dX12_view_55 rfl (fun x10 => ?_)
      refine sm_bipush (v := (8 : Int32)) (pc' := 58) dX12_view_56 rfl (by decide) ?_
      refine sm_icmp_ne (tgt := 64) (pc' := 61) dX12_view_58 (by decide) rfl ?_ ?_
      · refine sm_bipush (v := (8 : Int32)) (pc' := 66) dX12_view_64 rfl (by decide) ?_
        refine sm_iload_n (i := 1) (j := 2) (pc' := 67) dX12_view_66 rfl rfl rfl ?_
        refine sm_imul (pc' := 68) dX12_view_67 rfl ?_
        refine sm_aload_n (i := 0) (j := 1) (pc' := 69) dX12_view_68 rfl rfl rfl ?_
        refine sm_getR (k := 32) (pc' := 72) kX12 (by decide) mw682 dX12_view_69 rfl (fun x11 => ?_)
        refine sm_iload_n (i := 1) (j := 2) (pc' := 73) dX12_view_72 rfl rfl rfl ?_
        refine sm_iald (t := 0) (pc' := 74) rfl dX12_view_73 rfl (fun x12 => ?_)
        refine sm_iadd (pc' := 75) dX12_view_74 rfl ?_
        refine sm_letIv (fun x13 => ?_)
        refine sm_istore (i := 4) (lv' := [(4, vI x13), (3, vI x2), (0, vR (some a0)), (1, vI a1), (2, vI a2)]) (pc' := 77) dX12_view_75 rfl (by decide) rfl ?_
        refine sm_iconst (v := (0 : Int32)) (pc' := 78) dX12_view_77 rfl (by decide) ?_
        refine sm_istore (i := 5) (lv' := [(5, vI (0 : Int32)), (4, vI x13), (3, vI x2), (0, vR (some a0)), (1, vI a1), (2, vI a2)]) (pc' := 80) dX12_view_78 rfl (by decide) rfl ?_
        refine sm_lo (lv' := [(0, vR (some a0)), (1, vI a1), (2, vI a2), (3, vI x2), (4, vI x13), (5, vI (0 : Int32))]) [3, 4, 5, 2, 1, 0] rfl ?_
        exact sX12_view_80 l D aC B   sm_fuel a0 a1 a2 x2 x13 (0 : Int32) h8
      refine sm_bipush (v := (-4 : Int32)) (pc' := 63) dX12_view_61 rfl (by decide) ?_
      exact sm_iret rfl dX12_view_63
    refine sm_bipush (v := (-2 : Int32)) (pc' := 49) dX12_view_47 rfl (by decide) ?_
    exact sm_iret rfl dX12_view_49
  refine sm_iconst (v := (-1 : Int32)) (pc' := 32) dX12_view_31 rfl (by decide) ?_
  exact sm_iret rfl dX12_view_32
set_option maxRecDepth 100000 in
theorem mX12_view (l : Launch) (D : va_G) (aC : Nat → ClassId) (B : Nat) (a0 : Nat) (a1 : Int32) (a2 : Int32) (h : sm_H) : sm_M l D vwCl gAts aC B gTs gNs gOs yX12_view cX12_view 6 (some .int) 1 25 vlI [vR (some a0), vI a1, vI a2] h (fX12_view a0 a1 a2 h) := sm_meth [vR (some a0), vI a1, vI a2] yY_yX12_view gG gN (Nat.le_of_ble_eq_true rfl) rfl (sX12_view_0 l D aC B a0 a1 a2 h)
-- M:TreeAgentModel.limit(I)I
noncomputable def fX12_limit  (a0 : Nat) (a1 : Int32) (h : sm_H) : Option (Int32 × sm_H) :=
  (sm_put h (some a0) 12 0 (sm_v (vI (0 : Int32)))).bind fun h1 =>
  sm_cb (fX12_in (a1.toInt64) (100 : Int64) (1000 : Int64) h1) fun x2 h3 =>
  if x2 = 0 then (
    some ((-2 : Int32), h3)
  ) else
  (sm_I (sm_get h3 (some a0) 12 5)).bind fun x4 =>
  (sm_put h3 (some a0) 12 5 (sm_v (vI a1))).bind fun h5 =>
  some (x4, h5)
set_option maxRecDepth 100000 in
set_option maxHeartbeats 4000000 in
theorem sX12_limit_0 (l : Launch) (D : va_G) (aC : Nat → ClassId) (B : Nat)   (a0 : Nat) (a1 : Int32) (h : sm_H) : zS l D aC B cX12_limit 3 RX12 1 25 (some .int) "limit" vlI (fX12_limit a0 a1 h) 0 [(0, vR (some a0)), (1, vI a1)] [] h := by
  unfold fX12_limit
  refine sm_aload_n (i := 0) (j := 0) (pc' := 1) dX12_limit_0 rfl rfl rfl ?_
  refine sm_iconst (v := (0 : Int32)) (pc' := 2) dX12_limit_1 rfl (by decide) ?_
  refine sm_putI (k := 0) (pc' := 5) kX12 (by decide) mw699 rfl rfl dX12_limit_2 rfl (fun h1 => ?_)
  refine sm_iload_n (i := 1) (j := 1) (pc' := 6) dX12_limit_5 rfl rfl rfl ?_
  refine sm_i2l (pc' := 7) dX12_limit_6 rfl ?_
  refine sm_ldc2 (v := (100 : Int64)) (pc' := 10) dX12_limit_7 rfl mw750 ?_
  refine sm_ldc2 (v := (1000 : Int64)) (pc' := 13) dX12_limit_10 rfl mw751 ?_
  refine sm_cSI (pc' := 16) (st := []) [vJ (a1.toInt64), vJ (100 : Int64), vJ (1000 : Int64)] yY_yX12_in mw701 mw702 (mX12_in l D aC B (a1.toInt64) (100 : Int64) (1000 : Int64) h1) rfl (by decide) (by decide) (by exact Nat.le_of_ble_eq_true rfl) rfl dX12_limit_13 rfl (fun x2 h3 => ?_)
  refine sm_if_ne (tgt := 22) (pc' := 19) dX12_limit_16 (by decide) rfl ?_ ?_
  · refine sm_aload_n (i := 0) (j := 0) (pc' := 23) dX12_limit_22 rfl rfl rfl ?_
    refine sm_getI (k := 5) (pc' := 26) kX12 (by decide) mw659 dX12_limit_23 rfl (fun x4 => ?_)
    refine sm_istore_n (i := 2) (lv' := [(2, vI x4), (0, vR (some a0)), (1, vI a1)]) (pc' := 27) dX12_limit_26 rfl rfl (by decide) rfl ?_
    refine sm_aload_n (i := 0) (j := 1) (pc' := 28) dX12_limit_27 rfl rfl rfl ?_
    refine sm_iload_n (i := 1) (j := 2) (pc' := 29) dX12_limit_28 rfl rfl rfl ?_
    refine sm_putI (k := 5) (pc' := 32) kX12 (by decide) mw659 rfl rfl dX12_limit_29 rfl (fun h5 => ?_)
    refine sm_iload_n (i := 2) (j := 0) (pc' := 33) dX12_limit_32 rfl rfl rfl ?_
    exact sm_iret rfl dX12_limit_33
  refine sm_bipush (v := (-2 : Int32)) (pc' := 21) dX12_limit_19 rfl (by decide) ?_
  exact sm_iret rfl dX12_limit_21
set_option maxRecDepth 100000 in
theorem mX12_limit (l : Launch) (D : va_G) (aC : Nat → ClassId) (B : Nat) (a0 : Nat) (a1 : Int32) (h : sm_H) : sm_M l D vwCl gAts aC B gTs gNs gOs yX12_limit cX12_limit 3 (some .int) 1 25 vlI [vR (some a0), vI a1] h (fX12_limit a0 a1 h) := sm_meth [vR (some a0), vI a1] yY_yX12_limit gG gN (Nat.le_of_ble_eq_true rfl) rfl (sX12_limit_0 l D aC B a0 a1 h)
-- M:TreeAgentModel.tick(J)J
noncomputable def fX12_tick  (a0 : Nat) (a1 : Int64) (h : sm_H) : Option (Int64 × sm_H) :=
  (sm_put h (some a0) 12 0 (sm_v (vI (0 : Int32)))).bind fun h1 =>
  if (lg_cmp a1 (0 : Int64)) < 0 then (
    some ((-2 : Int64), h1)
  ) else
  (sm_J (sm_get h1 (some a0) 12 6)).bind fun x2 =>
  if (lg_cmp a1 ((4611686018427387904 : Int64) - x2)) ≤ 0 then (
    (sm_J (sm_get h1 (some a0) 12 6)).bind fun x3 =>
    (sm_put h1 (some a0) 12 6 (sm_v (vJ (x3 + a1)))).bind fun h4 =>
    (sm_J (sm_get h4 (some a0) 12 6)).bind fun x5 =>
    some (x5, h4)
  ) else
  some ((-2 : Int64), h1)
set_option maxRecDepth 100000 in
set_option maxHeartbeats 4000000 in
theorem sX12_tick_0 (l : Launch) (D : va_G) (aC : Nat → ClassId) (B : Nat)   (a0 : Nat) (a1 : Int64) (h : sm_H) : zS l D aC B cX12_tick 3 RX12 0 0 (some .long) "tick" vlJ (fX12_tick a0 a1 h) 0 [(0, vR (some a0)), (1, vJ a1)] [] h := by
  unfold fX12_tick
  refine sm_aload_n (i := 0) (j := 0) (pc' := 1) dX12_tick_0 rfl rfl rfl ?_
  refine sm_iconst (v := (0 : Int32)) (pc' := 2) dX12_tick_1 rfl (by decide) ?_
  refine sm_putI (k := 0) (pc' := 5) kX12 (by decide) mw699 rfl rfl dX12_tick_2 rfl (fun h1 => ?_)
  refine sm_lload_n (i := 1) (j := 1) (pc' := 6) dX12_tick_5 rfl rfl rfl ?_
  refine sm_lconst (v := (0 : Int64)) (pc' := 7) dX12_tick_6 rfl (by decide) ?_
  refine sm_lcmp (pc' := 8) dX12_tick_7 rfl ?_
  refine sm_if_lt (tgt := 24) (pc' := 11) dX12_tick_8 (by decide) rfl ?_ ?_
  · refine sm_ldc2 (v := (-2 : Int64)) (pc' := 27) dX12_tick_24 rfl mw752 ?_
    exact sm_lret rfl dX12_tick_27
  refine sm_lload_n (i := 1) (j := 1) (pc' := 12) dX12_tick_11 rfl rfl rfl ?_
  refine sm_ldc2 (v := (4611686018427387904 : Int64)) (pc' := 15) dX12_tick_12 rfl mw753 ?_
  refine sm_aload_n (i := 0) (j := 0) (pc' := 16) dX12_tick_15 rfl rfl rfl ?_
  refine sm_getJ (k := 6) (pc' := 19) kX12 (by decide) mw754 dX12_tick_16 rfl (fun x2 => ?_)
  refine sm_lsub (pc' := 20) dX12_tick_19 rfl ?_
  refine sm_lcmp (pc' := 21) dX12_tick_20 rfl ?_
  refine sm_if_le (tgt := 28) (pc' := 24) dX12_tick_21 (by decide) rfl ?_ ?_
  · refine sm_aload_n (i := 0) (j := 0) (pc' := 29) dX12_tick_28 rfl rfl rfl ?_
    refine sm_dup (pc' := 30) rfl dX12_tick_29 rfl ?_
    refine sm_getJ (k := 6) (pc' := 33) kX12 (by decide) mw754 dX12_tick_30 rfl (fun x3 => ?_)
    refine sm_lload_n (i := 1) (j := 1) (pc' := 34) dX12_tick_33 rfl rfl rfl ?_
    refine sm_ladd (pc' := 35) dX12_tick_34 rfl ?_
    refine sm_putJ (k := 6) (pc' := 38) kX12 (by decide) mw754 rfl rfl dX12_tick_35 rfl (fun h4 => ?_)
    refine sm_aload_n (i := 0) (j := 0) (pc' := 39) dX12_tick_38 rfl rfl rfl ?_
    refine sm_getJ (k := 6) (pc' := 42) kX12 (by decide) mw754 dX12_tick_39 rfl (fun x5 => ?_)
    exact sm_lret rfl dX12_tick_42
  refine sm_ldc2 (v := (-2 : Int64)) (pc' := 27) dX12_tick_24 rfl mw752 ?_
  exact sm_lret rfl dX12_tick_27
set_option maxRecDepth 100000 in
theorem mX12_tick (l : Launch) (D : va_G) (aC : Nat → ClassId) (B : Nat) (a0 : Nat) (a1 : Int64) (h : sm_H) : sm_M l D vwCl gAts aC B gTs gNs gOs yX12_tick cX12_tick 3 (some .long) 0 0 vlJ [vR (some a0), vJ a1] h (fX12_tick a0 a1 h) := sm_meth [vR (some a0), vJ a1] yY_yX12_tick gG gN (Nat.le_of_ble_eq_true rfl) rfl (sX12_tick_0 l D aC B a0 a1 h)
-- M:TreeAgentModel.octet(I)I
noncomputable def fX12_octet  (a0 : Nat) (a1 : Int32) (h : sm_H) : Option (Int32 × sm_H) :=
  (sm_I (sm_get h (some a0) 12 44)).bind fun x1 =>
  if x1 < a1 then (
    (sm_I (sm_get h (some a0) 12 44)).bind fun x2 =>
    (sm_put h (some a0) 12 44 (sm_v (vI (x2 + (1 : Int32))))).bind fun h3 =>
    (sm_R (sm_get h3 (some a0) 12 1)).bind fun x4 =>
    (sm_I (sm_get h3 (some a0) 12 44)).bind fun x5 =>
    (sm_aI h3 x4 3 (x5 - (1 : Int32))).bind fun x6 =>
    some (x6 &&& (255 : Int32), h3)
  ) else
  (sm_I (sm_get h (some a0) 12 45)).bind fun x7 =>
  if x7 = 0 then (
    (sm_put h (some a0) 12 45 (sm_v (vI (1 : Int32)))).bind fun h10 =>
    some ((0 : Int32), h10)
  ) else
  (sm_I (sm_get h (some a0) 12 45)).bind fun x8 =>
  (sm_put h (some a0) 12 45 (sm_v (vI x8))).bind fun h9 =>
  some ((0 : Int32), h9)
set_option maxRecDepth 100000 in
set_option maxHeartbeats 4000000 in
theorem sX12_octet_0 (l : Launch) (D : va_G) (aC : Nat → ClassId) (B : Nat)   (a0 : Nat) (a1 : Int32) (h : sm_H) : zS l D aC B cX12_octet 2 RX12 0 0 (some .int) "octet" vlI (fX12_octet a0 a1 h) 0 [(0, vR (some a0)), (1, vI a1)] [] h := by
  unfold fX12_octet
  refine sm_aload_n (i := 0) (j := 0) (pc' := 1) dX12_octet_0 rfl rfl rfl ?_
  refine sm_getI (k := 44) (pc' := 4) kX12 (by decide) mw755 dX12_octet_1 rfl (fun x1 => ?_)
  refine sm_iload_n (i := 1) (j := 1) (pc' := 5) dX12_octet_4 rfl rfl rfl ?_
  refine sm_icmp_lt (tgt := 29) (pc' := 8) dX12_octet_5 (by decide) rfl ?_ ?_
  · refine sm_aload_n (i := 0) (j := 0) (pc' := 30) dX12_octet_29 rfl rfl rfl ?_
    refine sm_dup (pc' := 31) rfl dX12_octet_30 rfl ?_
    refine sm_getI (k := 44) (pc' := 34) kX12 (by decide) mw755 dX12_octet_31 rfl (fun x2 => ?_)
    refine sm_iconst (v := (1 : Int32)) (pc' := 35) dX12_octet_34 rfl (by decide) ?_
    refine sm_iadd (pc' := 36) dX12_octet_35 rfl ?_
    refine sm_putI (k := 44) (pc' := 39) kX12 (by decide) mw755 rfl rfl dX12_octet_36 rfl (fun h3 => ?_)
    refine sm_aload_n (i := 0) (j := 0) (pc' := 40) dX12_octet_39 rfl rfl rfl ?_
    refine sm_getR (k := 1) (pc' := 43) kX12 (by decide) mw657 dX12_octet_40 rfl (fun x4 => ?_)
    refine sm_aload_n (i := 0) (j := 0) (pc' := 44) dX12_octet_43 rfl rfl rfl ?_
    refine sm_getI (k := 44) (pc' := 47) kX12 (by decide) mw755 dX12_octet_44 rfl (fun x5 => ?_)
    refine sm_iconst (v := (1 : Int32)) (pc' := 48) dX12_octet_47 rfl (by decide) ?_
    refine sm_isub (pc' := 49) dX12_octet_48 rfl ?_
    refine sm_bald (t := 3) (pc' := 50) rfl dX12_octet_49 rfl (fun x6 => ?_)
    refine sm_sipush (v := (255 : Int32)) (pc' := 53) dX12_octet_50 rfl (by decide) ?_
    refine sm_iand (pc' := 54) dX12_octet_53 rfl ?_
    exact sm_iret rfl dX12_octet_54
  refine sm_aload_n (i := 0) (j := 0) (pc' := 9) dX12_octet_8 rfl rfl rfl ?_
  refine sm_aload_n (i := 0) (j := 0) (pc' := 10) dX12_octet_9 rfl rfl rfl ?_
  refine sm_getI (k := 45) (pc' := 13) kX12 (by decide) mw756 dX12_octet_10 rfl (fun x7 => ?_)
  refine sm_if_ne (tgt := 20) (pc' := 16) dX12_octet_13 (by decide) rfl ?_ ?_
  · refine sm_aload_n (i := 0) (j := 0) (pc' := 21) dX12_octet_20 rfl rfl rfl ?_
    refine sm_getI (k := 45) (pc' := 24) kX12 (by decide) mw756 dX12_octet_21 rfl (fun x8 => ?_)
    refine sm_putI (k := 45) (pc' := 27) kX12 (by decide) mw756 rfl rfl dX12_octet_24 rfl (fun h9 => ?_)
    refine sm_iconst (v := (0 : Int32)) (pc' := 28) dX12_octet_27 rfl (by decide) ?_
    exact sm_iret rfl dX12_octet_28
  refine sm_iconst (v := (1 : Int32)) (pc' := 17) dX12_octet_16 rfl (by decide) ?_
  refine sm_goto (pc' := 24) dX12_octet_17 (by decide) ?_
  refine sm_putI (k := 45) (pc' := 27) kX12 (by decide) mw756 rfl rfl dX12_octet_24 rfl (fun h10 => ?_)
  refine sm_iconst (v := (0 : Int32)) (pc' := 28) dX12_octet_27 rfl (by decide) ?_
  exact sm_iret rfl dX12_octet_28
set_option maxRecDepth 100000 in
theorem mX12_octet (l : Launch) (D : va_G) (aC : Nat → ClassId) (B : Nat) (a0 : Nat) (a1 : Int32) (h : sm_H) : sm_M l D vwCl gAts aC B gTs gNs gOs yX12_octet cX12_octet 2 (some .int) 0 0 vlI [vR (some a0), vI a1] h (fX12_octet a0 a1 h) := sm_meth [vR (some a0), vI a1] yY_yX12_octet gG gN (Nat.le_of_ble_eq_true rfl) rfl (sX12_octet_0 l D aC B a0 a1 h)
