-- M:TreeAgentModel.readRow(I)V
noncomputable def fX12_readRow_78  (a0 : Nat) (a2 : Int32) (h : sm_H) : Option (Unit × sm_H) :=
  (sm_I (sm_get h (some a0) 12 45)).bind fun x1 =>
  if x1 = 0 then (
    (sm_I (sm_get h (some a0) 12 44)).bind fun x4 =>
    if x4 = a2 then (
      (sm_I (sm_get h (some a0) 12 46)).bind fun x5 =>
      (sm_put h (some a0) 12 46 (sm_v (vI (x5 + (1 : Int32))))).bind fun h6 =>
      some ((), h6)
    ) else
    (sm_put h (some a0) 12 45 (sm_v (vI (1 : Int32)))).bind fun h7 =>
    (sm_I (sm_get h7 (some a0) 12 46)).bind fun x8 =>
    (sm_put h7 (some a0) 12 46 (sm_v (vI (x8 + (1 : Int32))))).bind fun h9 =>
    some ((), h9)
  ) else
  (sm_I (sm_get h (some a0) 12 46)).bind fun x2 =>
  (sm_put h (some a0) 12 46 (sm_v (vI (x2 + (1 : Int32))))).bind fun h3 =>
  some ((), h3)
set_option maxRecDepth 100000 in
set_option maxHeartbeats 4000000 in
theorem sX12_readRow_78 (l : Launch) (D : va_G) (aC : Nat → ClassId) (B : Nat)   (a0 : Nat) (a2 : Int32) (h : sm_H) : zS l D aC B cX12_readRow 5 RX12 3 79 none "readRow" vlU (fX12_readRow_78 a0 a2 h) 78 [(0, vR (some a0)), (2, vI a2)] [] h := by
  unfold fX12_readRow_78
  refine sm_aload_n (i := 0) (j := 0) (pc' := 79) dX12_readRow_78 rfl rfl rfl ?_
  refine sm_getI (k := 45) (pc' := 82) kX12 (by decide) mw756 dX12_readRow_79 rfl (fun x1 => ?_)
  refine sm_if_ne (tgt := 98) (pc' := 85) dX12_readRow_82 (by decide) rfl ?_ ?_
  · refine sm_aload_n (i := 0) (j := 0) (pc' := 99) dX12_readRow_98 rfl rfl rfl ?_
    refine sm_dup (pc' := 100) rfl dX12_readRow_99 rfl ?_
    refine sm_getI (k := 46) (pc' := 103) kX12 (by decide) mw778 dX12_readRow_100 rfl (fun x2 => ?_)
    refine sm_iconst (v := (1 : Int32)) (pc' := 104) dX12_readRow_103 rfl (by decide) ?_
    refine sm_iadd (pc' := 105) dX12_readRow_104 rfl ?_
    refine sm_putI (k := 46) (pc' := 108) kX12 (by decide) mw778 rfl rfl dX12_readRow_105 rfl (fun h3 => ?_)
    exact sm_vret rfl dX12_readRow_108
  refine sm_aload_n (i := 0) (j := 0) (pc' := 86) dX12_readRow_85 rfl rfl rfl ?_
  refine sm_getI (k := 44) (pc' := 89) kX12 (by decide) mw755 dX12_readRow_86 rfl (fun x4 => ?_)
  refine sm_iload_n (i := 2) (j := 1) (pc' := 90) dX12_readRow_89 rfl rfl rfl ?_
  refine sm_icmp_eq (tgt := 98) (pc' := 93) dX12_readRow_90 (by decide) rfl ?_ ?_
  · refine sm_aload_n (i := 0) (j := 0) (pc' := 99) dX12_readRow_98 rfl rfl rfl ?_
    refine sm_dup (pc' := 100) rfl dX12_readRow_99 rfl ?_
    refine sm_getI (k := 46) (pc' := 103) kX12 (by decide) mw778 dX12_readRow_100 rfl (fun x5 => ?_)
    refine sm_iconst (v := (1 : Int32)) (pc' := 104) dX12_readRow_103 rfl (by decide) ?_
    refine sm_iadd (pc' := 105) dX12_readRow_104 rfl ?_
    refine sm_putI (k := 46) (pc' := 108) kX12 (by decide) mw778 rfl rfl dX12_readRow_105 rfl (fun h6 => ?_)
    exact sm_vret rfl dX12_readRow_108
  refine sm_aload_n (i := 0) (j := 0) (pc' := 94) dX12_readRow_93 rfl rfl rfl ?_
  refine sm_iconst (v := (1 : Int32)) (pc' := 95) dX12_readRow_94 rfl (by decide) ?_
  refine sm_putI (k := 45) (pc' := 98) kX12 (by decide) mw756 rfl rfl dX12_readRow_95 rfl (fun h7 => ?_)
  refine sm_aload_n (i := 0) (j := 0) (pc' := 99) dX12_readRow_98 rfl rfl rfl ?_
  refine sm_dup (pc' := 100) rfl dX12_readRow_99 rfl ?_
  refine sm_getI (k := 46) (pc' := 103) kX12 (by decide) mw778 dX12_readRow_100 rfl (fun x8 => ?_)
  refine sm_iconst (v := (1 : Int32)) (pc' := 104) dX12_readRow_103 rfl (by decide) ?_
  refine sm_iadd (pc' := 105) dX12_readRow_104 rfl ?_
  refine sm_putI (k := 46) (pc' := 108) kX12 (by decide) mw778 rfl rfl dX12_readRow_105 rfl (fun h9 => ?_)
  exact sm_vret rfl dX12_readRow_108
noncomputable def fX12_readRow_64  (a0 : Nat) (a2 : Int32) (a4 : Int32) (h : sm_H) : Option (Unit × sm_H) :=
  (sm_I (sm_get h (some a0) 12 45)).bind fun x1 =>
  if x1 = 0 then (
    (sm_obj h (some a0) 12).bind fun b3 =>
    sm_cb (fX12_readValue b3 a4 a2 h) fun _ h2 =>
    fX12_readRow_78 a0 a2 h2
  ) else
  fX12_readRow_78 a0 a2 h
set_option maxRecDepth 100000 in
set_option maxHeartbeats 4000000 in
theorem sX12_readRow_64 (l : Launch) (D : va_G) (aC : Nat → ClassId) (B : Nat)   (a0 : Nat) (a2 : Int32) (a4 : Int32) (h : sm_H) : zS l D aC B cX12_readRow 5 RX12 3 79 none "readRow" vlU (fX12_readRow_64 a0 a2 a4 h) 64 [(0, vR (some a0)), (2, vI a2), (4, vI a4)] [] h := by
  unfold fX12_readRow_64
  refine sm_aload_n (i := 0) (j := 0) (pc' := 65) dX12_readRow_64 rfl rfl rfl ?_
  refine sm_getI (k := 45) (pc' := 68) kX12 (by decide) mw756 dX12_readRow_65 rfl (fun x1 => ?_)
  refine sm_if_ne (tgt := 78) (pc' := 71) dX12_readRow_68 (by decide) rfl ?_ ?_
  · refine sm_lo (lv' := [(0, vR (some a0)), (2, vI a2)]) [0, 1] rfl ?_
    exact sX12_readRow_78 l D aC B  a0 a2 h
  refine sm_aload_n (i := 0) (j := 0) (pc' := 72) dX12_readRow_71 rfl rfl rfl ?_
  refine sm_iload (i := 4) (j := 2) (pc' := 74) dX12_readRow_72 rfl rfl ?_
  refine sm_iload_n (i := 2) (j := 1) (pc' := 75) dX12_readRow_74 rfl rfl rfl ?_
  refine sm_cVU (pc' := 78) (ci := 12) (st := []) (F := fun b => fX12_readValue b a4 a2 h) [vI a4, vI a2] yY_yX12_readValue rfl mw779 mw780 mw781 (fun b => mX12_readValue l D aC B b a4 a2 h) rfl (by decide) (by decide) (by exact Nat.le_of_ble_eq_true rfl) rfl dX12_readRow_75 rfl (fun _ h2 => ?_)
  refine sm_lo (lv' := [(0, vR (some a0)), (2, vI a2)]) [0, 1] rfl ?_
  exact sX12_readRow_78 l D aC B  a0 a2 h2
noncomputable def fX12_readRow_29  (a0 : Nat) (a2 : Int32) (s0 : Int32) (h : sm_H) : Option (Unit × sm_H) :=
  (sm_I (sm_get h (some a0) 12 46)).bind fun x1 =>
  (sm_I (sm_get h (some a0) 12 45)).bind fun x2 =>
  if x2 = 0 then (
    (sm_R (sm_get h (some a0) 12 37)).bind fun x3 =>
    (sm_R (sm_get h (some a0) 12 36)).bind fun x4 =>
    (sm_obj h (some a0) 12).bind fun b8 =>
    sm_cb (fX12_readName b8 s0 x4 ((16 : Int32) * x1) h) fun x5 h6 =>
    (sm_sI h6 x3 0 x1 x5).bind fun h7 =>
    fX12_readRow_64 a0 a2 x1 h7
  ) else
  fX12_readRow_64 a0 a2 x1 h
set_option maxRecDepth 100000 in
set_option maxHeartbeats 4000000 in
theorem sX12_readRow_29 (l : Launch) (D : va_G) (aC : Nat → ClassId) (B : Nat)   (a0 : Nat) (a2 : Int32) (s0 : Int32) (h : sm_H) : zS l D aC B cX12_readRow 5 RX12 3 79 none "readRow" vlU (fX12_readRow_29 a0 a2 s0 h) 29 [(0, vR (some a0)), (2, vI a2)] [vI s0] h := by
  unfold fX12_readRow_29
  refine sm_istore_n (i := 3) (lv' := [(3, vI s0), (0, vR (some a0)), (2, vI a2)]) (pc' := 30) dX12_readRow_29 rfl rfl (by decide) rfl ?_
  refine sm_aload_n (i := 0) (j := 1) (pc' := 31) dX12_readRow_30 rfl rfl rfl ?_
  refine sm_getI (k := 46) (pc' := 34) kX12 (by decide) mw778 dX12_readRow_31 rfl (fun x1 => ?_)
  refine sm_istore (i := 4) (lv' := [(4, vI x1), (3, vI s0), (0, vR (some a0)), (2, vI a2)]) (pc' := 36) dX12_readRow_34 rfl (by decide) rfl ?_
  refine sm_aload_n (i := 0) (j := 2) (pc' := 37) dX12_readRow_36 rfl rfl rfl ?_
  refine sm_getI (k := 45) (pc' := 40) kX12 (by decide) mw756 dX12_readRow_37 rfl (fun x2 => ?_)
  refine sm_if_ne (tgt := 64) (pc' := 43) dX12_readRow_40 (by decide) rfl ?_ ?_
  · refine sm_lo (lv' := [(0, vR (some a0)), (2, vI a2), (4, vI x1)]) [2, 3, 0] rfl ?_
    exact sX12_readRow_64 l D aC B  a0 a2 x1 h
  refine sm_aload_n (i := 0) (j := 2) (pc' := 44) dX12_readRow_43 rfl rfl rfl ?_
  refine sm_getR (k := 37) (pc' := 47) kX12 (by decide) mw687 dX12_readRow_44 rfl (fun x3 => ?_)
  refine sm_iload (i := 4) (j := 0) (pc' := 49) dX12_readRow_47 rfl rfl ?_
  refine sm_aload_n (i := 0) (j := 2) (pc' := 50) dX12_readRow_49 rfl rfl rfl ?_
  refine sm_iload_n (i := 3) (j := 1) (pc' := 51) dX12_readRow_50 rfl rfl rfl ?_
  refine sm_aload_n (i := 0) (j := 2) (pc' := 52) dX12_readRow_51 rfl rfl rfl ?_
  refine sm_getR (k := 36) (pc' := 55) kX12 (by decide) mw686 dX12_readRow_52 rfl (fun x4 => ?_)
  refine sm_bipush (v := (16 : Int32)) (pc' := 57) dX12_readRow_55 rfl (by decide) ?_
  refine sm_iload (i := 4) (j := 0) (pc' := 59) dX12_readRow_57 rfl rfl ?_
  refine sm_imul (pc' := 60) dX12_readRow_59 rfl ?_
  refine sm_cVI (pc' := 63) (ci := 12) (st := [vI x1, vR x3]) (F := fun b => fX12_readName b s0 x4 ((16 : Int32) * x1) h) [vI s0, vR x4, vI ((16 : Int32) * x1)] yY_yX12_readName rfl mw775 mw776 mw777 (fun b => mX12_readName l D aC B b s0 x4 ((16 : Int32) * x1) h) rfl (by decide) (by decide) (by exact Nat.le_of_ble_eq_true rfl) rfl dX12_readRow_60 rfl (fun x5 h6 => ?_)
  refine sm_iast (t := 0) (pc' := 64) rfl dX12_readRow_63 rfl (fun h7 => ?_)
  refine sm_lo (lv' := [(0, vR (some a0)), (2, vI a2), (4, vI x1)]) [2, 3, 0] rfl ?_
  exact sX12_readRow_64 l D aC B  a0 a2 x1 h7
noncomputable def fX12_readRow  (a0 : Nat) (a1 : Int32) (h : sm_H) : Option (Unit × sm_H) :=
  (sm_obj h (some a0) 12).bind fun b8 =>
  sm_cb (fX12_field b8 (48 : Int32) a1 h) fun x1 h2 =>
  (sm_I (sm_get h2 (some a0) 12 45)).bind fun x3 =>
  if x3 = 0 then (
    (sm_obj h2 (some a0) 12).bind fun b7 =>
    sm_cb (fX12_field b7 (6 : Int32) x1 h2) fun x5 h6 =>
    fX12_readRow_29 a0 x1 x5 h6
  ) else
  (sm_I (sm_get h2 (some a0) 12 44)).bind fun x4 =>
  fX12_readRow_29 a0 x1 x4 h2
set_option maxRecDepth 100000 in
set_option maxHeartbeats 4000000 in
theorem sX12_readRow_0 (l : Launch) (D : va_G) (aC : Nat → ClassId) (B : Nat)   (a0 : Nat) (a1 : Int32) (h : sm_H) : zS l D aC B cX12_readRow 5 RX12 3 79 none "readRow" vlU (fX12_readRow a0 a1 h) 0 [(0, vR (some a0)), (1, vI a1)] [] h := by
  unfold fX12_readRow
  refine sm_aload_n (i := 0) (j := 0) (pc' := 1) dX12_readRow_0 rfl rfl rfl ?_
  refine sm_bipush (v := (48 : Int32)) (pc' := 3) dX12_readRow_1 rfl (by decide) ?_
  refine sm_iload_n (i := 1) (j := 1) (pc' := 4) dX12_readRow_3 rfl rfl rfl ?_
  refine sm_cVI (pc' := 7) (ci := 12) (st := []) (F := fun b => fX12_field b (48 : Int32) a1 h) [vI (48 : Int32), vI a1] yY_yX12_field rfl mw767 mw771 mw772 (fun b => mX12_field l D aC B b (48 : Int32) a1 h) rfl (by decide) (by decide) (by exact Nat.le_of_ble_eq_true rfl) rfl dX12_readRow_4 rfl (fun x1 h2 => ?_)
  refine sm_istore_n (i := 2) (lv' := [(2, vI x1), (0, vR (some a0)), (1, vI a1)]) (pc' := 8) dX12_readRow_7 rfl rfl (by decide) rfl ?_
  refine sm_aload_n (i := 0) (j := 1) (pc' := 9) dX12_readRow_8 rfl rfl rfl ?_
  refine sm_getI (k := 45) (pc' := 12) kX12 (by decide) mw756 dX12_readRow_9 rfl (fun x3 => ?_)
  refine sm_if_ne (tgt := 25) (pc' := 15) dX12_readRow_12 (by decide) rfl ?_ ?_
  · refine sm_aload_n (i := 0) (j := 1) (pc' := 26) dX12_readRow_25 rfl rfl rfl ?_
    refine sm_getI (k := 44) (pc' := 29) kX12 (by decide) mw755 dX12_readRow_26 rfl (fun x4 => ?_)
    refine sm_lo (lv' := [(0, vR (some a0)), (2, vI x1)]) [1, 0] rfl ?_
    exact sX12_readRow_29 l D aC B  a0 x1 x4 h2
  refine sm_aload_n (i := 0) (j := 1) (pc' := 16) dX12_readRow_15 rfl rfl rfl ?_
  refine sm_bipush (v := (6 : Int32)) (pc' := 18) dX12_readRow_16 rfl (by decide) ?_
  refine sm_iload_n (i := 2) (j := 0) (pc' := 19) dX12_readRow_18 rfl rfl rfl ?_
  refine sm_cVI (pc' := 22) (ci := 12) (st := []) (F := fun b => fX12_field b (6 : Int32) x1 h2) [vI (6 : Int32), vI x1] yY_yX12_field rfl mw767 mw771 mw772 (fun b => mX12_field l D aC B b (6 : Int32) x1 h2) rfl (by decide) (by decide) (by exact Nat.le_of_ble_eq_true rfl) rfl dX12_readRow_19 rfl (fun x5 h6 => ?_)
  refine sm_goto (pc' := 29) dX12_readRow_22 (by decide) ?_
  refine sm_lo (lv' := [(0, vR (some a0)), (2, vI x1)]) [1, 0] rfl ?_
  exact sX12_readRow_29 l D aC B  a0 x1 x5 h6
set_option maxRecDepth 100000 in
theorem mX12_readRow (l : Launch) (D : va_G) (aC : Nat → ClassId) (B : Nat) (a0 : Nat) (a1 : Int32) (h : sm_H) : sm_M l D vwCl gAts aC B gTs gNs gOs yX12_readRow cX12_readRow 5 none 3 79 vlU [vR (some a0), vI a1] h (fX12_readRow a0 a1 h) := sm_meth [vR (some a0), vI a1] yY_yX12_readRow gG gN (Nat.le_of_ble_eq_true rfl) rfl (sX12_readRow_0 l D aC B a0 a1 h)
-- M:TreeAgentModel.readAll(I)V
noncomputable def fX12_readAll_456  (a0 : Nat) (a1 : Int32) (a2 : Int32) (a4 : Int32) (h : sm_H) : Option (Unit × sm_H) :=
  (sm_I (sm_get h (some a0) 12 45)).bind fun x1 =>
  if x1 = 0 then (
    (sm_I (sm_get h (some a0) 12 44)).bind fun x2 =>
    if x2 = a4 then (
      (sm_I (sm_get h (some a0) 12 44)).bind fun x4 =>
      if x4 = a2 then (
        (sm_I (sm_get h (some a0) 12 44)).bind fun x6 =>
        if x6 = a1 then (
          some ((), h)
        ) else
        (sm_put h (some a0) 12 45 (sm_v (vI (1 : Int32)))).bind fun h7 =>
        some ((), h7)
      ) else
      (sm_put h (some a0) 12 45 (sm_v (vI (1 : Int32)))).bind fun h5 =>
      some ((), h5)
    ) else
    (sm_put h (some a0) 12 45 (sm_v (vI (1 : Int32)))).bind fun h3 =>
    some ((), h3)
  ) else
  some ((), h)
set_option maxRecDepth 100000 in
set_option maxHeartbeats 4000000 in
theorem sX12_readAll_456 (l : Launch) (D : va_G) (aC : Nat → ClassId) (B : Nat)   (a0 : Nat) (a1 : Int32) (a2 : Int32) (a4 : Int32) (h : sm_H) : zS l D aC B cX12_readAll 6 RX12 4 103 none "readAll" vlU (fX12_readAll_456 a0 a1 a2 a4 h) 456 [(0, vR (some a0)), (1, vI a1), (2, vI a2), (4, vI a4)] [] h := by
  unfold fX12_readAll_456
  refine sm_aload_n (i := 0) (j := 0) (pc' := 457) dX12_readAll_456 rfl rfl rfl ?_
  refine sm_getI (k := 45) (pc' := 460) kX12 (by decide) mw756 dX12_readAll_457 rfl (fun x1 => ?_)
  refine sm_if_ne (tgt := 493) (pc' := 463) dX12_readAll_460 (by decide) rfl ?_ ?_
  · exact sm_vret rfl dX12_readAll_493
  refine sm_aload_n (i := 0) (j := 0) (pc' := 464) dX12_readAll_463 rfl rfl rfl ?_
  refine sm_getI (k := 44) (pc' := 467) kX12 (by decide) mw755 dX12_readAll_464 rfl (fun x2 => ?_)
  refine sm_iload (i := 4) (j := 3) (pc' := 469) dX12_readAll_467 rfl rfl ?_
  refine sm_icmp_ne (tgt := 488) (pc' := 472) dX12_readAll_469 (by decide) rfl ?_ ?_
  · refine sm_aload_n (i := 0) (j := 0) (pc' := 489) dX12_readAll_488 rfl rfl rfl ?_
    refine sm_iconst (v := (1 : Int32)) (pc' := 490) dX12_readAll_489 rfl (by decide) ?_
    refine sm_putI (k := 45) (pc' := 493) kX12 (by decide) mw756 rfl rfl dX12_readAll_490 rfl (fun h3 => ?_)
    exact sm_vret rfl dX12_readAll_493
  refine sm_aload_n (i := 0) (j := 0) (pc' := 473) dX12_readAll_472 rfl rfl rfl ?_
  refine sm_getI (k := 44) (pc' := 476) kX12 (by decide) mw755 dX12_readAll_473 rfl (fun x4 => ?_)
  refine sm_iload_n (i := 2) (j := 2) (pc' := 477) dX12_readAll_476 rfl rfl rfl ?_
  refine sm_icmp_ne (tgt := 488) (pc' := 480) dX12_readAll_477 (by decide) rfl ?_ ?_
  · refine sm_aload_n (i := 0) (j := 0) (pc' := 489) dX12_readAll_488 rfl rfl rfl ?_
    refine sm_iconst (v := (1 : Int32)) (pc' := 490) dX12_readAll_489 rfl (by decide) ?_
    refine sm_putI (k := 45) (pc' := 493) kX12 (by decide) mw756 rfl rfl dX12_readAll_490 rfl (fun h5 => ?_)
    exact sm_vret rfl dX12_readAll_493
  refine sm_aload_n (i := 0) (j := 0) (pc' := 481) dX12_readAll_480 rfl rfl rfl ?_
  refine sm_getI (k := 44) (pc' := 484) kX12 (by decide) mw755 dX12_readAll_481 rfl (fun x6 => ?_)
  refine sm_iload_n (i := 1) (j := 1) (pc' := 485) dX12_readAll_484 rfl rfl rfl ?_
  refine sm_icmp_eq (tgt := 493) (pc' := 488) dX12_readAll_485 (by decide) rfl ?_ ?_
  · exact sm_vret rfl dX12_readAll_493
  refine sm_aload_n (i := 0) (j := 0) (pc' := 489) dX12_readAll_488 rfl rfl rfl ?_
  refine sm_iconst (v := (1 : Int32)) (pc' := 490) dX12_readAll_489 rfl (by decide) ?_
  refine sm_putI (k := 45) (pc' := 493) kX12 (by decide) mw756 rfl rfl dX12_readAll_490 rfl (fun h7 => ?_)
  exact sm_vret rfl dX12_readAll_493
noncomputable def fX12_readAll_414  : Nat → Nat → Int32 → Int32 → Int32 → Int32 → sm_H → Option (Unit × sm_H)
  | 0 => fun _ _ _ _ _ _ => none
  | n + 1 => fun a0 a1 a2 a4 a5 h =>
    (sm_I (sm_get h (some a0) 12 45)).bind fun x1 =>
    if x1 = 0 then (
      (sm_I (sm_get h (some a0) 12 44)).bind fun x2 =>
      if a5 ≤ x2 then (
        fX12_readAll_456 a0 a1 a2 a4 h
      ) else
      (sm_I (sm_get h (some a0) 12 46)).bind fun x3 =>
      if x3 = (20 : Int32) then (
        (sm_put h (some a0) 12 45 (sm_v (vI (1 : Int32)))).bind fun h6 =>
        (fX12_readAll_414 n) a0 a1 a2 a4 a5 h6
      ) else
      (sm_obj h (some a0) 12).bind fun b5 =>
      sm_cb (fX12_readRow b5 a5 h) fun _ h4 =>
      (fX12_readAll_414 n) a0 a1 a2 a4 a5 h4
    ) else
    fX12_readAll_456 a0 a1 a2 a4 h
set_option maxRecDepth 100000 in
set_option maxHeartbeats 4000000 in
theorem sX12_readAll_414 (l : Launch) (D : va_G) (aC : Nat → ClassId) (B : Nat)   (n : Nat) : ∀ (a0 : Nat) (a1 : Int32) (a2 : Int32) (a4 : Int32) (a5 : Int32) (h : sm_H), zS l D aC B cX12_readAll 6 RX12 4 103 none "readAll" vlU (fX12_readAll_414 n a0 a1 a2 a4 a5 h) 414 [(0, vR (some a0)), (1, vI a1), (2, vI a2), (4, vI a4), (5, vI a5)] [] h := by
  induction n with
  | zero => intro a0 a1 a2 a4 a5 h; exact sm_none
  | succ n ih =>
    intro a0 a1 a2 a4 a5 h
    show zS l D aC B cX12_readAll 6 RX12 4 103 none "readAll" vlU (fX12_readAll_414 (n + 1) a0 a1 a2 a4 a5 h) 414 [(0, vR (some a0)), (1, vI a1), (2, vI a2), (4, vI a4), (5, vI a5)] [] h
    unfold fX12_readAll_414
    refine sm_aload_n (i := 0) (j := 0) (pc' := 415) dX12_readAll_414 rfl rfl rfl ?_
    refine sm_getI (k := 45) (pc' := 418) kX12 (by decide) mw756 dX12_readAll_415 rfl (fun x1 => ?_)
    refine sm_if_ne (tgt := 456) (pc' := 421) dX12_readAll_418 (by decide) rfl ?_ ?_
    · refine sm_lo (lv' := [(0, vR (some a0)), (1, vI a1), (2, vI a2), (4, vI a4)]) [0, 1, 2, 3] rfl ?_
      exact sX12_readAll_456 l D aC B  a0 a1 a2 a4 h
    refine sm_aload_n (i := 0) (j := 0) (pc' := 422) dX12_readAll_421 rfl rfl rfl ?_
    refine sm_getI (k := 44) (pc' := 425) kX12 (by decide) mw755 dX12_readAll_422 rfl (fun x2 => ?_)
    refine sm_iload (i := 5) (j := 4) (pc' := 427) dX12_readAll_425 rfl rfl ?_
    refine sm_icmp_ge (tgt := 456) (pc' := 430) dX12_readAll_427 (by decide) rfl ?_ ?_
    · refine sm_lo (lv' := [(0, vR (some a0)), (1, vI a1), (2, vI a2), (4, vI a4)]) [0, 1, 2, 3] rfl ?_
      exact sX12_readAll_456 l D aC B  a0 a1 a2 a4 h
    refine sm_aload_n (i := 0) (j := 0) (pc' := 431) dX12_readAll_430 rfl rfl rfl ?_
    refine sm_getI (k := 46) (pc' := 434) kX12 (by decide) mw778 dX12_readAll_431 rfl (fun x3 => ?_)
    refine sm_bipush (v := (20 : Int32)) (pc' := 436) dX12_readAll_434 rfl (by decide) ?_
    refine sm_icmp_ne (tgt := 447) (pc' := 439) dX12_readAll_436 (by decide) rfl ?_ ?_
    · refine sm_aload_n (i := 0) (j := 0) (pc' := 448) dX12_readAll_447 rfl rfl rfl ?_
      refine sm_iload (i := 5) (j := 4) (pc' := 450) dX12_readAll_448 rfl rfl ?_
      refine sm_cVU (pc' := 453) (ci := 12) (st := []) (F := fun b => fX12_readRow b a5 h) [vI a5] yY_yX12_readRow rfl mw782 mw783 mw784 (fun b => mX12_readRow l D aC B b a5 h) rfl (by decide) (by decide) (by exact Nat.le_of_ble_eq_true rfl) rfl dX12_readAll_450 rfl (fun _ h4 => ?_)
      refine sm_goto (pc' := 414) dX12_readAll_453 (by decide) ?_
      exact ih a0 a1 a2 a4 a5 h4
    refine sm_aload_n (i := 0) (j := 0) (pc' := 440) dX12_readAll_439 rfl rfl rfl ?_
    refine sm_iconst (v := (1 : Int32)) (pc' := 441) dX12_readAll_440 rfl (by decide) ?_
    refine sm_putI (k := 45) (pc' := 444) kX12 (by decide) mw756 rfl rfl dX12_readAll_441 rfl (fun h6 => ?_)
    refine sm_goto (pc' := 414) dX12_readAll_444 (by decide) ?_
    exact ih a0 a1 a2 a4 a5 h6
noncomputable def fX12_readAll_387  (a0 : Nat) (a1 : Int32) (a2 : Int32) (a4 : Int32) (s0 : Int32) (h : sm_H) : Option (Unit × sm_H) :=
  (sm_I (sm_get h (some a0) 12 45)).bind fun x1 =>
  if x1 = 0 then (
    if s0 = a1 then (
      (sm_I (sm_get h (some a0) 12 45)).bind fun x4 =>
      (sm_put h (some a0) 12 45 (sm_v (vI x4))).bind fun h5 =>
      fX12_readAll_414 sm_fuel a0 a1 a2 a4 s0 h5
    ) else
    (sm_put h (some a0) 12 45 (sm_v (vI (1 : Int32)))).bind fun h6 =>
    fX12_readAll_414 sm_fuel a0 a1 a2 a4 s0 h6
  ) else
  (sm_I (sm_get h (some a0) 12 45)).bind fun x2 =>
  (sm_put h (some a0) 12 45 (sm_v (vI x2))).bind fun h3 =>
  fX12_readAll_414 sm_fuel a0 a1 a2 a4 s0 h3
set_option maxRecDepth 100000 in
set_option maxHeartbeats 4000000 in
theorem sX12_readAll_387 (l : Launch) (D : va_G) (aC : Nat → ClassId) (B : Nat)   (a0 : Nat) (a1 : Int32) (a2 : Int32) (a4 : Int32) (s0 : Int32) (h : sm_H) : zS l D aC B cX12_readAll 6 RX12 4 103 none "readAll" vlU (fX12_readAll_387 a0 a1 a2 a4 s0 h) 387 [(0, vR (some a0)), (1, vI a1), (2, vI a2), (4, vI a4)] [vI s0] h := by
  unfold fX12_readAll_387
  refine sm_istore (i := 5) (lv' := [(5, vI s0), (0, vR (some a0)), (1, vI a1), (2, vI a2), (4, vI a4)]) (pc' := 389) dX12_readAll_387 rfl (by decide) rfl ?_
  refine sm_aload_n (i := 0) (j := 1) (pc' := 390) dX12_readAll_389 rfl rfl rfl ?_
  refine sm_aload_n (i := 0) (j := 1) (pc' := 391) dX12_readAll_390 rfl rfl rfl ?_
  refine sm_getI (k := 45) (pc' := 394) kX12 (by decide) mw756 dX12_readAll_391 rfl (fun x1 => ?_)
  refine sm_if_ne (tgt := 407) (pc' := 397) dX12_readAll_394 (by decide) rfl ?_ ?_
  · refine sm_aload_n (i := 0) (j := 1) (pc' := 408) dX12_readAll_407 rfl rfl rfl ?_
    refine sm_getI (k := 45) (pc' := 411) kX12 (by decide) mw756 dX12_readAll_408 rfl (fun x2 => ?_)
    refine sm_putI (k := 45) (pc' := 414) kX12 (by decide) mw756 rfl rfl dX12_readAll_411 rfl (fun h3 => ?_)
    refine sm_lo (lv' := [(0, vR (some a0)), (1, vI a1), (2, vI a2), (4, vI a4), (5, vI s0)]) [1, 2, 3, 4, 0] rfl ?_
    exact sX12_readAll_414 l D aC B   sm_fuel a0 a1 a2 a4 s0 h3
  refine sm_iload (i := 5) (j := 0) (pc' := 399) dX12_readAll_397 rfl rfl ?_
  refine sm_iload_n (i := 1) (j := 2) (pc' := 400) dX12_readAll_399 rfl rfl rfl ?_
  refine sm_icmp_eq (tgt := 407) (pc' := 403) dX12_readAll_400 (by decide) rfl ?_ ?_
  · refine sm_aload_n (i := 0) (j := 1) (pc' := 408) dX12_readAll_407 rfl rfl rfl ?_
    refine sm_getI (k := 45) (pc' := 411) kX12 (by decide) mw756 dX12_readAll_408 rfl (fun x4 => ?_)
    refine sm_putI (k := 45) (pc' := 414) kX12 (by decide) mw756 rfl rfl dX12_readAll_411 rfl (fun h5 => ?_)
    refine sm_lo (lv' := [(0, vR (some a0)), (1, vI a1), (2, vI a2), (4, vI a4), (5, vI s0)]) [1, 2, 3, 4, 0] rfl ?_
    exact sX12_readAll_414 l D aC B   sm_fuel a0 a1 a2 a4 s0 h5
  refine sm_iconst (v := (1 : Int32)) (pc' := 404) dX12_readAll_403 rfl (by decide) ?_
  refine sm_goto (pc' := 411) dX12_readAll_404 (by decide) ?_
  refine sm_putI (k := 45) (pc' := 414) kX12 (by decide) mw756 rfl rfl dX12_readAll_411 rfl (fun h6 => ?_)
  refine sm_lo (lv' := [(0, vR (some a0)), (1, vI a1), (2, vI a2), (4, vI a4), (5, vI s0)]) [1, 2, 3, 4, 0] rfl ?_
  exact sX12_readAll_414 l D aC B   sm_fuel a0 a1 a2 a4 s0 h6
noncomputable def fX12_readAll_362  (a0 : Nat) (a1 : Int32) (a2 : Int32) (a4 : Int32) (s0 : Int32) (s1 : Option Nat) (h : sm_H) : Option (Unit × sm_H) :=
  (sm_put h s1 12 55 (sm_v (vI s0))).bind fun h1 =>
  (sm_I (sm_get h1 (some a0) 12 45)).bind fun x2 =>
  if x2 = 0 then (
    (sm_obj h1 (some a0) 12).bind fun b6 =>
    sm_cb (fX12_field b6 (48 : Int32) a4 h1) fun x4 h5 =>
    fX12_readAll_387 a0 a1 a2 a4 x4 h5
  ) else
  (sm_I (sm_get h1 (some a0) 12 44)).bind fun x3 =>
  fX12_readAll_387 a0 a1 a2 a4 x3 h1
set_option maxRecDepth 100000 in
set_option maxHeartbeats 4000000 in
theorem sX12_readAll_362 (l : Launch) (D : va_G) (aC : Nat → ClassId) (B : Nat)   (a0 : Nat) (a1 : Int32) (a2 : Int32) (a4 : Int32) (s0 : Int32) (s1 : Option Nat) (h : sm_H) : zS l D aC B cX12_readAll 6 RX12 4 103 none "readAll" vlU (fX12_readAll_362 a0 a1 a2 a4 s0 s1 h) 362 [(0, vR (some a0)), (1, vI a1), (2, vI a2), (4, vI a4)] [vI s0, vR s1] h := by
  unfold fX12_readAll_362
  refine sm_putI (k := 55) (pc' := 365) kX12 (by decide) mw785 rfl rfl dX12_readAll_362 rfl (fun h1 => ?_)
  refine sm_aload_n (i := 0) (j := 0) (pc' := 366) dX12_readAll_365 rfl rfl rfl ?_
  refine sm_getI (k := 45) (pc' := 369) kX12 (by decide) mw756 dX12_readAll_366 rfl (fun x2 => ?_)
  refine sm_if_ne (tgt := 383) (pc' := 372) dX12_readAll_369 (by decide) rfl ?_ ?_
  · refine sm_aload_n (i := 0) (j := 0) (pc' := 384) dX12_readAll_383 rfl rfl rfl ?_
    refine sm_getI (k := 44) (pc' := 387) kX12 (by decide) mw755 dX12_readAll_384 rfl (fun x3 => ?_)
    exact sX12_readAll_387 l D aC B  a0 a1 a2 a4 x3 h1
  refine sm_aload_n (i := 0) (j := 0) (pc' := 373) dX12_readAll_372 rfl rfl rfl ?_
  refine sm_bipush (v := (48 : Int32)) (pc' := 375) dX12_readAll_373 rfl (by decide) ?_
  refine sm_iload (i := 4) (j := 3) (pc' := 377) dX12_readAll_375 rfl rfl ?_
  refine sm_cVI (pc' := 380) (ci := 12) (st := []) (F := fun b => fX12_field b (48 : Int32) a4 h1) [vI (48 : Int32), vI a4] yY_yX12_field rfl mw767 mw771 mw772 (fun b => mX12_field l D aC B b (48 : Int32) a4 h1) rfl (by decide) (by decide) (by exact Nat.le_of_ble_eq_true rfl) rfl dX12_readAll_377 rfl (fun x4 h5 => ?_)
  refine sm_goto (pc' := 387) dX12_readAll_380 (by decide) ?_
  exact sX12_readAll_387 l D aC B  a0 a1 a2 a4 x4 h5
noncomputable def fX12_readAll_341  (a0 : Nat) (a1 : Int32) (a2 : Int32) (a4 : Int32) (s0 : Int32) (s1 : Option Nat) (h : sm_H) : Option (Unit × sm_H) :=
  (sm_put h s1 12 54 (sm_v (vI s0))).bind fun h1 =>
  (sm_I (sm_get h1 (some a0) 12 45)).bind fun x2 =>
  if x2 = 0 then (
    (sm_obj h1 (some a0) 12).bind fun b5 =>
    sm_cb (fX12_integer b5 a4 h1) fun x3 h4 =>
    fX12_readAll_362 a0 a1 a2 a4 x3 (some a0) h4
  ) else
  fX12_readAll_362 a0 a1 a2 a4 (0 : Int32) (some a0) h1
set_option maxRecDepth 100000 in
set_option maxHeartbeats 4000000 in
theorem sX12_readAll_341 (l : Launch) (D : va_G) (aC : Nat → ClassId) (B : Nat)   (a0 : Nat) (a1 : Int32) (a2 : Int32) (a4 : Int32) (s0 : Int32) (s1 : Option Nat) (h : sm_H) : zS l D aC B cX12_readAll 6 RX12 4 103 none "readAll" vlU (fX12_readAll_341 a0 a1 a2 a4 s0 s1 h) 341 [(0, vR (some a0)), (1, vI a1), (2, vI a2), (4, vI a4)] [vI s0, vR s1] h := by
  unfold fX12_readAll_341
  refine sm_putI (k := 54) (pc' := 344) kX12 (by decide) mw786 rfl rfl dX12_readAll_341 rfl (fun h1 => ?_)
  refine sm_aload_n (i := 0) (j := 0) (pc' := 345) dX12_readAll_344 rfl rfl rfl ?_
  refine sm_aload_n (i := 0) (j := 0) (pc' := 346) dX12_readAll_345 rfl rfl rfl ?_
  refine sm_getI (k := 45) (pc' := 349) kX12 (by decide) mw756 dX12_readAll_346 rfl (fun x2 => ?_)
  refine sm_if_ne (tgt := 361) (pc' := 352) dX12_readAll_349 (by decide) rfl ?_ ?_
  · refine sm_iconst (v := (0 : Int32)) (pc' := 362) dX12_readAll_361 rfl (by decide) ?_
    exact sX12_readAll_362 l D aC B  a0 a1 a2 a4 (0 : Int32) (some a0) h1
  refine sm_aload_n (i := 0) (j := 0) (pc' := 353) dX12_readAll_352 rfl rfl rfl ?_
  refine sm_iload (i := 4) (j := 3) (pc' := 355) dX12_readAll_353 rfl rfl ?_
  refine sm_cVI (pc' := 358) (ci := 12) (st := [vR (some a0)]) (F := fun b => fX12_integer b a4 h1) [vI a4] yY_yX12_integer rfl mw787 mw788 mw789 (fun b => mX12_integer l D aC B b a4 h1) rfl (by decide) (by decide) (by exact Nat.le_of_ble_eq_true rfl) rfl dX12_readAll_355 rfl (fun x3 h4 => ?_)
  refine sm_goto (pc' := 362) dX12_readAll_358 (by decide) ?_
  exact sX12_readAll_362 l D aC B  a0 a1 a2 a4 x3 (some a0) h4
noncomputable def fX12_readAll_320  (a0 : Nat) (a1 : Int32) (a2 : Int32) (a4 : Int32) (s0 : Int32) (s1 : Option Nat) (h : sm_H) : Option (Unit × sm_H) :=
  (sm_put h s1 12 53 (sm_v (vI s0))).bind fun h1 =>
  (sm_I (sm_get h1 (some a0) 12 45)).bind fun x2 =>
  if x2 = 0 then (
    (sm_obj h1 (some a0) 12).bind fun b5 =>
    sm_cb (fX12_integer b5 a4 h1) fun x3 h4 =>
    fX12_readAll_341 a0 a1 a2 a4 x3 (some a0) h4
  ) else
  fX12_readAll_341 a0 a1 a2 a4 (0 : Int32) (some a0) h1
set_option maxRecDepth 100000 in
set_option maxHeartbeats 4000000 in
theorem sX12_readAll_320 (l : Launch) (D : va_G) (aC : Nat → ClassId) (B : Nat)   (a0 : Nat) (a1 : Int32) (a2 : Int32) (a4 : Int32) (s0 : Int32) (s1 : Option Nat) (h : sm_H) : zS l D aC B cX12_readAll 6 RX12 4 103 none "readAll" vlU (fX12_readAll_320 a0 a1 a2 a4 s0 s1 h) 320 [(0, vR (some a0)), (1, vI a1), (2, vI a2), (4, vI a4)] [vI s0, vR s1] h := by
  unfold fX12_readAll_320
  refine sm_putI (k := 53) (pc' := 323) kX12 (by decide) mw790 rfl rfl dX12_readAll_320 rfl (fun h1 => ?_)
  refine sm_aload_n (i := 0) (j := 0) (pc' := 324) dX12_readAll_323 rfl rfl rfl ?_
  refine sm_aload_n (i := 0) (j := 0) (pc' := 325) dX12_readAll_324 rfl rfl rfl ?_
  refine sm_getI (k := 45) (pc' := 328) kX12 (by decide) mw756 dX12_readAll_325 rfl (fun x2 => ?_)
  refine sm_if_ne (tgt := 340) (pc' := 331) dX12_readAll_328 (by decide) rfl ?_ ?_
  · refine sm_iconst (v := (0 : Int32)) (pc' := 341) dX12_readAll_340 rfl (by decide) ?_
    exact sX12_readAll_341 l D aC B  a0 a1 a2 a4 (0 : Int32) (some a0) h1
  refine sm_aload_n (i := 0) (j := 0) (pc' := 332) dX12_readAll_331 rfl rfl rfl ?_
  refine sm_iload (i := 4) (j := 3) (pc' := 334) dX12_readAll_332 rfl rfl ?_
  refine sm_cVI (pc' := 337) (ci := 12) (st := [vR (some a0)]) (F := fun b => fX12_integer b a4 h1) [vI a4] yY_yX12_integer rfl mw787 mw788 mw789 (fun b => mX12_integer l D aC B b a4 h1) rfl (by decide) (by decide) (by exact Nat.le_of_ble_eq_true rfl) rfl dX12_readAll_334 rfl (fun x3 h4 => ?_)
  refine sm_goto (pc' := 341) dX12_readAll_337 (by decide) ?_
  exact sX12_readAll_341 l D aC B  a0 a1 a2 a4 x3 (some a0) h4
noncomputable def fX12_readAll_299  (a0 : Nat) (a1 : Int32) (a2 : Int32) (a4 : Int32) (s0 : Int32) (s1 : Option Nat) (h : sm_H) : Option (Unit × sm_H) :=
  (sm_put h s1 12 45 (sm_v (vI s0))).bind fun h1 =>
  (sm_I (sm_get h1 (some a0) 12 45)).bind fun x2 =>
  if x2 = 0 then (
    (sm_obj h1 (some a0) 12).bind fun b5 =>
    sm_cb (fX12_integer b5 a4 h1) fun x3 h4 =>
    fX12_readAll_320 a0 a1 a2 a4 x3 (some a0) h4
  ) else
  fX12_readAll_320 a0 a1 a2 a4 (0 : Int32) (some a0) h1
set_option maxRecDepth 100000 in
set_option maxHeartbeats 4000000 in
theorem sX12_readAll_299 (l : Launch) (D : va_G) (aC : Nat → ClassId) (B : Nat)   (a0 : Nat) (a1 : Int32) (a2 : Int32) (a4 : Int32) (s0 : Int32) (s1 : Option Nat) (h : sm_H) : zS l D aC B cX12_readAll 6 RX12 4 103 none "readAll" vlU (fX12_readAll_299 a0 a1 a2 a4 s0 s1 h) 299 [(0, vR (some a0)), (1, vI a1), (2, vI a2), (4, vI a4)] [vI s0, vR s1] h := by
  unfold fX12_readAll_299
  refine sm_putI (k := 45) (pc' := 302) kX12 (by decide) mw756 rfl rfl dX12_readAll_299 rfl (fun h1 => ?_)
  refine sm_aload_n (i := 0) (j := 0) (pc' := 303) dX12_readAll_302 rfl rfl rfl ?_
  refine sm_aload_n (i := 0) (j := 0) (pc' := 304) dX12_readAll_303 rfl rfl rfl ?_
  refine sm_getI (k := 45) (pc' := 307) kX12 (by decide) mw756 dX12_readAll_304 rfl (fun x2 => ?_)
  refine sm_if_ne (tgt := 319) (pc' := 310) dX12_readAll_307 (by decide) rfl ?_ ?_
  · refine sm_iconst (v := (0 : Int32)) (pc' := 320) dX12_readAll_319 rfl (by decide) ?_
    exact sX12_readAll_320 l D aC B  a0 a1 a2 a4 (0 : Int32) (some a0) h1
  refine sm_aload_n (i := 0) (j := 0) (pc' := 311) dX12_readAll_310 rfl rfl rfl ?_
  refine sm_iload (i := 4) (j := 3) (pc' := 313) dX12_readAll_311 rfl rfl ?_
  refine sm_cVI (pc' := 316) (ci := 12) (st := [vR (some a0)]) (F := fun b => fX12_integer b a4 h1) [vI a4] yY_yX12_integer rfl mw787 mw788 mw789 (fun b => mX12_integer l D aC B b a4 h1) rfl (by decide) (by decide) (by exact Nat.le_of_ble_eq_true rfl) rfl dX12_readAll_313 rfl (fun x3 h4 => ?_)
  refine sm_goto (pc' := 320) dX12_readAll_316 (by decide) ?_
  exact sX12_readAll_320 l D aC B  a0 a1 a2 a4 x3 (some a0) h4
noncomputable def fX12_readAll_275  (a0 : Nat) (a1 : Int32) (a2 : Int32) (s0 : Int32) (h : sm_H) : Option (Unit × sm_H) :=
  (sm_I (sm_get h (some a0) 12 45)).bind fun x1 =>
  if x1 = 0 then (
    if s0 = a1 then (
      (sm_I (sm_get h (some a0) 12 45)).bind fun x3 =>
      fX12_readAll_299 a0 a1 a2 s0 x3 (some a0) h
    ) else
    fX12_readAll_299 a0 a1 a2 s0 (1 : Int32) (some a0) h
  ) else
  (sm_I (sm_get h (some a0) 12 45)).bind fun x2 =>
  fX12_readAll_299 a0 a1 a2 s0 x2 (some a0) h
set_option maxRecDepth 100000 in
set_option maxHeartbeats 4000000 in
theorem sX12_readAll_275 (l : Launch) (D : va_G) (aC : Nat → ClassId) (B : Nat)   (a0 : Nat) (a1 : Int32) (a2 : Int32) (s0 : Int32) (h : sm_H) : zS l D aC B cX12_readAll 6 RX12 4 103 none "readAll" vlU (fX12_readAll_275 a0 a1 a2 s0 h) 275 [(0, vR (some a0)), (1, vI a1), (2, vI a2)] [vI s0] h := by
  unfold fX12_readAll_275
  refine sm_istore (i := 4) (lv' := [(4, vI s0), (0, vR (some a0)), (1, vI a1), (2, vI a2)]) (pc' := 277) dX12_readAll_275 rfl (by decide) rfl ?_
  refine sm_aload_n (i := 0) (j := 1) (pc' := 278) dX12_readAll_277 rfl rfl rfl ?_
  refine sm_aload_n (i := 0) (j := 1) (pc' := 279) dX12_readAll_278 rfl rfl rfl ?_
  refine sm_getI (k := 45) (pc' := 282) kX12 (by decide) mw756 dX12_readAll_279 rfl (fun x1 => ?_)
  refine sm_if_ne (tgt := 295) (pc' := 285) dX12_readAll_282 (by decide) rfl ?_ ?_
  · refine sm_aload_n (i := 0) (j := 1) (pc' := 296) dX12_readAll_295 rfl rfl rfl ?_
    refine sm_getI (k := 45) (pc' := 299) kX12 (by decide) mw756 dX12_readAll_296 rfl (fun x2 => ?_)
    refine sm_lo (lv' := [(0, vR (some a0)), (1, vI a1), (2, vI a2), (4, vI s0)]) [1, 2, 3, 0] rfl ?_
    exact sX12_readAll_299 l D aC B  a0 a1 a2 s0 x2 (some a0) h
  refine sm_iload (i := 4) (j := 0) (pc' := 287) dX12_readAll_285 rfl rfl ?_
  refine sm_iload_n (i := 1) (j := 2) (pc' := 288) dX12_readAll_287 rfl rfl rfl ?_
  refine sm_icmp_eq (tgt := 295) (pc' := 291) dX12_readAll_288 (by decide) rfl ?_ ?_
  · refine sm_aload_n (i := 0) (j := 1) (pc' := 296) dX12_readAll_295 rfl rfl rfl ?_
    refine sm_getI (k := 45) (pc' := 299) kX12 (by decide) mw756 dX12_readAll_296 rfl (fun x3 => ?_)
    refine sm_lo (lv' := [(0, vR (some a0)), (1, vI a1), (2, vI a2), (4, vI s0)]) [1, 2, 3, 0] rfl ?_
    exact sX12_readAll_299 l D aC B  a0 a1 a2 s0 x3 (some a0) h
  refine sm_iconst (v := (1 : Int32)) (pc' := 292) dX12_readAll_291 rfl (by decide) ?_
  refine sm_goto (pc' := 299) dX12_readAll_292 (by decide) ?_
  refine sm_lo (lv' := [(0, vR (some a0)), (1, vI a1), (2, vI a2), (4, vI s0)]) [1, 2, 3, 0] rfl ?_
  exact sX12_readAll_299 l D aC B  a0 a1 a2 s0 (1 : Int32) (some a0) h
noncomputable def fX12_readAll_256  (a0 : Nat) (a1 : Int32) (a2 : Int32) (h : sm_H) : Option (Unit × sm_H) :=
  (sm_I (sm_get h (some a0) 12 45)).bind fun x1 =>
  if x1 = 0 then (
    (sm_obj h (some a0) 12).bind fun b5 =>
    sm_cb (fX12_size b5 a2 h) fun x3 h4 =>
    fX12_readAll_275 a0 a1 a2 x3 h4
  ) else
  (sm_I (sm_get h (some a0) 12 44)).bind fun x2 =>
  fX12_readAll_275 a0 a1 a2 x2 h
set_option maxRecDepth 100000 in
set_option maxHeartbeats 4000000 in
theorem sX12_readAll_256 (l : Launch) (D : va_G) (aC : Nat → ClassId) (B : Nat)   (a0 : Nat) (a1 : Int32) (a2 : Int32) (h : sm_H) : zS l D aC B cX12_readAll 6 RX12 4 103 none "readAll" vlU (fX12_readAll_256 a0 a1 a2 h) 256 [(0, vR (some a0)), (1, vI a1), (2, vI a2)] [] h := by
  unfold fX12_readAll_256
  refine sm_aload_n (i := 0) (j := 0) (pc' := 257) dX12_readAll_256 rfl rfl rfl ?_
  refine sm_getI (k := 45) (pc' := 260) kX12 (by decide) mw756 dX12_readAll_257 rfl (fun x1 => ?_)
  refine sm_if_ne (tgt := 271) (pc' := 263) dX12_readAll_260 (by decide) rfl ?_ ?_
  · refine sm_aload_n (i := 0) (j := 0) (pc' := 272) dX12_readAll_271 rfl rfl rfl ?_
    refine sm_getI (k := 44) (pc' := 275) kX12 (by decide) mw755 dX12_readAll_272 rfl (fun x2 => ?_)
    exact sX12_readAll_275 l D aC B  a0 a1 a2 x2 h
  refine sm_aload_n (i := 0) (j := 0) (pc' := 264) dX12_readAll_263 rfl rfl rfl ?_
  refine sm_iload_n (i := 2) (j := 2) (pc' := 265) dX12_readAll_264 rfl rfl rfl ?_
  refine sm_cVI (pc' := 268) (ci := 12) (st := []) (F := fun b => fX12_size b a2 h) [vI a2] yY_yX12_size rfl mw762 mw763 mw764 (fun b => mX12_size l D aC B b a2 h) rfl (by decide) (by decide) (by exact Nat.le_of_ble_eq_true rfl) rfl dX12_readAll_265 rfl (fun x3 h4 => ?_)
  refine sm_goto (pc' := 275) dX12_readAll_268 (by decide) ?_
  exact sX12_readAll_275 l D aC B  a0 a1 a2 x3 h4
noncomputable def fX12_readAll_141  (a0 : Nat) (a1 : Int32) (a2 : Int32) (a3 : Int32) (h : sm_H) : Option (Unit × sm_H) :=
  (sm_I (sm_get h (some a0) 12 45)).bind fun x1 =>
  if x1 = 0 then (
    (sm_put h (some a0) 12 44 (sm_v (vI a3))).bind fun h2 =>
    (sm_R (sm_get h2 (some a0) 12 1)).bind fun x3 =>
    (sm_I (sm_get h2 (some a0) 12 50)).bind fun x4 =>
    (sm_I (sm_get h2 (some a0) 12 51)).bind fun x5 =>
    (sm_obj h2 (some a0) 12).bind fun b23 =>
    sm_cb (fX12_communityOf b23 x3 x4 x5 h2) fun x6 h7 =>
    (sm_put h7 (some a0) 12 49 (sm_v (vI x6))).bind fun h8 =>
    (sm_I (sm_get h8 (some a0) 12 49)).bind fun x9 =>
    if 0 ≤ x9 then (
      (sm_obj h8 (some a0) 12).bind fun b21 =>
      sm_cb (fX12_octet b21 a2 h8) fun x10 h11 =>
      (sm_put h11 (some a0) 12 52 (sm_v (vI x10))).bind fun h12 =>
      (sm_I (sm_get h12 (some a0) 12 45)).bind fun x13 =>
      if x13 = 0 then (
        (sm_I (sm_get h12 (some a0) 12 52)).bind fun x14 =>
        if x14 = (160 : Int32) then (
          fX12_readAll_256 a0 a1 a2 h12
        ) else
        (sm_I (sm_get h12 (some a0) 12 52)).bind fun x15 =>
        if x15 = (161 : Int32) then (
          fX12_readAll_256 a0 a1 a2 h12
        ) else
        (sm_I (sm_get h12 (some a0) 12 52)).bind fun x16 =>
        if x16 = (163 : Int32) then (
          fX12_readAll_256 a0 a1 a2 h12
        ) else
        (sm_I (sm_get h12 (some a0) 12 52)).bind fun x17 =>
        if x17 = (165 : Int32) then (
          (sm_I (sm_get h12 (some a0) 12 48)).bind fun x19 =>
          if x19 = (1 : Int32) then (
            fX12_readAll_256 a0 a1 a2 h12
          ) else
          (sm_put h12 (some a0) 12 45 (sm_v (vI (1 : Int32)))).bind fun h20 =>
          fX12_readAll_256 a0 a1 a2 h20
        ) else
        (sm_put h12 (some a0) 12 45 (sm_v (vI (1 : Int32)))).bind fun h18 =>
        fX12_readAll_256 a0 a1 a2 h18
      ) else
      fX12_readAll_256 a0 a1 a2 h12
    ) else
    (sm_put h8 (some a0) 12 45 (sm_v (vI (3 : Int32)))).bind fun h22 =>
    some ((), h22)
  ) else
  some ((), h)
set_option maxRecDepth 100000 in
set_option maxHeartbeats 4000000 in
theorem sX12_readAll_141 (l : Launch) (D : va_G) (aC : Nat → ClassId) (B : Nat)   (a0 : Nat) (a1 : Int32) (a2 : Int32) (a3 : Int32) (h : sm_H) : zS l D aC B cX12_readAll 6 RX12 4 103 none "readAll" vlU (fX12_readAll_141 a0 a1 a2 a3 h) 141 [(0, vR (some a0)), (1, vI a1), (2, vI a2), (3, vI a3)] [] h := by
  unfold fX12_readAll_141
  refine sm_aload_n (i := 0) (j := 0) (pc' := 142) dX12_readAll_141 rfl rfl rfl ?_
  refine sm_getI (k := 45) (pc' := 145) kX12 (by decide) mw756 dX12_readAll_142 rfl (fun x1 => ?_)
  refine sm_if_eq (tgt := 149) (pc' := 148) dX12_readAll_145 (by decide) rfl ?_ ?_
  · refine sm_aload_n (i := 0) (j := 0) (pc' := 150) dX12_readAll_149 rfl rfl rfl ?_
    refine sm_iload_n (i := 3) (j := 3) (pc' := 151) dX12_readAll_150 rfl rfl rfl ?_
    refine sm_putI (k := 44) (pc' := 154) kX12 (by decide) mw755 rfl rfl dX12_readAll_151 rfl (fun h2 => ?_)
    refine sm_aload_n (i := 0) (j := 0) (pc' := 155) dX12_readAll_154 rfl rfl rfl ?_
    refine sm_aload_n (i := 0) (j := 0) (pc' := 156) dX12_readAll_155 rfl rfl rfl ?_
    refine sm_aload_n (i := 0) (j := 0) (pc' := 157) dX12_readAll_156 rfl rfl rfl ?_
    refine sm_getR (k := 1) (pc' := 160) kX12 (by decide) mw657 dX12_readAll_157 rfl (fun x3 => ?_)
    refine sm_aload_n (i := 0) (j := 0) (pc' := 161) dX12_readAll_160 rfl rfl rfl ?_
    refine sm_getI (k := 50) (pc' := 164) kX12 (by decide) mw791 dX12_readAll_161 rfl (fun x4 => ?_)
    refine sm_aload_n (i := 0) (j := 0) (pc' := 165) dX12_readAll_164 rfl rfl rfl ?_
    refine sm_getI (k := 51) (pc' := 168) kX12 (by decide) mw792 dX12_readAll_165 rfl (fun x5 => ?_)
    refine sm_cVI (pc' := 171) (ci := 12) (st := [vR (some a0)]) (F := fun b => fX12_communityOf b x3 x4 x5 h2) [vR x3, vI x4, vI x5] yY_yX12_communityOf rfl mw747 mw748 mw749 (fun b => mX12_communityOf l D aC B b x3 x4 x5 h2) rfl (by decide) (by decide) (by exact Nat.le_of_ble_eq_true rfl) rfl dX12_readAll_168 rfl (fun x6 h7 => ?_)
    refine sm_putI (k := 49) (pc' := 174) kX12 (by decide) mw793 rfl rfl dX12_readAll_171 rfl (fun h8 => ?_)
    refine sm_aload_n (i := 0) (j := 0) (pc' := 175) dX12_readAll_174 rfl rfl rfl ?_
    refine sm_getI (k := 49) (pc' := 178) kX12 (by decide) mw793 dX12_readAll_175 rfl (fun x9 => ?_)
    refine sm_if_ge (tgt := 187) (pc' := 181) dX12_readAll_178 (by decide) rfl ?_ ?_
    · refine sm_aload_n (i := 0) (j := 0) (pc' := 188) dX12_readAll_187 rfl rfl rfl ?_
      refine sm_aload_n (i := 0) (j := 0) (pc' := 189) dX12_readAll_188 rfl rfl rfl ?_
      refine sm_iload_n (i := 2) (j := 2) (pc' := 190) dX12_readAll_189 rfl rfl rfl ?_
      refine sm_cVI (pc' := 193) (ci := 12) (st := [vR (some a0)]) (F := fun b => fX12_octet b a2 h8) [vI a2] yY_yX12_octet rfl mw757 mw758 mw759 (fun b => mX12_octet l D aC B b a2 h8) rfl (by decide) (by decide) (by exact Nat.le_of_ble_eq_true rfl) rfl dX12_readAll_190 rfl (fun x10 h11 => ?_)
      refine sm_putI (k := 52) (pc' := 196) kX12 (by decide) mw794 rfl rfl dX12_readAll_193 rfl (fun h12 => ?_)
      refine sm_aload_n (i := 0) (j := 0) (pc' := 197) dX12_readAll_196 rfl rfl rfl ?_
      refine sm_getI (k := 45) (pc' := 200) kX12 (by decide) mw756 dX12_readAll_197 rfl (fun x13 => ?_)
      refine sm_if_ne (tgt := 256) (pc' := 203) dX12_readAll_200 (by decide) rfl ?_ ?_
      · refine sm_lo (lv' := [(0, vR (some a0)), (1, vI a1), (2, vI a2)]) [0, 1, 2] rfl ?_
        exact sX12_readAll_256 l D aC B  a0 a1 a2 h12
      refine sm_aload_n (i := 0) (j := 0) (pc' := 204) dX12_readAll_203 rfl rfl rfl ?_
      refine sm_getI (k := 52) (pc' := 207) kX12 (by decide) mw794 dX12_readAll_204 rfl (fun x14 => ?_)
      refine sm_sipush (v := (160 : Int32)) (pc' := 210) dX12_readAll_207 rfl (by decide) ?_
      refine sm_icmp_eq (tgt := 256) (pc' := 213) dX12_readAll_210 (by decide) rfl ?_ ?_
      · refine sm_lo (lv' := [(0, vR (some a0)), (1, vI a1), (2, vI a2)]) [0, 1, 2] rfl ?_
        exact sX12_readAll_256 l D aC B  a0 a1 a2 h12
      refine sm_aload_n (i := 0) (j := 0) (pc' := 214) dX12_readAll_213 rfl rfl rfl ?_
      refine sm_getI (k := 52) (pc' := 217) kX12 (by decide) mw794 dX12_readAll_214 rfl (fun x15 => ?_)
      refine sm_sipush (v := (161 : Int32)) (pc' := 220) dX12_readAll_217 rfl (by decide) ?_
      refine sm_icmp_eq (tgt := 256) (pc' := 223) dX12_readAll_220 (by decide) rfl ?_ ?_
      · refine sm_lo (lv' := [(0, vR (some a0)), (1, vI a1), (2, vI a2)]) [0, 1, 2] rfl ?_
        exact sX12_readAll_256 l D aC B  a0 a1 a2 h12
      refine sm_aload_n (i := 0) (j := 0) (pc' := 224) dX12_readAll_223 rfl rfl rfl ?_
      refine sm_getI (k := 52) (pc' := 227) kX12 (by decide) mw794 dX12_readAll_224 rfl (fun x16 => ?_)
      refine sm_sipush (v := (163 : Int32)) (pc' := 230) dX12_readAll_227 rfl (by decide) ?_
      refine sm_icmp_eq (tgt := 256) (pc' := 233) dX12_readAll_230 (by decide) rfl ?_ ?_
      · refine sm_lo (lv' := [(0, vR (some a0)), (1, vI a1), (2, vI a2)]) [0, 1, 2] rfl ?_
        exact sX12_readAll_256 l D aC B  a0 a1 a2 h12
      refine sm_aload_n (i := 0) (j := 0) (pc' := 234) dX12_readAll_233 rfl rfl rfl ?_
      refine sm_getI (k := 52) (pc' := 237) kX12 (by decide) mw794 dX12_readAll_234 rfl (fun x17 => ?_)
      refine sm_sipush (v := (165 : Int32)) (pc' := 240) dX12_readAll_237 rfl (by decide) ?_
      refine sm_icmp_ne (tgt := 251) (pc' := 243) dX12_readAll_240 (by decide) rfl ?_ ?_
      · refine sm_aload_n (i := 0) (j := 0) (pc' := 252) dX12_readAll_251 rfl rfl rfl ?_
        refine sm_iconst (v := (1 : Int32)) (pc' := 253) dX12_readAll_252 rfl (by decide) ?_
        refine sm_putI (k := 45) (pc' := 256) kX12 (by decide) mw756 rfl rfl dX12_readAll_253 rfl (fun h18 => ?_)
        refine sm_lo (lv' := [(0, vR (some a0)), (1, vI a1), (2, vI a2)]) [0, 1, 2] rfl ?_
        exact sX12_readAll_256 l D aC B  a0 a1 a2 h18
      refine sm_aload_n (i := 0) (j := 0) (pc' := 244) dX12_readAll_243 rfl rfl rfl ?_
      refine sm_getI (k := 48) (pc' := 247) kX12 (by decide) mw795 dX12_readAll_244 rfl (fun x19 => ?_)
      refine sm_iconst (v := (1 : Int32)) (pc' := 248) dX12_readAll_247 rfl (by decide) ?_
      refine sm_icmp_eq (tgt := 256) (pc' := 251) dX12_readAll_248 (by decide) rfl ?_ ?_
      · refine sm_lo (lv' := [(0, vR (some a0)), (1, vI a1), (2, vI a2)]) [0, 1, 2] rfl ?_
        exact sX12_readAll_256 l D aC B  a0 a1 a2 h12
      refine sm_aload_n (i := 0) (j := 0) (pc' := 252) dX12_readAll_251 rfl rfl rfl ?_
      refine sm_iconst (v := (1 : Int32)) (pc' := 253) dX12_readAll_252 rfl (by decide) ?_
      refine sm_putI (k := 45) (pc' := 256) kX12 (by decide) mw756 rfl rfl dX12_readAll_253 rfl (fun h20 => ?_)
      refine sm_lo (lv' := [(0, vR (some a0)), (1, vI a1), (2, vI a2)]) [0, 1, 2] rfl ?_
      exact sX12_readAll_256 l D aC B  a0 a1 a2 h20
    refine sm_aload_n (i := 0) (j := 0) (pc' := 182) dX12_readAll_181 rfl rfl rfl ?_
    refine sm_iconst (v := (3 : Int32)) (pc' := 183) dX12_readAll_182 rfl (by decide) ?_
    refine sm_putI (k := 45) (pc' := 186) kX12 (by decide) mw756 rfl rfl dX12_readAll_183 rfl (fun h22 => ?_)
    exact sm_vret rfl dX12_readAll_186
  exact sm_vret rfl dX12_readAll_148
noncomputable def fX12_readAll_101  (a0 : Nat) (a1 : Int32) (a2 : Int32) (s0 : Int32) (h : sm_H) : Option (Unit × sm_H) :=
  (sm_I (sm_get h (some a0) 12 44)).bind fun x1 =>
  (sm_put h (some a0) 12 50 (sm_v (vI x1))).bind fun h2 =>
  (sm_I (sm_get h2 (some a0) 12 44)).bind fun x3 =>
  (sm_put h2 (some a0) 12 51 (sm_v (vI (s0 - x3)))).bind fun h4 =>
  (sm_I (sm_get h4 (some a0) 12 45)).bind fun x5 =>
  if x5 = 0 then (
    (sm_I (sm_get h4 (some a0) 12 51)).bind fun x6 =>
    if x6 ≤ (40 : Int32) then (
      fX12_readAll_141 a0 a1 a2 s0 h4
    ) else
    (sm_put h4 (some a0) 12 45 (sm_v (vI (1 : Int32)))).bind fun h7 =>
    fX12_readAll_141 a0 a1 a2 s0 h7
  ) else
  fX12_readAll_141 a0 a1 a2 s0 h4
set_option maxRecDepth 100000 in
set_option maxHeartbeats 4000000 in
theorem sX12_readAll_101 (l : Launch) (D : va_G) (aC : Nat → ClassId) (B : Nat)   (a0 : Nat) (a1 : Int32) (a2 : Int32) (s0 : Int32) (h : sm_H) : zS l D aC B cX12_readAll 6 RX12 4 103 none "readAll" vlU (fX12_readAll_101 a0 a1 a2 s0 h) 101 [(0, vR (some a0)), (1, vI a1), (2, vI a2)] [vI s0] h := by
  unfold fX12_readAll_101
  refine sm_istore_n (i := 3) (lv' := [(3, vI s0), (0, vR (some a0)), (1, vI a1), (2, vI a2)]) (pc' := 102) dX12_readAll_101 rfl rfl (by decide) rfl ?_
  refine sm_aload_n (i := 0) (j := 1) (pc' := 103) dX12_readAll_102 rfl rfl rfl ?_
  refine sm_aload_n (i := 0) (j := 1) (pc' := 104) dX12_readAll_103 rfl rfl rfl ?_
  refine sm_getI (k := 44) (pc' := 107) kX12 (by decide) mw755 dX12_readAll_104 rfl (fun x1 => ?_)
  refine sm_putI (k := 50) (pc' := 110) kX12 (by decide) mw791 rfl rfl dX12_readAll_107 rfl (fun h2 => ?_)
  refine sm_aload_n (i := 0) (j := 1) (pc' := 111) dX12_readAll_110 rfl rfl rfl ?_
  refine sm_iload_n (i := 3) (j := 0) (pc' := 112) dX12_readAll_111 rfl rfl rfl ?_
  refine sm_aload_n (i := 0) (j := 1) (pc' := 113) dX12_readAll_112 rfl rfl rfl ?_
  refine sm_getI (k := 44) (pc' := 116) kX12 (by decide) mw755 dX12_readAll_113 rfl (fun x3 => ?_)
  refine sm_isub (pc' := 117) dX12_readAll_116 rfl ?_
  refine sm_putI (k := 51) (pc' := 120) kX12 (by decide) mw792 rfl rfl dX12_readAll_117 rfl (fun h4 => ?_)
  refine sm_aload_n (i := 0) (j := 1) (pc' := 121) dX12_readAll_120 rfl rfl rfl ?_
  refine sm_getI (k := 45) (pc' := 124) kX12 (by decide) mw756 dX12_readAll_121 rfl (fun x5 => ?_)
  refine sm_if_ne (tgt := 141) (pc' := 127) dX12_readAll_124 (by decide) rfl ?_ ?_
  · refine sm_lo (lv' := [(0, vR (some a0)), (1, vI a1), (2, vI a2), (3, vI s0)]) [1, 2, 3, 0] rfl ?_
    exact sX12_readAll_141 l D aC B  a0 a1 a2 s0 h4
  refine sm_aload_n (i := 0) (j := 1) (pc' := 128) dX12_readAll_127 rfl rfl rfl ?_
  refine sm_getI (k := 51) (pc' := 131) kX12 (by decide) mw792 dX12_readAll_128 rfl (fun x6 => ?_)
  refine sm_bipush (v := (40 : Int32)) (pc' := 133) dX12_readAll_131 rfl (by decide) ?_
  refine sm_icmp_le (tgt := 141) (pc' := 136) dX12_readAll_133 (by decide) rfl ?_ ?_
  · refine sm_lo (lv' := [(0, vR (some a0)), (1, vI a1), (2, vI a2), (3, vI s0)]) [1, 2, 3, 0] rfl ?_
    exact sX12_readAll_141 l D aC B  a0 a1 a2 s0 h4
  refine sm_aload_n (i := 0) (j := 1) (pc' := 137) dX12_readAll_136 rfl rfl rfl ?_
  refine sm_iconst (v := (1 : Int32)) (pc' := 138) dX12_readAll_137 rfl (by decide) ?_
  refine sm_putI (k := 45) (pc' := 141) kX12 (by decide) mw756 rfl rfl dX12_readAll_138 rfl (fun h7 => ?_)
  refine sm_lo (lv' := [(0, vR (some a0)), (1, vI a1), (2, vI a2), (3, vI s0)]) [1, 2, 3, 0] rfl ?_
  exact sX12_readAll_141 l D aC B  a0 a1 a2 s0 h7
noncomputable def fX12_readAll_81  (a0 : Nat) (a1 : Int32) (a2 : Int32) (h : sm_H) : Option (Unit × sm_H) :=
  (sm_I (sm_get h (some a0) 12 45)).bind fun x1 =>
  if x1 = 0 then (
    (sm_obj h (some a0) 12).bind fun b5 =>
    sm_cb (fX12_field b5 (4 : Int32) a2 h) fun x3 h4 =>
    fX12_readAll_101 a0 a1 a2 x3 h4
  ) else
  (sm_I (sm_get h (some a0) 12 44)).bind fun x2 =>
  fX12_readAll_101 a0 a1 a2 x2 h
set_option maxRecDepth 100000 in
set_option maxHeartbeats 4000000 in
theorem sX12_readAll_81 (l : Launch) (D : va_G) (aC : Nat → ClassId) (B : Nat)   (a0 : Nat) (a1 : Int32) (a2 : Int32) (h : sm_H) : zS l D aC B cX12_readAll 6 RX12 4 103 none "readAll" vlU (fX12_readAll_81 a0 a1 a2 h) 81 [(0, vR (some a0)), (1, vI a1), (2, vI a2)] [] h := by
  unfold fX12_readAll_81
  refine sm_aload_n (i := 0) (j := 0) (pc' := 82) dX12_readAll_81 rfl rfl rfl ?_
  refine sm_getI (k := 45) (pc' := 85) kX12 (by decide) mw756 dX12_readAll_82 rfl (fun x1 => ?_)
  refine sm_if_ne (tgt := 97) (pc' := 88) dX12_readAll_85 (by decide) rfl ?_ ?_
  · refine sm_aload_n (i := 0) (j := 0) (pc' := 98) dX12_readAll_97 rfl rfl rfl ?_
    refine sm_getI (k := 44) (pc' := 101) kX12 (by decide) mw755 dX12_readAll_98 rfl (fun x2 => ?_)
    exact sX12_readAll_101 l D aC B  a0 a1 a2 x2 h
  refine sm_aload_n (i := 0) (j := 0) (pc' := 89) dX12_readAll_88 rfl rfl rfl ?_
  refine sm_iconst (v := (4 : Int32)) (pc' := 90) dX12_readAll_89 rfl (by decide) ?_
  refine sm_iload_n (i := 2) (j := 2) (pc' := 91) dX12_readAll_90 rfl rfl rfl ?_
  refine sm_cVI (pc' := 94) (ci := 12) (st := []) (F := fun b => fX12_field b (4 : Int32) a2 h) [vI (4 : Int32), vI a2] yY_yX12_field rfl mw767 mw771 mw772 (fun b => mX12_field l D aC B b (4 : Int32) a2 h) rfl (by decide) (by decide) (by exact Nat.le_of_ble_eq_true rfl) rfl dX12_readAll_91 rfl (fun x3 h4 => ?_)
  refine sm_goto (pc' := 101) dX12_readAll_94 (by decide) ?_
  exact sX12_readAll_101 l D aC B  a0 a1 a2 x3 h4
noncomputable def fX12_readAll_44  (a0 : Nat) (a1 : Int32) (a2 : Int32) (s0 : Int32) (s1 : Option Nat) (h : sm_H) : Option (Unit × sm_H) :=
  (sm_put h s1 12 45 (sm_v (vI s0))).bind fun h1 =>
  (sm_obj h1 (some a0) 12).bind fun b10 =>
  sm_cb (fX12_integer b10 a2 h1) fun x2 h3 =>
  (sm_put h3 (some a0) 12 48 (sm_v (vI x2))).bind fun h4 =>
  (sm_I (sm_get h4 (some a0) 12 45)).bind fun x5 =>
  if x5 = 0 then (
    (sm_I (sm_get h4 (some a0) 12 48)).bind fun x6 =>
    sm_cb (fX12_in (x6.toInt64) (0 : Int64) (1 : Int64) h4) fun x7 h8 =>
    if x7 = 0 then (
      (sm_put h8 (some a0) 12 45 (sm_v (vI (2 : Int32)))).bind fun h9 =>
      fX12_readAll_81 a0 a1 a2 h9
    ) else
    fX12_readAll_81 a0 a1 a2 h8
  ) else
  fX12_readAll_81 a0 a1 a2 h4
set_option maxRecDepth 100000 in
set_option maxHeartbeats 4000000 in
theorem sX12_readAll_44 (l : Launch) (D : va_G) (aC : Nat → ClassId) (B : Nat)   (a0 : Nat) (a1 : Int32) (a2 : Int32) (s0 : Int32) (s1 : Option Nat) (h : sm_H) : zS l D aC B cX12_readAll 6 RX12 4 103 none "readAll" vlU (fX12_readAll_44 a0 a1 a2 s0 s1 h) 44 [(0, vR (some a0)), (1, vI a1), (2, vI a2)] [vI s0, vR s1] h := by
  unfold fX12_readAll_44
  refine sm_putI (k := 45) (pc' := 47) kX12 (by decide) mw756 rfl rfl dX12_readAll_44 rfl (fun h1 => ?_)
  refine sm_aload_n (i := 0) (j := 0) (pc' := 48) dX12_readAll_47 rfl rfl rfl ?_
  refine sm_aload_n (i := 0) (j := 0) (pc' := 49) dX12_readAll_48 rfl rfl rfl ?_
  refine sm_iload_n (i := 2) (j := 2) (pc' := 50) dX12_readAll_49 rfl rfl rfl ?_
  refine sm_cVI (pc' := 53) (ci := 12) (st := [vR (some a0)]) (F := fun b => fX12_integer b a2 h1) [vI a2] yY_yX12_integer rfl mw787 mw788 mw789 (fun b => mX12_integer l D aC B b a2 h1) rfl (by decide) (by decide) (by exact Nat.le_of_ble_eq_true rfl) rfl dX12_readAll_50 rfl (fun x2 h3 => ?_)
  refine sm_putI (k := 48) (pc' := 56) kX12 (by decide) mw795 rfl rfl dX12_readAll_53 rfl (fun h4 => ?_)
  refine sm_aload_n (i := 0) (j := 0) (pc' := 57) dX12_readAll_56 rfl rfl rfl ?_
  refine sm_getI (k := 45) (pc' := 60) kX12 (by decide) mw756 dX12_readAll_57 rfl (fun x5 => ?_)
  refine sm_if_ne (tgt := 81) (pc' := 63) dX12_readAll_60 (by decide) rfl ?_ ?_
  · exact sX12_readAll_81 l D aC B  a0 a1 a2 h4
  refine sm_aload_n (i := 0) (j := 0) (pc' := 64) dX12_readAll_63 rfl rfl rfl ?_
  refine sm_getI (k := 48) (pc' := 67) kX12 (by decide) mw795 dX12_readAll_64 rfl (fun x6 => ?_)
  refine sm_i2l (pc' := 68) dX12_readAll_67 rfl ?_
  refine sm_lconst (v := (0 : Int64)) (pc' := 69) dX12_readAll_68 rfl (by decide) ?_
  refine sm_lconst (v := (1 : Int64)) (pc' := 70) dX12_readAll_69 rfl (by decide) ?_
  refine sm_cSI (pc' := 73) (st := []) [vJ (x6.toInt64), vJ (0 : Int64), vJ (1 : Int64)] yY_yX12_in mw701 mw702 (mX12_in l D aC B (x6.toInt64) (0 : Int64) (1 : Int64) h4) rfl (by decide) (by decide) (by exact Nat.le_of_ble_eq_true rfl) rfl dX12_readAll_70 rfl (fun x7 h8 => ?_)
  refine sm_if_ne (tgt := 81) (pc' := 76) dX12_readAll_73 (by decide) rfl ?_ ?_
  · exact sX12_readAll_81 l D aC B  a0 a1 a2 h8
  refine sm_aload_n (i := 0) (j := 0) (pc' := 77) dX12_readAll_76 rfl rfl rfl ?_
  refine sm_iconst (v := (2 : Int32)) (pc' := 78) dX12_readAll_77 rfl (by decide) ?_
  refine sm_putI (k := 45) (pc' := 81) kX12 (by decide) mw756 rfl rfl dX12_readAll_78 rfl (fun h9 => ?_)
  exact sX12_readAll_81 l D aC B  a0 a1 a2 h9
noncomputable def fX12_readAll  (a0 : Nat) (a1 : Int32) (h : sm_H) : Option (Unit × sm_H) :=
  (sm_put h (some a0) 12 45 (sm_v (vI (0 : Int32)))).bind fun h1 =>
  (sm_put h1 (some a0) 12 44 (sm_v (vI (0 : Int32)))).bind fun h2 =>
  (sm_put h2 (some a0) 12 46 (sm_v (vI (0 : Int32)))).bind fun h3 =>
  (sm_obj h3 (some a0) 12).bind fun b9 =>
  sm_cb (fX12_field b9 (48 : Int32) a1 h3) fun x4 h5 =>
  (sm_I (sm_get h5 (some a0) 12 45)).bind fun x6 =>
  if x6 = 0 then (
    if x4 = a1 then (
      (sm_I (sm_get h5 (some a0) 12 45)).bind fun x8 =>
      fX12_readAll_44 a0 a1 x4 x8 (some a0) h5
    ) else
    fX12_readAll_44 a0 a1 x4 (1 : Int32) (some a0) h5
  ) else
  (sm_I (sm_get h5 (some a0) 12 45)).bind fun x7 =>
  fX12_readAll_44 a0 a1 x4 x7 (some a0) h5
set_option maxRecDepth 100000 in
set_option maxHeartbeats 4000000 in
theorem sX12_readAll_0 (l : Launch) (D : va_G) (aC : Nat → ClassId) (B : Nat)   (a0 : Nat) (a1 : Int32) (h : sm_H) : zS l D aC B cX12_readAll 6 RX12 4 103 none "readAll" vlU (fX12_readAll a0 a1 h) 0 [(0, vR (some a0)), (1, vI a1)] [] h := by
  unfold fX12_readAll
  refine sm_aload_n (i := 0) (j := 0) (pc' := 1) dX12_readAll_0 rfl rfl rfl ?_
  refine sm_iconst (v := (0 : Int32)) (pc' := 2) dX12_readAll_1 rfl (by decide) ?_
  refine sm_putI (k := 45) (pc' := 5) kX12 (by decide) mw756 rfl rfl dX12_readAll_2 rfl (fun h1 => ?_)
  refine sm_aload_n (i := 0) (j := 0) (pc' := 6) dX12_readAll_5 rfl rfl rfl ?_
  refine sm_iconst (v := (0 : Int32)) (pc' := 7) dX12_readAll_6 rfl (by decide) ?_
  refine sm_putI (k := 44) (pc' := 10) kX12 (by decide) mw755 rfl rfl dX12_readAll_7 rfl (fun h2 => ?_)
  refine sm_aload_n (i := 0) (j := 0) (pc' := 11) dX12_readAll_10 rfl rfl rfl ?_
  refine sm_iconst (v := (0 : Int32)) (pc' := 12) dX12_readAll_11 rfl (by decide) ?_
  refine sm_putI (k := 46) (pc' := 15) kX12 (by decide) mw778 rfl rfl dX12_readAll_12 rfl (fun h3 => ?_)
  refine sm_aload_n (i := 0) (j := 0) (pc' := 16) dX12_readAll_15 rfl rfl rfl ?_
  refine sm_bipush (v := (48 : Int32)) (pc' := 18) dX12_readAll_16 rfl (by decide) ?_
  refine sm_iload_n (i := 1) (j := 1) (pc' := 19) dX12_readAll_18 rfl rfl rfl ?_
  refine sm_cVI (pc' := 22) (ci := 12) (st := []) (F := fun b => fX12_field b (48 : Int32) a1 h3) [vI (48 : Int32), vI a1] yY_yX12_field rfl mw767 mw771 mw772 (fun b => mX12_field l D aC B b (48 : Int32) a1 h3) rfl (by decide) (by decide) (by exact Nat.le_of_ble_eq_true rfl) rfl dX12_readAll_19 rfl (fun x4 h5 => ?_)
  refine sm_istore_n (i := 2) (lv' := [(2, vI x4), (0, vR (some a0)), (1, vI a1)]) (pc' := 23) dX12_readAll_22 rfl rfl (by decide) rfl ?_
  refine sm_aload_n (i := 0) (j := 1) (pc' := 24) dX12_readAll_23 rfl rfl rfl ?_
  refine sm_aload_n (i := 0) (j := 1) (pc' := 25) dX12_readAll_24 rfl rfl rfl ?_
  refine sm_getI (k := 45) (pc' := 28) kX12 (by decide) mw756 dX12_readAll_25 rfl (fun x6 => ?_)
  refine sm_if_ne (tgt := 40) (pc' := 31) dX12_readAll_28 (by decide) rfl ?_ ?_
  · refine sm_aload_n (i := 0) (j := 1) (pc' := 41) dX12_readAll_40 rfl rfl rfl ?_
    refine sm_getI (k := 45) (pc' := 44) kX12 (by decide) mw756 dX12_readAll_41 rfl (fun x7 => ?_)
    refine sm_lo (lv' := [(0, vR (some a0)), (1, vI a1), (2, vI x4)]) [1, 2, 0] rfl ?_
    exact sX12_readAll_44 l D aC B  a0 a1 x4 x7 (some a0) h5
  refine sm_iload_n (i := 2) (j := 0) (pc' := 32) dX12_readAll_31 rfl rfl rfl ?_
  refine sm_iload_n (i := 1) (j := 2) (pc' := 33) dX12_readAll_32 rfl rfl rfl ?_
  refine sm_icmp_eq (tgt := 40) (pc' := 36) dX12_readAll_33 (by decide) rfl ?_ ?_
  · refine sm_aload_n (i := 0) (j := 1) (pc' := 41) dX12_readAll_40 rfl rfl rfl ?_
    refine sm_getI (k := 45) (pc' := 44) kX12 (by decide) mw756 dX12_readAll_41 rfl (fun x8 => ?_)
    refine sm_lo (lv' := [(0, vR (some a0)), (1, vI a1), (2, vI x4)]) [1, 2, 0] rfl ?_
    exact sX12_readAll_44 l D aC B  a0 a1 x4 x8 (some a0) h5
  refine sm_iconst (v := (1 : Int32)) (pc' := 37) dX12_readAll_36 rfl (by decide) ?_
  refine sm_goto (pc' := 44) dX12_readAll_37 (by decide) ?_
  refine sm_lo (lv' := [(0, vR (some a0)), (1, vI a1), (2, vI x4)]) [1, 2, 0] rfl ?_
  exact sX12_readAll_44 l D aC B  a0 a1 x4 (1 : Int32) (some a0) h5
set_option maxRecDepth 100000 in
theorem mX12_readAll (l : Launch) (D : va_G) (aC : Nat → ClassId) (B : Nat) (a0 : Nat) (a1 : Int32) (h : sm_H) : sm_M l D vwCl gAts aC B gTs gNs gOs yX12_readAll cX12_readAll 6 none 4 103 vlU [vR (some a0), vI a1] h (fX12_readAll a0 a1 h) := sm_meth [vR (some a0), vI a1] yY_yX12_readAll gG gN (Nat.le_of_ble_eq_true rfl) rfl (sX12_readAll_0 l D aC B a0 a1 h)
-- M:TreeAgentModel.inView([JII)Z
noncomputable def fX12_inView_12  : Nat → Nat → Option Nat → Int32 → Int32 → Int32 → Int32 → sm_H → Option (Int32 × sm_H)
  | 0 => fun _ _ _ _ _ _ _ => none
  | n + 1 => fun a0 a1 a2 a3 a4 a5 h =>
    (sm_I (sm_get h (some a0) 12 49)).bind fun x1 =>
    (sm_R (sm_get h (some a0) 12 32)).bind fun x2 =>
    (sm_I (sm_get h (some a0) 12 49)).bind fun x3 =>
    (sm_aI h x2 0 x3).bind fun x4 =>
    if (((8 : Int32) * x1) + x4) ≤ a5 then (
      if a4 < 0 then (
        some ((1 : Int32), h)
      ) else
      (sm_R (sm_get h (some a0) 12 35)).bind fun x5 =>
      (sm_aI h x5 2 a4).bind fun x6 =>
      if x6 = 0 then (
        some ((0 : Int32), h)
      ) else
      some ((1 : Int32), h)
    ) else
    (sm_R (sm_get h (some a0) 12 33)).bind fun x7 =>
    (sm_R (sm_get h (some a0) 12 34)).bind fun x8 =>
    (sm_aI h x8 0 a5).bind fun x9 =>
    sm_cb (fX12_begins a1 a2 a3 x7 ((16 : Int32) * a5) x9 h) fun x10 h11 =>
    if x10 = 0 then (
      sm_let (a5 + (1 : Int32)) fun x12 =>
      (fX12_inView_12 n) a0 a1 a2 a3 a4 x12 h11
    ) else
    if a4 < 0 then (
      sm_let (a5 + (1 : Int32)) fun x13 =>
      (fX12_inView_12 n) a0 a1 a2 a3 a5 x13 h11
    ) else
    (sm_R (sm_get h11 (some a0) 12 34)).bind fun x14 =>
    (sm_aI h11 x14 0 a5).bind fun x15 =>
    (sm_R (sm_get h11 (some a0) 12 34)).bind fun x16 =>
    (sm_aI h11 x16 0 a4).bind fun x17 =>
    if x15 < x17 then (
      sm_let (a5 + (1 : Int32)) fun x18 =>
      (fX12_inView_12 n) a0 a1 a2 a3 a4 x18 h11
    ) else
    sm_let (a5 + (1 : Int32)) fun x19 =>
    (fX12_inView_12 n) a0 a1 a2 a3 a5 x19 h11
set_option maxRecDepth 100000 in
set_option maxHeartbeats 4000000 in
theorem sX12_inView_12 (l : Launch) (D : va_G) (aC : Nat → ClassId) (B : Nat)   (n : Nat) : ∀ (a0 : Nat) (a1 : Option Nat) (a2 : Int32) (a3 : Int32) (a4 : Int32) (a5 : Int32) (h : sm_H), zS l D aC B cX12_inView 7 RX12 1 27 (some .boolean) "inView" vlI (fX12_inView_12 n a0 a1 a2 a3 a4 a5 h) 12 [(0, vR (some a0)), (1, vR a1), (2, vI a2), (3, vI a3), (4, vI a4), (5, vI a5)] [] h := by
  induction n with
  | zero => intro a0 a1 a2 a3 a4 a5 h; exact sm_none
  | succ n ih =>
    intro a0 a1 a2 a3 a4 a5 h
    show zS l D aC B cX12_inView 7 RX12 1 27 (some .boolean) "inView" vlI (fX12_inView_12 (n + 1) a0 a1 a2 a3 a4 a5 h) 12 [(0, vR (some a0)), (1, vR a1), (2, vI a2), (3, vI a3), (4, vI a4), (5, vI a5)] [] h
    unfold fX12_inView_12
    refine sm_iload (i := 5) (j := 5) (pc' := 14) dX12_inView_12 rfl rfl ?_
    refine sm_bipush (v := (8 : Int32)) (pc' := 16) dX12_inView_14 rfl (by decide) ?_
    refine sm_aload_n (i := 0) (j := 0) (pc' := 17) dX12_inView_16 rfl rfl rfl ?_
    refine sm_getI (k := 49) (pc' := 20) kX12 (by decide) mw793 dX12_inView_17 rfl (fun x1 => ?_)
    refine sm_imul (pc' := 21) dX12_inView_20 rfl ?_
    refine sm_aload_n (i := 0) (j := 0) (pc' := 22) dX12_inView_21 rfl rfl rfl ?_
    refine sm_getR (k := 32) (pc' := 25) kX12 (by decide) mw682 dX12_inView_22 rfl (fun x2 => ?_)
    refine sm_aload_n (i := 0) (j := 0) (pc' := 26) dX12_inView_25 rfl rfl rfl ?_
    refine sm_getI (k := 49) (pc' := 29) kX12 (by decide) mw793 dX12_inView_26 rfl (fun x3 => ?_)
    refine sm_iald (t := 0) (pc' := 30) rfl dX12_inView_29 rfl (fun x4 => ?_)
    refine sm_iadd (pc' := 31) dX12_inView_30 rfl ?_
    refine sm_icmp_ge (tgt := 100) (pc' := 34) dX12_inView_31 (by decide) rfl ?_ ?_
    · refine sm_iload (i := 4) (j := 4) (pc' := 102) dX12_inView_100 rfl rfl ?_
      refine sm_if_lt (tgt := 115) (pc' := 105) dX12_inView_102 (by decide) rfl ?_ ?_
      · refine sm_iconst (v := (1 : Int32)) (pc' := 116) dX12_inView_115 rfl (by decide) ?_
        refine sm_goto (pc' := 120) dX12_inView_116 (by decide) ?_
        exact sm_zret1 rfl dX12_inView_120
      refine sm_aload_n (i := 0) (j := 0) (pc' := 106) dX12_inView_105 rfl rfl rfl ?_
      refine sm_getR (k := 35) (pc' := 109) kX12 (by decide) mw685 dX12_inView_106 rfl (fun x5 => ?_)
      refine sm_iload (i := 4) (j := 4) (pc' := 111) dX12_inView_109 rfl rfl ?_
      refine sm_zald (t := 2) (pc' := 112) rfl dX12_inView_111 rfl (fun x6 => ?_)
      refine sm_if_eq (tgt := 119) (pc' := 115) dX12_inView_112 (by decide) rfl ?_ ?_
      · refine sm_iconst (v := (0 : Int32)) (pc' := 120) dX12_inView_119 rfl (by decide) ?_
        exact sm_zret0 rfl dX12_inView_120
      refine sm_iconst (v := (1 : Int32)) (pc' := 116) dX12_inView_115 rfl (by decide) ?_
      refine sm_goto (pc' := 120) dX12_inView_116 (by decide) ?_
      exact sm_zret1 rfl dX12_inView_120
    refine sm_aload_n (i := 1) (j := 1) (pc' := 35) dX12_inView_34 rfl rfl rfl ?_
    refine sm_iload_n (i := 2) (j := 2) (pc' := 36) dX12_inView_35 rfl rfl rfl ?_
    refine sm_iload_n (i := 3) (j := 3) (pc' := 37) dX12_inView_36 rfl rfl rfl ?_
    refine sm_aload_n (i := 0) (j := 0) (pc' := 38) dX12_inView_37 rfl rfl rfl ?_
    refine sm_getR (k := 33) (pc' := 41) kX12 (by decide) mw683 dX12_inView_38 rfl (fun x7 => ?_)
    refine sm_bipush (v := (16 : Int32)) (pc' := 43) dX12_inView_41 rfl (by decide) ?_
    refine sm_iload (i := 5) (j := 5) (pc' := 45) dX12_inView_43 rfl rfl ?_
    refine sm_imul (pc' := 46) dX12_inView_45 rfl ?_
    refine sm_aload_n (i := 0) (j := 0) (pc' := 47) dX12_inView_46 rfl rfl rfl ?_
    refine sm_getR (k := 34) (pc' := 50) kX12 (by decide) mw684 dX12_inView_47 rfl (fun x8 => ?_)
    refine sm_iload (i := 5) (j := 5) (pc' := 52) dX12_inView_50 rfl rfl ?_
    refine sm_iald (t := 0) (pc' := 53) rfl dX12_inView_52 rfl (fun x9 => ?_)
    refine sm_cSI (pc' := 56) (st := []) [vR a1, vI a2, vI a3, vR x7, vI ((16 : Int32) * a5), vI x9] yY_yX12_begins mw708 mw709 (mX12_begins l D aC B a1 a2 a3 x7 ((16 : Int32) * a5) x9 h) rfl (by decide) (by decide) (by exact Nat.le_of_ble_eq_true rfl) rfl dX12_inView_53 rfl (fun x10 h11 => ?_)
    refine sm_istore (i := 6) (lv' := [(6, vI x10), (0, vR (some a0)), (1, vR a1), (2, vI a2), (3, vI a3), (4, vI a4), (5, vI a5)]) (pc' := 58) dX12_inView_56 rfl (by decide) rfl ?_
    refine sm_iload (i := 6) (j := 0) (pc' := 60) dX12_inView_58 rfl rfl ?_
    refine sm_if_eq (tgt := 90) (pc' := 63) dX12_inView_60 (by decide) rfl ?_ ?_
    · refine sm_iload (i := 4) (j := 5) (pc' := 92) dX12_inView_90 rfl rfl ?_
      refine sm_istore (i := 4) (lv' := [(4, vI a4), (6, vI x10), (0, vR (some a0)), (1, vR a1), (2, vI a2), (3, vI a3), (5, vI a5)]) (pc' := 94) dX12_inView_92 rfl (by decide) rfl ?_
      refine sm_iincL (i := 5) (j := 6) (x := a5) (d := (1 : Int32)) (fun x12 => [(5, vI x12), (4, vI a4), (6, vI x10), (0, vR (some a0)), (1, vR a1), (2, vI a2), (3, vI a3)]) (pc' := 97) dX12_inView_94 rfl rfl (by decide) (by decide) (fun _ => rfl) (fun x12 => ?_)
      refine sm_goto (pc' := 12) dX12_inView_97 (by decide) ?_
      refine sm_lo (lv' := [(0, vR (some a0)), (1, vR a1), (2, vI a2), (3, vI a3), (4, vI a4), (5, vI x12)]) [3, 4, 5, 6, 1, 0] rfl ?_
      exact ih a0 a1 a2 a3 a4 x12 h11
    refine sm_iload (i := 4) (j := 5) (pc' := 65) dX12_inView_63 rfl rfl ?_
    refine sm_if_lt (tgt := 85) (pc' := 68) dX12_inView_65 (by decide) rfl ?_ ?_
    · refine sm_iload (i := 5) (j := 6) (pc' := 87) dX12_inView_85 rfl rfl ?_
      refine sm_goto (pc' := 92) dX12_inView_87 (by decide) ?_
      refine sm_istore (i := 4) (lv' := [(4, vI a5), (6, vI x10), (0, vR (some a0)), (1, vR a1), (2, vI a2), (3, vI a3), (5, vI a5)]) (pc' := 94) dX12_inView_92 rfl (by decide) rfl ?_
      refine sm_iincL (i := 5) (j := 6) (x := a5) (d := (1 : Int32)) (fun x13 => [(5, vI x13), (4, vI a5), (6, vI x10), (0, vR (some a0)), (1, vR a1), (2, vI a2), (3, vI a3)]) (pc' := 97) dX12_inView_94 rfl rfl (by decide) (by decide) (fun _ => rfl) (fun x13 => ?_)
      refine sm_goto (pc' := 12) dX12_inView_97 (by decide) ?_
      refine sm_lo (lv' := [(0, vR (some a0)), (1, vR a1), (2, vI a2), (3, vI a3), (4, vI a5), (5, vI x13)]) [3, 4, 5, 6, 1, 0] rfl ?_
      exact ih a0 a1 a2 a3 a5 x13 h11
    refine sm_aload_n (i := 0) (j := 1) (pc' := 69) dX12_inView_68 rfl rfl rfl ?_
    refine sm_getR (k := 34) (pc' := 72) kX12 (by decide) mw684 dX12_inView_69 rfl (fun x14 => ?_)
    refine sm_iload (i := 5) (j := 6) (pc' := 74) dX12_inView_72 rfl rfl ?_
    refine sm_iald (t := 0) (pc' := 75) rfl dX12_inView_74 rfl (fun x15 => ?_)
    refine sm_aload_n (i := 0) (j := 1) (pc' := 76) dX12_inView_75 rfl rfl rfl ?_
    refine sm_getR (k := 34) (pc' := 79) kX12 (by decide) mw684 dX12_inView_76 rfl (fun x16 => ?_)
    refine sm_iload (i := 4) (j := 5) (pc' := 81) dX12_inView_79 rfl rfl ?_
    refine sm_iald (t := 0) (pc' := 82) rfl dX12_inView_81 rfl (fun x17 => ?_)
    refine sm_icmp_lt (tgt := 90) (pc' := 85) dX12_inView_82 (by decide) rfl ?_ ?_
    · refine sm_iload (i := 4) (j := 5) (pc' := 92) dX12_inView_90 rfl rfl ?_
      refine sm_istore (i := 4) (lv' := [(4, vI a4), (6, vI x10), (0, vR (some a0)), (1, vR a1), (2, vI a2), (3, vI a3), (5, vI a5)]) (pc' := 94) dX12_inView_92 rfl (by decide) rfl ?_
      refine sm_iincL (i := 5) (j := 6) (x := a5) (d := (1 : Int32)) (fun x18 => [(5, vI x18), (4, vI a4), (6, vI x10), (0, vR (some a0)), (1, vR a1), (2, vI a2), (3, vI a3)]) (pc' := 97) dX12_inView_94 rfl rfl (by decide) (by decide) (fun _ => rfl) (fun x18 => ?_)
      refine sm_goto (pc' := 12) dX12_inView_97 (by decide) ?_
      refine sm_lo (lv' := [(0, vR (some a0)), (1, vR a1), (2, vI a2), (3, vI a3), (4, vI a4), (5, vI x18)]) [3, 4, 5, 6, 1, 0] rfl ?_
      exact ih a0 a1 a2 a3 a4 x18 h11
    refine sm_iload (i := 5) (j := 6) (pc' := 87) dX12_inView_85 rfl rfl ?_
    refine sm_goto (pc' := 92) dX12_inView_87 (by decide) ?_
    refine sm_istore (i := 4) (lv' := [(4, vI a5), (6, vI x10), (0, vR (some a0)), (1, vR a1), (2, vI a2), (3, vI a3), (5, vI a5)]) (pc' := 94) dX12_inView_92 rfl (by decide) rfl ?_
    refine sm_iincL (i := 5) (j := 6) (x := a5) (d := (1 : Int32)) (fun x19 => [(5, vI x19), (4, vI a5), (6, vI x10), (0, vR (some a0)), (1, vR a1), (2, vI a2), (3, vI a3)]) (pc' := 97) dX12_inView_94 rfl rfl (by decide) (by decide) (fun _ => rfl) (fun x19 => ?_)
    refine sm_goto (pc' := 12) dX12_inView_97 (by decide) ?_
    refine sm_lo (lv' := [(0, vR (some a0)), (1, vR a1), (2, vI a2), (3, vI a3), (4, vI a5), (5, vI x19)]) [3, 4, 5, 6, 1, 0] rfl ?_
    exact ih a0 a1 a2 a3 a5 x19 h11
noncomputable def fX12_inView  (a0 : Nat) (a1 : Option Nat) (a2 : Int32) (a3 : Int32) (h : sm_H) : Option (Int32 × sm_H) :=
  (sm_I (sm_get h (some a0) 12 49)).bind fun x1 =>
  sm_let ((8 : Int32) * x1) fun x2 =>
  fX12_inView_12 sm_fuel a0 a1 a2 a3 (-1 : Int32) x2 h
set_option maxRecDepth 100000 in
set_option maxHeartbeats 4000000 in
theorem sX12_inView_0 (l : Launch) (D : va_G) (aC : Nat → ClassId) (B : Nat)   (a0 : Nat) (a1 : Option Nat) (a2 : Int32) (a3 : Int32) (h : sm_H) : zS l D aC B cX12_inView 7 RX12 1 27 (some .boolean) "inView" vlI (fX12_inView a0 a1 a2 a3 h) 0 [(0, vR (some a0)), (1, vR a1), (2, vI a2), (3, vI a3)] [] h := by
  unfold fX12_inView
  refine sm_iconst (v := (-1 : Int32)) (pc' := 1) dX12_inView_0 rfl (by decide) ?_
  refine sm_istore (i := 4) (lv' := [(4, vI (-1 : Int32)), (0, vR (some a0)), (1, vR a1), (2, vI a2), (3, vI a3)]) (pc' := 3) dX12_inView_1 rfl (by decide) rfl ?_
  refine sm_bipush (v := (8 : Int32)) (pc' := 5) dX12_inView_3 rfl (by decide) ?_
  refine sm_aload_n (i := 0) (j := 1) (pc' := 6) dX12_inView_5 rfl rfl rfl ?_
  refine sm_getI (k := 49) (pc' := 9) kX12 (by decide) mw793 dX12_inView_6 rfl (fun x1 => ?_)
  refine sm_imul (pc' := 10) dX12_inView_9 rfl ?_
  refine sm_letIv (fun x2 => ?_)
  refine sm_istore (i := 5) (lv' := [(5, vI x2), (4, vI (-1 : Int32)), (0, vR (some a0)), (1, vR a1), (2, vI a2), (3, vI a3)]) (pc' := 12) dX12_inView_10 rfl (by decide) rfl ?_
  refine sm_lo (lv' := [(0, vR (some a0)), (1, vR a1), (2, vI a2), (3, vI a3), (4, vI (-1 : Int32)), (5, vI x2)]) [2, 3, 4, 5, 1, 0] rfl ?_
  exact sX12_inView_12 l D aC B   sm_fuel a0 a1 a2 a3 (-1 : Int32) x2 h
set_option maxRecDepth 100000 in
theorem mX12_inView (l : Launch) (D : va_G) (aC : Nat → ClassId) (B : Nat) (a0 : Nat) (a1 : Option Nat) (a2 : Int32) (a3 : Int32) (h : sm_H) : sm_M l D vwCl gAts aC B gTs gNs gOs yX12_inView cX12_inView 7 (some .boolean) 1 27 vlI [vR (some a0), vR a1, vI a2, vI a3] h (fX12_inView a0 a1 a2 a3 h) := sm_meth [vR (some a0), vR a1, vI a2, vI a3] yY_yX12_inView gG gN (Nat.le_of_ble_eq_true rfl) rfl (sX12_inView_0 l D aC B a0 a1 a2 a3 h)
-- M:TreeAgentModel.nameOf(II)V
noncomputable def fX12_nameOf_75  (a0 : Nat) (a1 : Int32) (s0 : Int64) (s1 : Int32) (s2 : Option Nat) (h : sm_H) : Option (Unit × sm_H) :=
  (sm_sJ h s2 1 s1 s0).bind fun h1 =>
  (sm_R (sm_get h1 (some a0) 12 10)).bind fun x2 =>
  (sm_aI h1 x2 0 a1).bind fun x3 =>
  (sm_put h1 (some a0) 12 60 (sm_v (vI (x3 + (1 : Int32))))).bind fun h4 =>
  some ((), h4)
set_option maxRecDepth 100000 in
set_option maxHeartbeats 4000000 in
theorem sX12_nameOf_75 (l : Launch) (D : va_G) (aC : Nat → ClassId) (B : Nat)   (a0 : Nat) (a1 : Int32) (s0 : Int64) (s1 : Int32) (s2 : Option Nat) (h : sm_H) : zS l D aC B cX12_nameOf 4 RX12 0 0 none "nameOf" vlU (fX12_nameOf_75 a0 a1 s0 s1 s2 h) 75 [(0, vR (some a0)), (1, vI a1)] [vJ s0, vI s1, vR s2] h := by
  unfold fX12_nameOf_75
  refine sm_last (t := 1) (pc' := 76) rfl dX12_nameOf_75 rfl (fun h1 => ?_)
  refine sm_aload_n (i := 0) (j := 0) (pc' := 77) dX12_nameOf_76 rfl rfl rfl ?_
  refine sm_aload_n (i := 0) (j := 0) (pc' := 78) dX12_nameOf_77 rfl rfl rfl ?_
  refine sm_getR (k := 10) (pc' := 81) kX12 (by decide) mw662 dX12_nameOf_78 rfl (fun x2 => ?_)
  refine sm_iload_n (i := 1) (j := 1) (pc' := 82) dX12_nameOf_81 rfl rfl rfl ?_
  refine sm_iald (t := 0) (pc' := 83) rfl dX12_nameOf_82 rfl (fun x3 => ?_)
  refine sm_iconst (v := (1 : Int32)) (pc' := 84) dX12_nameOf_83 rfl (by decide) ?_
  refine sm_iadd (pc' := 85) dX12_nameOf_84 rfl ?_
  refine sm_putI (k := 60) (pc' := 88) kX12 (by decide) mw796 rfl rfl dX12_nameOf_85 rfl (fun h4 => ?_)
  exact sm_vret rfl dX12_nameOf_88
noncomputable def fX12_nameOf_2  : Nat → Nat → Int32 → Int32 → Int32 → sm_H → Option (Unit × sm_H)
  | 0 => fun _ _ _ _ _ => none
  | n + 1 => fun a0 a1 a2 a3 h =>
    (sm_R (sm_get h (some a0) 12 10)).bind fun x1 =>
    (sm_aI h x1 0 a1).bind fun x2 =>
    if x2 ≤ a3 then (
      (sm_R (sm_get h (some a0) 12 59)).bind fun x3 =>
      (sm_R (sm_get h (some a0) 12 10)).bind fun x4 =>
      (sm_aI h x4 0 a1).bind fun x5 =>
      (sm_R (sm_get h (some a0) 12 15)).bind fun x6 =>
      (sm_aI h x6 0 a1).bind fun x7 =>
      if 0 ≤ x7 then (
        (sm_R (sm_get h (some a0) 12 27)).bind fun x8 =>
        (sm_R (sm_get h (some a0) 12 15)).bind fun x9 =>
        (sm_aI h x9 0 a1).bind fun x10 =>
        (sm_aI h x8 0 (((16 : Int32) * x10) + a2)).bind fun x11 =>
        fX12_nameOf_75 a0 a1 (x11.toInt64) x5 x3 h
      ) else
      fX12_nameOf_75 a0 a1 (0 : Int64) x5 x3 h
    ) else
    (sm_R (sm_get h (some a0) 12 59)).bind fun x12 =>
    (sm_R (sm_get h (some a0) 12 9)).bind fun x13 =>
    (sm_aJ h x13 1 (((16 : Int32) * a1) + a3)).bind fun x14 =>
    (sm_sJ h x12 1 a3 x14).bind fun h15 =>
    sm_let (a3 + (1 : Int32)) fun x16 =>
    (fX12_nameOf_2 n) a0 a1 a2 x16 h15
set_option maxRecDepth 100000 in
set_option maxHeartbeats 4000000 in
theorem sX12_nameOf_2 (l : Launch) (D : va_G) (aC : Nat → ClassId) (B : Nat)   (n : Nat) : ∀ (a0 : Nat) (a1 : Int32) (a2 : Int32) (a3 : Int32) (h : sm_H), zS l D aC B cX12_nameOf 4 RX12 0 0 none "nameOf" vlU (fX12_nameOf_2 n a0 a1 a2 a3 h) 2 [(0, vR (some a0)), (1, vI a1), (2, vI a2), (3, vI a3)] [] h := by
  induction n with
  | zero => intro a0 a1 a2 a3 h; exact sm_none
  | succ n ih =>
    intro a0 a1 a2 a3 h
    show zS l D aC B cX12_nameOf 4 RX12 0 0 none "nameOf" vlU (fX12_nameOf_2 (n + 1) a0 a1 a2 a3 h) 2 [(0, vR (some a0)), (1, vI a1), (2, vI a2), (3, vI a3)] [] h
    unfold fX12_nameOf_2
    refine sm_iload_n (i := 3) (j := 3) (pc' := 3) dX12_nameOf_2 rfl rfl rfl ?_
    refine sm_aload_n (i := 0) (j := 0) (pc' := 4) dX12_nameOf_3 rfl rfl rfl ?_
    refine sm_getR (k := 10) (pc' := 7) kX12 (by decide) mw662 dX12_nameOf_4 rfl (fun x1 => ?_)
    refine sm_iload_n (i := 1) (j := 1) (pc' := 8) dX12_nameOf_7 rfl rfl rfl ?_
    refine sm_iald (t := 0) (pc' := 9) rfl dX12_nameOf_8 rfl (fun x2 => ?_)
    refine sm_icmp_ge (tgt := 35) (pc' := 12) dX12_nameOf_9 (by decide) rfl ?_ ?_
    · refine sm_aload_n (i := 0) (j := 0) (pc' := 36) dX12_nameOf_35 rfl rfl rfl ?_
      refine sm_getR (k := 59) (pc' := 39) kX12 (by decide) mw694 dX12_nameOf_36 rfl (fun x3 => ?_)
      refine sm_aload_n (i := 0) (j := 0) (pc' := 40) dX12_nameOf_39 rfl rfl rfl ?_
      refine sm_getR (k := 10) (pc' := 43) kX12 (by decide) mw662 dX12_nameOf_40 rfl (fun x4 => ?_)
      refine sm_iload_n (i := 1) (j := 1) (pc' := 44) dX12_nameOf_43 rfl rfl rfl ?_
      refine sm_iald (t := 0) (pc' := 45) rfl dX12_nameOf_44 rfl (fun x5 => ?_)
      refine sm_aload_n (i := 0) (j := 0) (pc' := 46) dX12_nameOf_45 rfl rfl rfl ?_
      refine sm_getR (k := 15) (pc' := 49) kX12 (by decide) mw667 dX12_nameOf_46 rfl (fun x6 => ?_)
      refine sm_iload_n (i := 1) (j := 1) (pc' := 50) dX12_nameOf_49 rfl rfl rfl ?_
      refine sm_iald (t := 0) (pc' := 51) rfl dX12_nameOf_50 rfl (fun x7 => ?_)
      refine sm_if_ge (tgt := 58) (pc' := 54) dX12_nameOf_51 (by decide) rfl ?_ ?_
      · refine sm_aload_n (i := 0) (j := 0) (pc' := 59) dX12_nameOf_58 rfl rfl rfl ?_
        refine sm_getR (k := 27) (pc' := 62) kX12 (by decide) mw678 dX12_nameOf_59 rfl (fun x8 => ?_)
        refine sm_bipush (v := (16 : Int32)) (pc' := 64) dX12_nameOf_62 rfl (by decide) ?_
        refine sm_aload_n (i := 0) (j := 0) (pc' := 65) dX12_nameOf_64 rfl rfl rfl ?_
        refine sm_getR (k := 15) (pc' := 68) kX12 (by decide) mw667 dX12_nameOf_65 rfl (fun x9 => ?_)
        refine sm_iload_n (i := 1) (j := 1) (pc' := 69) dX12_nameOf_68 rfl rfl rfl ?_
        refine sm_iald (t := 0) (pc' := 70) rfl dX12_nameOf_69 rfl (fun x10 => ?_)
        refine sm_imul (pc' := 71) dX12_nameOf_70 rfl ?_
        refine sm_iload_n (i := 2) (j := 2) (pc' := 72) dX12_nameOf_71 rfl rfl rfl ?_
        refine sm_iadd (pc' := 73) dX12_nameOf_72 rfl ?_
        refine sm_iald (t := 0) (pc' := 74) rfl dX12_nameOf_73 rfl (fun x11 => ?_)
        refine sm_i2l (pc' := 75) dX12_nameOf_74 rfl ?_
        refine sm_lo (lv' := [(0, vR (some a0)), (1, vI a1)]) [0, 1] rfl ?_
        exact sX12_nameOf_75 l D aC B  a0 a1 (x11.toInt64) x5 x3 h
      refine sm_lconst (v := (0 : Int64)) (pc' := 55) dX12_nameOf_54 rfl (by decide) ?_
      refine sm_goto (pc' := 75) dX12_nameOf_55 (by decide) ?_
      refine sm_lo (lv' := [(0, vR (some a0)), (1, vI a1)]) [0, 1] rfl ?_
      exact sX12_nameOf_75 l D aC B  a0 a1 (0 : Int64) x5 x3 h
    refine sm_aload_n (i := 0) (j := 0) (pc' := 13) dX12_nameOf_12 rfl rfl rfl ?_
    refine sm_getR (k := 59) (pc' := 16) kX12 (by decide) mw694 dX12_nameOf_13 rfl (fun x12 => ?_)
    refine sm_iload_n (i := 3) (j := 3) (pc' := 17) dX12_nameOf_16 rfl rfl rfl ?_
    refine sm_aload_n (i := 0) (j := 0) (pc' := 18) dX12_nameOf_17 rfl rfl rfl ?_
    refine sm_getR (k := 9) (pc' := 21) kX12 (by decide) mw661 dX12_nameOf_18 rfl (fun x13 => ?_)
    refine sm_bipush (v := (16 : Int32)) (pc' := 23) dX12_nameOf_21 rfl (by decide) ?_
    refine sm_iload_n (i := 1) (j := 1) (pc' := 24) dX12_nameOf_23 rfl rfl rfl ?_
    refine sm_imul (pc' := 25) dX12_nameOf_24 rfl ?_
    refine sm_iload_n (i := 3) (j := 3) (pc' := 26) dX12_nameOf_25 rfl rfl rfl ?_
    refine sm_iadd (pc' := 27) dX12_nameOf_26 rfl ?_
    refine sm_lald (t := 1) (pc' := 28) rfl dX12_nameOf_27 rfl (fun x14 => ?_)
    refine sm_last (t := 1) (pc' := 29) rfl dX12_nameOf_28 rfl (fun h15 => ?_)
    refine sm_iincL (i := 3) (j := 3) (x := a3) (d := (1 : Int32)) (fun x16 => [(3, vI x16), (0, vR (some a0)), (1, vI a1), (2, vI a2)]) (pc' := 32) dX12_nameOf_29 rfl rfl (by decide) (by decide) (fun _ => rfl) (fun x16 => ?_)
    refine sm_goto (pc' := 2) dX12_nameOf_32 (by decide) ?_
    refine sm_lo (lv' := [(0, vR (some a0)), (1, vI a1), (2, vI a2), (3, vI x16)]) [1, 2, 3, 0] rfl ?_
    exact ih a0 a1 a2 x16 h15
noncomputable def fX12_nameOf  (a0 : Nat) (a1 : Int32) (a2 : Int32) (h : sm_H) : Option (Unit × sm_H) :=
  fX12_nameOf_2 sm_fuel a0 a1 a2 (0 : Int32) h
set_option maxRecDepth 100000 in
set_option maxHeartbeats 4000000 in
theorem sX12_nameOf_0 (l : Launch) (D : va_G) (aC : Nat → ClassId) (B : Nat)   (a0 : Nat) (a1 : Int32) (a2 : Int32) (h : sm_H) : zS l D aC B cX12_nameOf 4 RX12 0 0 none "nameOf" vlU (fX12_nameOf a0 a1 a2 h) 0 [(0, vR (some a0)), (1, vI a1), (2, vI a2)] [] h := by
  unfold fX12_nameOf
  refine sm_iconst (v := (0 : Int32)) (pc' := 1) dX12_nameOf_0 rfl (by decide) ?_
  refine sm_istore_n (i := 3) (lv' := [(3, vI (0 : Int32)), (0, vR (some a0)), (1, vI a1), (2, vI a2)]) (pc' := 2) dX12_nameOf_1 rfl rfl (by decide) rfl ?_
  refine sm_lo (lv' := [(0, vR (some a0)), (1, vI a1), (2, vI a2), (3, vI (0 : Int32))]) [1, 2, 3, 0] rfl ?_
  exact sX12_nameOf_2 l D aC B   sm_fuel a0 a1 a2 (0 : Int32) h
set_option maxRecDepth 100000 in
theorem mX12_nameOf (l : Launch) (D : va_G) (aC : Nat → ClassId) (B : Nat) (a0 : Nat) (a1 : Int32) (a2 : Int32) (h : sm_H) : sm_M l D vwCl gAts aC B gTs gNs gOs yX12_nameOf cX12_nameOf 4 none 0 0 vlU [vR (some a0), vI a1, vI a2] h (fX12_nameOf a0 a1 a2 h) := sm_meth [vR (some a0), vI a1, vI a2] yY_yX12_nameOf gG gN (Nat.le_of_ble_eq_true rfl) rfl (sX12_nameOf_0 l D aC B a0 a1 a2 h)
