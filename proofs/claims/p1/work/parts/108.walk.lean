-- M:TreeAgent.column(IIIIJJ)I
noncomputable def fX11_column  (a0 : Nat) (a1 : Int32) (a2 : Int32) (a3 : Int32) (a4 : Int32) (a5 : Int64) (a7 : Int64) (h : sm_H) : Option (Int32 × sm_H) :=
  (sm_R (sm_get h (some a0) 11 2)).bind fun x1 =>
  (sm_obj h x1 9).bind fun b17 =>
  sm_cb (fX9_tableAt b17 a1 h) fun x2 h3 =>
  if x2 = none then (
    some ((-1 : Int32), h3)
  ) else
  if a2 < (1 : Int32) then (
    some ((-2 : Int32), h3)
  ) else
  sm_cb (fX11_isObjectTag a3 h3) fun x4 h5 =>
  if x4 = 0 then (
    some ((-2 : Int32), h5)
  ) else
  sm_cb (fX11_isAccess a4 h5) fun x6 h7 =>
  if x6 = 0 then (
    some ((-2 : Int32), h7)
  ) else
  (sm_obj h7 (some a0) 11).bind fun b16 =>
  sm_cb (fX11_columnRefusal b16 x2 a2 h7) fun x8 h9 =>
  if x8 = 0 then (
    (sm_obj h9 (some a0) 11).bind fun b15 =>
    sm_cb (fX11_columnName b15 x2 a2 h9) fun x10 h11 =>
    (sm_obj h11 (some a0) 11).bind fun b14 =>
    sm_cb (fX11_newColumn b14 x2 x10 a3 a4 a5 a7 h11) fun x12 h13 =>
    some (x12, h13)
  ) else
  some (x8, h9)
set_option maxRecDepth 100000 in
set_option maxHeartbeats 4000000 in
theorem sX11_column_0 (l : Launch) (D : va_G) (aC : Nat → ClassId) (B : Nat)   (a0 : Nat) (a1 : Int32) (a2 : Int32) (a3 : Int32) (a4 : Int32) (a5 : Int64) (a7 : Int64) (h : sm_H) : zS l D aC B cX11_column 11 RX11 5 124 (some .int) "column" vlI (fX11_column a0 a1 a2 a3 a4 a5 a7 h) 0 [(0, vR (some a0)), (1, vI a1), (2, vI a2), (3, vI a3), (4, vI a4), (5, vJ a5), (7, vJ a7)] [] h := by
  unfold fX11_column
  refine sm_aload_n (i := 0) (j := 0) (pc' := 1) dX11_column_0 rfl rfl rfl ?_
  refine sm_getR (k := 2) (pc' := 4) kX11 (by decide) mw395 dX11_column_1 rfl (fun x1 => ?_)
  refine sm_iload_n (i := 1) (j := 1) (pc' := 5) dX11_column_4 rfl rfl rfl ?_
  refine sm_cVR (pc' := 8) (ci := 9) (st := []) (F := fun b => fX9_tableAt b a1 h) [vI a1] yY_yX9_tableAt rfl mw494 mw384 mw385 (fun b => mX9_tableAt l D aC B b a1 h) rfl (by decide) (by decide) (by exact Nat.le_of_ble_eq_true rfl) rfl dX11_column_5 rfl (fun x2 h3 => ?_)
  refine sm_astore (i := 9) (lv' := [(9, vR x2), (0, vR (some a0)), (1, vI a1), (2, vI a2), (3, vI a3), (4, vI a4), (5, vJ a5), (7, vJ a7)]) (pc' := 10) dX11_column_8 rfl (by decide) rfl ?_
  refine sm_aload (i := 9) (j := 0) (pc' := 12) dX11_column_10 rfl rfl ?_
  refine sm_ifnonnull (tgt := 17) (pc' := 15) dX11_column_12 (by decide) rfl ?_ ?_
  · refine sm_iload_n (i := 2) (j := 3) (pc' := 18) dX11_column_17 rfl rfl rfl ?_
    refine sm_iconst (v := (1 : Int32)) (pc' := 19) dX11_column_18 rfl (by decide) ?_
    refine sm_icmp_lt (tgt := 37) (pc' := 22) dX11_column_19 (by decide) rfl ?_ ?_
    · refine sm_bipush (v := (-2 : Int32)) (pc' := 39) dX11_column_37 rfl (by decide) ?_
      exact sm_iret rfl dX11_column_39
    refine sm_iload_n (i := 3) (j := 4) (pc' := 23) dX11_column_22 rfl rfl rfl ?_
    refine sm_cSI (pc' := 26) (st := []) [vI a3] yY_yX11_isObjectTag mw445 mw248 (mX11_isObjectTag l D aC B a3 h3) rfl (by decide) (by decide) (by exact Nat.le_of_ble_eq_true rfl) rfl dX11_column_23 rfl (fun x4 h5 => ?_)
    refine sm_if_eq (tgt := 37) (pc' := 29) dX11_column_26 (by decide) rfl ?_ ?_
    · refine sm_bipush (v := (-2 : Int32)) (pc' := 39) dX11_column_37 rfl (by decide) ?_
      exact sm_iret rfl dX11_column_39
    refine sm_iload (i := 4) (j := 5) (pc' := 31) dX11_column_29 rfl rfl ?_
    refine sm_cSI (pc' := 34) (st := []) [vI a4] yY_yX11_isAccess mw446 mw464 (mX11_isAccess l D aC B a4 h5) rfl (by decide) (by decide) (by exact Nat.le_of_ble_eq_true rfl) rfl dX11_column_31 rfl (fun x6 h7 => ?_)
    refine sm_if_ne (tgt := 40) (pc' := 37) dX11_column_34 (by decide) rfl ?_ ?_
    · refine sm_aload_n (i := 0) (j := 1) (pc' := 41) dX11_column_40 rfl rfl rfl ?_
      refine sm_aload (i := 9) (j := 0) (pc' := 43) dX11_column_41 rfl rfl ?_
      refine sm_iload_n (i := 2) (j := 3) (pc' := 44) dX11_column_43 rfl rfl rfl ?_
      refine sm_cVI (pc' := 47) (ci := 11) (st := []) (F := fun b => fX11_columnRefusal b x2 a2 h7) [vR x2, vI a2] yY_yX11_columnRefusal rfl mw495 mw502 mw503 (fun b => mX11_columnRefusal l D aC B b x2 a2 h7) rfl (by decide) (by decide) (by exact Nat.le_of_ble_eq_true rfl) rfl dX11_column_44 rfl (fun x8 h9 => ?_)
      refine sm_istore (i := 10) (lv' := [(10, vI x8), (9, vR x2), (0, vR (some a0)), (1, vI a1), (2, vI a2), (3, vI a3), (4, vI a4), (5, vJ a5), (7, vJ a7)]) (pc' := 49) dX11_column_47 rfl (by decide) rfl ?_
      refine sm_iload (i := 10) (j := 0) (pc' := 51) dX11_column_49 rfl rfl ?_
      refine sm_if_eq (tgt := 57) (pc' := 54) dX11_column_51 (by decide) rfl ?_ ?_
      · refine sm_aload_n (i := 0) (j := 2) (pc' := 58) dX11_column_57 rfl rfl rfl ?_
        refine sm_aload (i := 9) (j := 1) (pc' := 60) dX11_column_58 rfl rfl ?_
        refine sm_aload_n (i := 0) (j := 2) (pc' := 61) dX11_column_60 rfl rfl rfl ?_
        refine sm_aload (i := 9) (j := 1) (pc' := 63) dX11_column_61 rfl rfl ?_
        refine sm_iload_n (i := 2) (j := 4) (pc' := 64) dX11_column_63 rfl rfl rfl ?_
        refine sm_cVR (pc' := 67) (ci := 11) (st := [vR x2, vR (some a0)]) (F := fun b => fX11_columnName b x2 a2 h9) [vR x2, vI a2] yY_yX11_columnName rfl mw496 mw500 mw501 (fun b => mX11_columnName l D aC B b x2 a2 h9) rfl (by decide) (by decide) (by exact Nat.le_of_ble_eq_true rfl) rfl dX11_column_64 rfl (fun x10 h11 => ?_)
        refine sm_iload_n (i := 3) (j := 5) (pc' := 68) dX11_column_67 rfl rfl rfl ?_
        refine sm_iload (i := 4) (j := 6) (pc' := 70) dX11_column_68 rfl rfl ?_
        refine sm_lload (i := 5) (j := 7) (pc' := 72) dX11_column_70 rfl rfl ?_
        refine sm_lload (i := 7) (j := 8) (pc' := 74) dX11_column_72 rfl rfl ?_
        refine sm_cVI (pc' := 77) (ci := 11) (st := []) (F := fun b => fX11_newColumn b x2 x10 a3 a4 a5 a7 h11) [vR x2, vR x10, vI a3, vI a4, vJ a5, vJ a7] yY_yX11_newColumn rfl mw497 mw498 mw499 (fun b => mX11_newColumn l D aC B b x2 x10 a3 a4 a5 a7 h11) rfl (by decide) (by decide) (by exact Nat.le_of_ble_eq_true rfl) rfl dX11_column_74 rfl (fun x12 h13 => ?_)
        exact sm_iret rfl dX11_column_77
      refine sm_iload (i := 10) (j := 0) (pc' := 56) dX11_column_54 rfl rfl ?_
      exact sm_iret rfl dX11_column_56
    refine sm_bipush (v := (-2 : Int32)) (pc' := 39) dX11_column_37 rfl (by decide) ?_
    exact sm_iret rfl dX11_column_39
  refine sm_iconst (v := (-1 : Int32)) (pc' := 16) dX11_column_15 rfl (by decide) ?_
  exact sm_iret rfl dX11_column_16
set_option maxRecDepth 100000 in
theorem mX11_column (l : Launch) (D : va_G) (aC : Nat → ClassId) (B : Nat) (a0 : Nat) (a1 : Int32) (a2 : Int32) (a3 : Int32) (a4 : Int32) (a5 : Int64) (a7 : Int64) (h : sm_H) : sm_M l D vwCl gAts aC B gTs gNs gOs yX11_column cX11_column 11 (some .int) 5 124 vlI [vR (some a0), vI a1, vI a2, vI a3, vI a4, vJ a5, vJ a7] h (fX11_column a0 a1 a2 a3 a4 a5 a7 h) := sm_meth [vR (some a0), vI a1, vI a2, vI a3, vI a4, vJ a5, vJ a7] yY_yX11_column gG gN (Nat.le_of_ble_eq_true rfl) rfl (sX11_column_0 l D aC B a0 a1 a2 a3 a4 a5 a7 h)
-- M:TreeAgent.status(II)I
noncomputable def fX11_status  (a0 : Nat) (a1 : Int32) (a2 : Int32) (h : sm_H) : Option (Int32 × sm_H) :=
  (sm_R (sm_get h (some a0) 11 2)).bind fun x1 =>
  (sm_obj h x1 9).bind fun b19 =>
  sm_cb (fX9_tableAt b19 a1 h) fun x2 h3 =>
  if x2 = none then (
    some ((-1 : Int32), h3)
  ) else
  if (1 : Int32) ≤ a2 then (
    (sm_R (sm_get h3 x2 7 3)).bind fun x4 =>
    if x4 = none then (
      (sm_obj h3 (some a0) 11).bind fun b18 =>
      sm_cb (fX11_columnRefusal b18 x2 a2 h3) fun x5 h6 =>
      if x5 = 0 then (
        (sm_obj h6 (some a0) 11).bind fun b17 =>
        sm_cb (fX11_columnName b17 x2 a2 h6) fun x7 h8 =>
        (sm_obj h8 (some a0) 11).bind fun b16 =>
        sm_cb (fX11_newColumn b16 x2 x7 (2 : Int32) (2 : Int32) (1 : Int64) (6 : Int64) h8) fun x9 h10 =>
        (sm_R (sm_get h10 (some a0) 11 2)).bind fun x11 =>
        (sm_obj h10 x11 9).bind fun b15 =>
        sm_cb (fX9_thingAt b15 x9 h10) fun x12 h13 =>
        (sm_put h13 x2 7 3 (sm_v (vR x12))).bind fun h14 =>
        some (x9, h14)
      ) else
      some (x5, h6)
    ) else
    some ((-3 : Int32), h3)
  ) else
  some ((-2 : Int32), h3)
set_option maxRecDepth 100000 in
set_option maxHeartbeats 4000000 in
theorem sX11_status_0 (l : Launch) (D : va_G) (aC : Nat → ClassId) (B : Nat)   (a0 : Nat) (a1 : Int32) (a2 : Int32) (h : sm_H) : zS l D aC B cX11_status 6 RX11 5 124 (some .int) "status" vlI (fX11_status a0 a1 a2 h) 0 [(0, vR (some a0)), (1, vI a1), (2, vI a2)] [] h := by
  unfold fX11_status
  refine sm_aload_n (i := 0) (j := 0) (pc' := 1) dX11_status_0 rfl rfl rfl ?_
  refine sm_getR (k := 2) (pc' := 4) kX11 (by decide) mw395 dX11_status_1 rfl (fun x1 => ?_)
  refine sm_iload_n (i := 1) (j := 1) (pc' := 5) dX11_status_4 rfl rfl rfl ?_
  refine sm_cVR (pc' := 8) (ci := 9) (st := []) (F := fun b => fX9_tableAt b a1 h) [vI a1] yY_yX9_tableAt rfl mw494 mw384 mw385 (fun b => mX9_tableAt l D aC B b a1 h) rfl (by decide) (by decide) (by exact Nat.le_of_ble_eq_true rfl) rfl dX11_status_5 rfl (fun x2 h3 => ?_)
  refine sm_astore_n (i := 3) (lv' := [(3, vR x2), (0, vR (some a0)), (1, vI a1), (2, vI a2)]) (pc' := 9) dX11_status_8 rfl rfl (by decide) rfl ?_
  refine sm_aload_n (i := 3) (j := 0) (pc' := 10) dX11_status_9 rfl rfl rfl ?_
  refine sm_ifnonnull (tgt := 15) (pc' := 13) dX11_status_10 (by decide) rfl ?_ ?_
  · refine sm_iload_n (i := 2) (j := 3) (pc' := 16) dX11_status_15 rfl rfl rfl ?_
    refine sm_iconst (v := (1 : Int32)) (pc' := 17) dX11_status_16 rfl (by decide) ?_
    refine sm_icmp_ge (tgt := 23) (pc' := 20) dX11_status_17 (by decide) rfl ?_ ?_
    · refine sm_aload_n (i := 3) (j := 0) (pc' := 24) dX11_status_23 rfl rfl rfl ?_
      refine sm_getRN (k := 3) (pc' := 27) kX7 (by decide) mw504 dX11_status_24 rfl (fun x4 => ?_)
      refine sm_ifnull (tgt := 33) (pc' := 30) dX11_status_27 (by decide) rfl ?_ ?_
      · refine sm_aload_n (i := 0) (j := 1) (pc' := 34) dX11_status_33 rfl rfl rfl ?_
        refine sm_aload_n (i := 3) (j := 0) (pc' := 35) dX11_status_34 rfl rfl rfl ?_
        refine sm_iload_n (i := 2) (j := 3) (pc' := 36) dX11_status_35 rfl rfl rfl ?_
        refine sm_cVI (pc' := 39) (ci := 11) (st := []) (F := fun b => fX11_columnRefusal b x2 a2 h3) [vR x2, vI a2] yY_yX11_columnRefusal rfl mw495 mw502 mw503 (fun b => mX11_columnRefusal l D aC B b x2 a2 h3) rfl (by decide) (by decide) (by exact Nat.le_of_ble_eq_true rfl) rfl dX11_status_36 rfl (fun x5 h6 => ?_)
        refine sm_istore (i := 4) (lv' := [(4, vI x5), (3, vR x2), (0, vR (some a0)), (1, vI a1), (2, vI a2)]) (pc' := 41) dX11_status_39 rfl (by decide) rfl ?_
        refine sm_iload (i := 4) (j := 0) (pc' := 43) dX11_status_41 rfl rfl ?_
        refine sm_if_eq (tgt := 49) (pc' := 46) dX11_status_43 (by decide) rfl ?_ ?_
        · refine sm_aload_n (i := 0) (j := 2) (pc' := 50) dX11_status_49 rfl rfl rfl ?_
          refine sm_aload_n (i := 3) (j := 1) (pc' := 51) dX11_status_50 rfl rfl rfl ?_
          refine sm_aload_n (i := 0) (j := 2) (pc' := 52) dX11_status_51 rfl rfl rfl ?_
          refine sm_aload_n (i := 3) (j := 1) (pc' := 53) dX11_status_52 rfl rfl rfl ?_
          refine sm_iload_n (i := 2) (j := 4) (pc' := 54) dX11_status_53 rfl rfl rfl ?_
          refine sm_cVR (pc' := 57) (ci := 11) (st := [vR x2, vR (some a0)]) (F := fun b => fX11_columnName b x2 a2 h6) [vR x2, vI a2] yY_yX11_columnName rfl mw496 mw500 mw501 (fun b => mX11_columnName l D aC B b x2 a2 h6) rfl (by decide) (by decide) (by exact Nat.le_of_ble_eq_true rfl) rfl dX11_status_54 rfl (fun x7 h8 => ?_)
          refine sm_iconst (v := (2 : Int32)) (pc' := 58) dX11_status_57 rfl (by decide) ?_
          refine sm_iconst (v := (2 : Int32)) (pc' := 59) dX11_status_58 rfl (by decide) ?_
          refine sm_lconst (v := (1 : Int64)) (pc' := 60) dX11_status_59 rfl (by decide) ?_
          refine sm_ldc2 (v := (6 : Int64)) (pc' := 63) dX11_status_60 rfl mw505 ?_
          refine sm_cVI (pc' := 66) (ci := 11) (st := []) (F := fun b => fX11_newColumn b x2 x7 (2 : Int32) (2 : Int32) (1 : Int64) (6 : Int64) h8) [vR x2, vR x7, vI (2 : Int32), vI (2 : Int32), vJ (1 : Int64), vJ (6 : Int64)] yY_yX11_newColumn rfl mw497 mw498 mw499 (fun b => mX11_newColumn l D aC B b x2 x7 (2 : Int32) (2 : Int32) (1 : Int64) (6 : Int64) h8) rfl (by decide) (by decide) (by exact Nat.le_of_ble_eq_true rfl) rfl dX11_status_63 rfl (fun x9 h10 => ?_)
          refine sm_istore (i := 5) (lv' := [(5, vI x9), (4, vI x5), (3, vR x2), (0, vR (some a0)), (1, vI a1), (2, vI a2)]) (pc' := 68) dX11_status_66 rfl (by decide) rfl ?_
          refine sm_aload_n (i := 3) (j := 2) (pc' := 69) dX11_status_68 rfl rfl rfl ?_
          refine sm_aload_n (i := 0) (j := 3) (pc' := 70) dX11_status_69 rfl rfl rfl ?_
          refine sm_getR (k := 2) (pc' := 73) kX11 (by decide) mw395 dX11_status_70 rfl (fun x11 => ?_)
          refine sm_iload (i := 5) (j := 0) (pc' := 75) dX11_status_73 rfl rfl ?_
          refine sm_cVR (pc' := 78) (ci := 9) (st := [vR x2]) (F := fun b => fX9_thingAt b x9 h10) [vI x9] yY_yX9_thingAt rfl mw506 mw39 mw40 (fun b => mX9_thingAt l D aC B b x9 h10) rfl (by decide) (by decide) (by exact Nat.le_of_ble_eq_true rfl) rfl dX11_status_75 rfl (fun x12 h13 => ?_)
          refine sm_putNR (k := 3) (pc' := 81) kX7 (by decide) mw504 rfl (Or.inl ⟨_, rfl⟩) dX11_status_78 rfl (fun h14 => ?_)
          refine sm_iload (i := 5) (j := 0) (pc' := 83) dX11_status_81 rfl rfl ?_
          exact sm_iret rfl dX11_status_83
        refine sm_iload (i := 4) (j := 0) (pc' := 48) dX11_status_46 rfl rfl ?_
        exact sm_iret rfl dX11_status_48
      refine sm_bipush (v := (-3 : Int32)) (pc' := 32) dX11_status_30 rfl (by decide) ?_
      exact sm_iret rfl dX11_status_32
    refine sm_bipush (v := (-2 : Int32)) (pc' := 22) dX11_status_20 rfl (by decide) ?_
    exact sm_iret rfl dX11_status_22
  refine sm_iconst (v := (-1 : Int32)) (pc' := 14) dX11_status_13 rfl (by decide) ?_
  exact sm_iret rfl dX11_status_14
set_option maxRecDepth 100000 in
theorem mX11_status (l : Launch) (D : va_G) (aC : Nat → ClassId) (B : Nat) (a0 : Nat) (a1 : Int32) (a2 : Int32) (h : sm_H) : sm_M l D vwCl gAts aC B gTs gNs gOs yX11_status cX11_status 6 (some .int) 5 124 vlI [vR (some a0), vI a1, vI a2] h (fX11_status a0 a1 a2 h) := sm_meth [vR (some a0), vI a1, vI a2] yY_yX11_status gG gN (Nat.le_of_ble_eq_true rfl) rfl (sX11_status_0 l D aC B a0 a1 a2 h)
-- M:TreeAgent.row(IIZ)I
noncomputable def fX11_row_40  (a2 : Int32) (a3 : Int32) (a4 : Option Nat) (s0 : Int32) (h : sm_H) : Option (Int32 × sm_H) :=
  if s0 = a3 then (
    some ((0 : Int32), h)
  ) else
  if a3 = 0 then (
    (sm_obj h a4 7).bind fun b5 =>
    sm_cb (fX7_takeAway b5 (a2.toInt64) h) fun _ h4 =>
    some ((1 : Int32), h4)
  ) else
  (sm_obj h a4 7).bind fun b3 =>
  sm_cb (fX7_make b3 a2 (1 : Int32) h) fun x1 h2 =>
  if x1 = 0 then (
    some ((-4 : Int32), h2)
  ) else
  some ((1 : Int32), h2)
set_option maxRecDepth 100000 in
set_option maxHeartbeats 4000000 in
theorem sX11_row_40 (l : Launch) (D : va_G) (aC : Nat → ClassId) (B : Nat)   (a2 : Int32) (a3 : Int32) (a4 : Option Nat) (s0 : Int32) (h : sm_H) : zS l D aC B cX11_row 5 RX11 4 87 (some .int) "row" vlI (fX11_row_40 a2 a3 a4 s0 h) 40 [(2, vI a2), (3, vI a3), (4, vR a4)] [vI s0] h := by
  unfold fX11_row_40
  refine sm_iload_n (i := 3) (j := 1) (pc' := 41) dX11_row_40 rfl rfl rfl ?_
  refine sm_icmp_ne (tgt := 46) (pc' := 44) dX11_row_41 (by decide) rfl ?_ ?_
  · refine sm_iload_n (i := 3) (j := 1) (pc' := 47) dX11_row_46 rfl rfl rfl ?_
    refine sm_if_ne (tgt := 59) (pc' := 50) dX11_row_47 (by decide) rfl ?_ ?_
    · refine sm_aload (i := 4) (j := 2) (pc' := 61) dX11_row_59 rfl rfl ?_
      refine sm_iload_n (i := 2) (j := 0) (pc' := 62) dX11_row_61 rfl rfl rfl ?_
      refine sm_iconst (v := (1 : Int32)) (pc' := 63) dX11_row_62 rfl (by decide) ?_
      refine sm_cVI (pc' := 66) (ci := 7) (st := []) (F := fun b => fX7_make b a2 (1 : Int32) h) [vI a2, vI (1 : Int32)] yY_yX7_make rfl mw507 mw137 mw138 (fun b => mX7_make l D aC B b a2 (1 : Int32) h) rfl (by decide) (by decide) (by exact Nat.le_of_ble_eq_true rfl) rfl dX11_row_63 rfl (fun x1 h2 => ?_)
      refine sm_if_eq (tgt := 73) (pc' := 69) dX11_row_66 (by decide) rfl ?_ ?_
      · refine sm_bipush (v := (-4 : Int32)) (pc' := 75) dX11_row_73 rfl (by decide) ?_
        exact sm_iret rfl dX11_row_75
      refine sm_iconst (v := (1 : Int32)) (pc' := 70) dX11_row_69 rfl (by decide) ?_
      refine sm_goto (pc' := 75) dX11_row_70 (by decide) ?_
      exact sm_iret rfl dX11_row_75
    refine sm_aload (i := 4) (j := 2) (pc' := 52) dX11_row_50 rfl rfl ?_
    refine sm_iload_n (i := 2) (j := 0) (pc' := 53) dX11_row_52 rfl rfl rfl ?_
    refine sm_i2l (pc' := 54) dX11_row_53 rfl ?_
    refine sm_cVU (pc' := 57) (ci := 7) (st := []) (F := fun b => fX7_takeAway b (a2.toInt64) h) [vJ (a2.toInt64)] yY_yX7_takeAway rfl mw508 mw149 mw150 (fun b => mX7_takeAway l D aC B b (a2.toInt64) h) rfl (by decide) (by decide) (by exact Nat.le_of_ble_eq_true rfl) rfl dX11_row_54 rfl (fun _ h4 => ?_)
    refine sm_iconst (v := (1 : Int32)) (pc' := 58) dX11_row_57 rfl (by decide) ?_
    exact sm_iret rfl dX11_row_58
  refine sm_iconst (v := (0 : Int32)) (pc' := 45) dX11_row_44 rfl (by decide) ?_
  exact sm_iret rfl dX11_row_45
noncomputable def fX11_row  (a0 : Nat) (a1 : Int32) (a2 : Int32) (a3 : Int32) (h : sm_H) : Option (Int32 × sm_H) :=
  (sm_R (sm_get h (some a0) 11 2)).bind fun x1 =>
  (sm_obj h x1 9).bind fun b7 =>
  sm_cb (fX9_tableAt b7 a1 h) fun x2 h3 =>
  if x2 = none then (
    some ((-1 : Int32), h3)
  ) else
  if (1 : Int32) ≤ a2 then (
    (sm_obj h3 x2 7).bind fun b6 =>
    sm_cb (fX7_slotOf b6 (a2.toInt64) h3) fun x4 h5 =>
    if x4 < 0 then (
      fX11_row_40 a2 a3 x2 (0 : Int32) h5
    ) else
    fX11_row_40 a2 a3 x2 (1 : Int32) h5
  ) else
  some ((-2 : Int32), h3)
set_option maxRecDepth 100000 in
set_option maxHeartbeats 4000000 in
theorem sX11_row_0 (l : Launch) (D : va_G) (aC : Nat → ClassId) (B : Nat)   (a0 : Nat) (a1 : Int32) (a2 : Int32) (a3 : Int32) (h : sm_H) : zS l D aC B cX11_row 5 RX11 4 87 (some .int) "row" vlI (fX11_row a0 a1 a2 a3 h) 0 [(0, vR (some a0)), (1, vI a1), (2, vI a2), (3, vI a3)] [] h := by
  unfold fX11_row
  refine sm_aload_n (i := 0) (j := 0) (pc' := 1) dX11_row_0 rfl rfl rfl ?_
  refine sm_getR (k := 2) (pc' := 4) kX11 (by decide) mw395 dX11_row_1 rfl (fun x1 => ?_)
  refine sm_iload_n (i := 1) (j := 1) (pc' := 5) dX11_row_4 rfl rfl rfl ?_
  refine sm_cVR (pc' := 8) (ci := 9) (st := []) (F := fun b => fX9_tableAt b a1 h) [vI a1] yY_yX9_tableAt rfl mw494 mw384 mw385 (fun b => mX9_tableAt l D aC B b a1 h) rfl (by decide) (by decide) (by exact Nat.le_of_ble_eq_true rfl) rfl dX11_row_5 rfl (fun x2 h3 => ?_)
  refine sm_astore (i := 4) (lv' := [(4, vR x2), (0, vR (some a0)), (1, vI a1), (2, vI a2), (3, vI a3)]) (pc' := 10) dX11_row_8 rfl (by decide) rfl ?_
  refine sm_aload (i := 4) (j := 0) (pc' := 12) dX11_row_10 rfl rfl ?_
  refine sm_ifnonnull (tgt := 17) (pc' := 15) dX11_row_12 (by decide) rfl ?_ ?_
  · refine sm_iload_n (i := 2) (j := 3) (pc' := 18) dX11_row_17 rfl rfl rfl ?_
    refine sm_iconst (v := (1 : Int32)) (pc' := 19) dX11_row_18 rfl (by decide) ?_
    refine sm_icmp_ge (tgt := 25) (pc' := 22) dX11_row_19 (by decide) rfl ?_ ?_
    · refine sm_aload (i := 4) (j := 0) (pc' := 27) dX11_row_25 rfl rfl ?_
      refine sm_iload_n (i := 2) (j := 3) (pc' := 28) dX11_row_27 rfl rfl rfl ?_
      refine sm_i2l (pc' := 29) dX11_row_28 rfl ?_
      refine sm_cVI (pc' := 32) (ci := 7) (st := []) (F := fun b => fX7_slotOf b (a2.toInt64) h3) [vJ (a2.toInt64)] yY_yX7_slotOf rfl mw509 mw93 mw94 (fun b => mX7_slotOf l D aC B b (a2.toInt64) h3) rfl (by decide) (by decide) (by exact Nat.le_of_ble_eq_true rfl) rfl dX11_row_29 rfl (fun x4 h5 => ?_)
      refine sm_if_lt (tgt := 39) (pc' := 35) dX11_row_32 (by decide) rfl ?_ ?_
      · refine sm_iconst (v := (0 : Int32)) (pc' := 40) dX11_row_39 rfl (by decide) ?_
        refine sm_lo (lv' := [(2, vI a2), (3, vI a3), (4, vR x2)]) [3, 4, 0] rfl ?_
        exact sX11_row_40 l D aC B  a2 a3 x2 (0 : Int32) h5
      refine sm_iconst (v := (1 : Int32)) (pc' := 36) dX11_row_35 rfl (by decide) ?_
      refine sm_goto (pc' := 40) dX11_row_36 (by decide) ?_
      refine sm_lo (lv' := [(2, vI a2), (3, vI a3), (4, vR x2)]) [3, 4, 0] rfl ?_
      exact sX11_row_40 l D aC B  a2 a3 x2 (1 : Int32) h5
    refine sm_bipush (v := (-2 : Int32)) (pc' := 24) dX11_row_22 rfl (by decide) ?_
    exact sm_iret rfl dX11_row_24
  refine sm_iconst (v := (-1 : Int32)) (pc' := 16) dX11_row_15 rfl (by decide) ?_
  exact sm_iret rfl dX11_row_16
set_option maxRecDepth 100000 in
theorem mX11_row (l : Launch) (D : va_G) (aC : Nat → ClassId) (B : Nat) (a0 : Nat) (a1 : Int32) (a2 : Int32) (a3 : Int32) (h : sm_H) : sm_M l D vwCl gAts aC B gTs gNs gOs yX11_row cX11_row 5 (some .int) 4 87 vlI [vR (some a0), vI a1, vI a2, vI a3] h (fX11_row a0 a1 a2 a3 h) := sm_meth [vR (some a0), vI a1, vI a2, vI a3] yY_yX11_row gG gN (Nat.le_of_ble_eq_true rfl) rfl (sX11_row_0 l D aC B a0 a1 a2 a3 h)
-- M:TreeAgent.value(IIJ)I
noncomputable def fX11_value  (a0 : Nat) (a1 : Int32) (a2 : Int32) (a3 : Int64) (h : sm_H) : Option (Int32 × sm_H) :=
  (sm_R (sm_get h (some a0) 11 2)).bind fun x1 =>
  (sm_obj h x1 9).bind fun b19 =>
  sm_cb (fX9_thingAt b19 a1 h) fun x2 h3 =>
  if x2 = none then (
    some ((-1 : Int32), h3)
  ) else
  (sm_obj h3 x2 8).bind fun b18 =>
  sm_cb (fX8_isStatus b18 h3) fun x4 h5 =>
  if x4 = 0 then (
    (sm_obj h5 x2 8).bind fun b17 =>
    sm_cb (fX8_cellFor b17 (a2.toInt64) h5) fun x6 h7 =>
    if x6 = none then (
      some ((-1 : Int32), h7)
    ) else
    (sm_obj h7 x6 10).bind fun b16 =>
    sm_cb (fX10_isOfParts b16 h7) fun x8 h9 =>
    if x8 = 0 then (
      (sm_I (sm_get h9 x6 10 1)).bind fun x10 =>
      sm_cb (fX11_isNumberOf x10 a3 h9) fun x11 h12 =>
      if x11 = 0 then (
        some ((-2 : Int32), h12)
      ) else
      (sm_I (sm_get h12 x6 10 1)).bind fun x13 =>
      if x13 = (64 : Int32) then (
        (sm_put h12 x6 10 2 (sm_v (vJ (a3 &&& (4294967295 : Int64))))).bind fun h15 =>
        some ((1 : Int32), h15)
      ) else
      (sm_put h12 x6 10 2 (sm_v (vJ a3))).bind fun h14 =>
      some ((1 : Int32), h14)
    ) else
    some ((-1 : Int32), h9)
  ) else
  some ((-1 : Int32), h5)
set_option maxRecDepth 100000 in
set_option maxHeartbeats 4000000 in
theorem sX11_value_0 (l : Launch) (D : va_G) (aC : Nat → ClassId) (B : Nat)   (a0 : Nat) (a1 : Int32) (a2 : Int32) (a3 : Int64) (h : sm_H) : zS l D aC B cX11_value 7 RX11 3 67 (some .int) "value" vlI (fX11_value a0 a1 a2 a3 h) 0 [(0, vR (some a0)), (1, vI a1), (2, vI a2), (3, vJ a3)] [] h := by
  unfold fX11_value
  refine sm_aload_n (i := 0) (j := 0) (pc' := 1) dX11_value_0 rfl rfl rfl ?_
  refine sm_getR (k := 2) (pc' := 4) kX11 (by decide) mw395 dX11_value_1 rfl (fun x1 => ?_)
  refine sm_iload_n (i := 1) (j := 1) (pc' := 5) dX11_value_4 rfl rfl rfl ?_
  refine sm_cVR (pc' := 8) (ci := 9) (st := []) (F := fun b => fX9_thingAt b a1 h) [vI a1] yY_yX9_thingAt rfl mw506 mw39 mw40 (fun b => mX9_thingAt l D aC B b a1 h) rfl (by decide) (by decide) (by exact Nat.le_of_ble_eq_true rfl) rfl dX11_value_5 rfl (fun x2 h3 => ?_)
  refine sm_astore (i := 5) (lv' := [(5, vR x2), (0, vR (some a0)), (1, vI a1), (2, vI a2), (3, vJ a3)]) (pc' := 10) dX11_value_8 rfl (by decide) rfl ?_
  refine sm_aload (i := 5) (j := 0) (pc' := 12) dX11_value_10 rfl rfl ?_
  refine sm_ifnull (tgt := 23) (pc' := 15) dX11_value_12 (by decide) rfl ?_ ?_
  · refine sm_iconst (v := (-1 : Int32)) (pc' := 24) dX11_value_23 rfl (by decide) ?_
    exact sm_iret rfl dX11_value_24
  refine sm_aload (i := 5) (j := 0) (pc' := 17) dX11_value_15 rfl rfl ?_
  refine sm_cVI (pc' := 20) (ci := 8) (st := []) (F := fun b => fX8_isStatus b h3) [] yY_yX8_isStatus rfl mw510 mw51 mw52 (fun b => mX8_isStatus l D aC B b h3) rfl (by decide) (by decide) (by exact Nat.le_of_ble_eq_true rfl) rfl dX11_value_17 rfl (fun x4 h5 => ?_)
  refine sm_if_eq (tgt := 25) (pc' := 23) dX11_value_20 (by decide) rfl ?_ ?_
  · refine sm_aload (i := 5) (j := 0) (pc' := 27) dX11_value_25 rfl rfl ?_
    refine sm_iload_n (i := 2) (j := 3) (pc' := 28) dX11_value_27 rfl rfl rfl ?_
    refine sm_i2l (pc' := 29) dX11_value_28 rfl ?_
    refine sm_cVR (pc' := 32) (ci := 8) (st := []) (F := fun b => fX8_cellFor b (a2.toInt64) h5) [vJ (a2.toInt64)] yY_yX8_cellFor rfl mw511 mw152 mw153 (fun b => mX8_cellFor l D aC B b (a2.toInt64) h5) rfl (by decide) (by decide) (by exact Nat.le_of_ble_eq_true rfl) rfl dX11_value_29 rfl (fun x6 h7 => ?_)
    refine sm_astore (i := 6) (lv' := [(6, vR x6), (5, vR x2), (0, vR (some a0)), (1, vI a1), (2, vI a2), (3, vJ a3)]) (pc' := 34) dX11_value_32 rfl (by decide) rfl ?_
    refine sm_aload (i := 6) (j := 0) (pc' := 36) dX11_value_34 rfl rfl ?_
    refine sm_ifnull (tgt := 47) (pc' := 39) dX11_value_36 (by decide) rfl ?_ ?_
    · refine sm_iconst (v := (-1 : Int32)) (pc' := 48) dX11_value_47 rfl (by decide) ?_
      exact sm_iret rfl dX11_value_48
    refine sm_aload (i := 6) (j := 0) (pc' := 41) dX11_value_39 rfl rfl ?_
    refine sm_cVI (pc' := 44) (ci := 10) (st := []) (F := fun b => fX10_isOfParts b h7) [] yY_yX10_isOfParts rfl mw512 mw516 mw517 (fun b => mX10_isOfParts l D aC B b h7) rfl (by decide) (by decide) (by exact Nat.le_of_ble_eq_true rfl) rfl dX11_value_41 rfl (fun x8 h9 => ?_)
    refine sm_if_eq (tgt := 49) (pc' := 47) dX11_value_44 (by decide) rfl ?_ ?_
    · refine sm_aload (i := 6) (j := 0) (pc' := 51) dX11_value_49 rfl rfl ?_
      refine sm_getIN (k := 1) (pc' := 54) kX10 (by decide) mw513 dX11_value_51 rfl (fun x10 => ?_)
      refine sm_lload_n (i := 3) (j := 5) (pc' := 55) dX11_value_54 rfl rfl rfl ?_
      refine sm_cSI (pc' := 58) (st := []) [vI x10, vJ a3] yY_yX11_isNumberOf mw514 mw214 (mX11_isNumberOf l D aC B x10 a3 h9) rfl (by decide) (by decide) (by exact Nat.le_of_ble_eq_true rfl) rfl dX11_value_55 rfl (fun x11 h12 => ?_)
      refine sm_if_ne (tgt := 64) (pc' := 61) dX11_value_58 (by decide) rfl ?_ ?_
      · refine sm_aload (i := 6) (j := 0) (pc' := 66) dX11_value_64 rfl rfl ?_
        refine sm_aload (i := 6) (j := 0) (pc' := 68) dX11_value_66 rfl rfl ?_
        refine sm_getIN (k := 1) (pc' := 71) kX10 (by decide) mw513 dX11_value_68 rfl (fun x13 => ?_)
        refine sm_bipush (v := (64 : Int32)) (pc' := 73) dX11_value_71 rfl (by decide) ?_
        refine sm_icmp_ne (tgt := 84) (pc' := 76) dX11_value_73 (by decide) rfl ?_ ?_
        · refine sm_lload_n (i := 3) (j := 5) (pc' := 85) dX11_value_84 rfl rfl rfl ?_
          refine sm_putNJ (k := 2) (pc' := 88) kX10 (by decide) mw515 rfl rfl dX11_value_85 rfl (fun h14 => ?_)
          refine sm_iconst (v := (1 : Int32)) (pc' := 89) dX11_value_88 rfl (by decide) ?_
          exact sm_iret rfl dX11_value_89
        refine sm_lload_n (i := 3) (j := 5) (pc' := 77) dX11_value_76 rfl rfl rfl ?_
        refine sm_ldc2 (v := (4294967295 : Int64)) (pc' := 80) dX11_value_77 rfl mw212 ?_
        refine sm_land (pc' := 81) dX11_value_80 rfl ?_
        refine sm_goto (pc' := 85) dX11_value_81 (by decide) ?_
        refine sm_putNJ (k := 2) (pc' := 88) kX10 (by decide) mw515 rfl rfl dX11_value_85 rfl (fun h15 => ?_)
        refine sm_iconst (v := (1 : Int32)) (pc' := 89) dX11_value_88 rfl (by decide) ?_
        exact sm_iret rfl dX11_value_89
      refine sm_bipush (v := (-2 : Int32)) (pc' := 63) dX11_value_61 rfl (by decide) ?_
      exact sm_iret rfl dX11_value_63
    refine sm_iconst (v := (-1 : Int32)) (pc' := 48) dX11_value_47 rfl (by decide) ?_
    exact sm_iret rfl dX11_value_48
  refine sm_iconst (v := (-1 : Int32)) (pc' := 24) dX11_value_23 rfl (by decide) ?_
  exact sm_iret rfl dX11_value_24
set_option maxRecDepth 100000 in
theorem mX11_value (l : Launch) (D : va_G) (aC : Nat → ClassId) (B : Nat) (a0 : Nat) (a1 : Int32) (a2 : Int32) (a3 : Int64) (h : sm_H) : sm_M l D vwCl gAts aC B gTs gNs gOs yX11_value cX11_value 7 (some .int) 3 67 vlI [vR (some a0), vI a1, vI a2, vJ a3] h (fX11_value a0 a1 a2 a3 h) := sm_meth [vR (some a0), vI a1, vI a2, vJ a3] yY_yX11_value gG gN (Nat.le_of_ble_eq_true rfl) rfl (sX11_value_0 l D aC B a0 a1 a2 a3 h)
-- M:TreeAgent.cellOfTag(III)LTreeAgent$Value;
noncomputable def fX11_cellOfTag  (a0 : Nat) (a1 : Int32) (a2 : Int32) (a3 : Int32) (h : sm_H) : Option (Option Nat × sm_H) :=
  (sm_R (sm_get h (some a0) 11 2)).bind fun x1 =>
  (sm_obj h x1 9).bind fun b8 =>
  sm_cb (fX9_thingAt b8 a1 h) fun x2 h3 =>
  if x2 = none then (
    some (none, h3)
  ) else
  (sm_I (sm_get h3 x2 8 1)).bind fun x4 =>
  if x4 = a3 then (
    (sm_obj h3 x2 8).bind fun b7 =>
    sm_cb (fX8_cellFor b7 (a2.toInt64) h3) fun x5 h6 =>
    some (x5, h6)
  ) else
  some (none, h3)
set_option maxRecDepth 100000 in
set_option maxHeartbeats 4000000 in
theorem sX11_cellOfTag_0 (l : Launch) (D : va_G) (aC : Nat → ClassId) (B : Nat)   (a0 : Nat) (a1 : Int32) (a2 : Int32) (a3 : Int32) (h : sm_H) : zS l D aC B cX11_cellOfTag 5 RX11 3 67 (some (.object "TreeAgent$Value")) "cellOfTag" vlR (fX11_cellOfTag a0 a1 a2 a3 h) 0 [(0, vR (some a0)), (1, vI a1), (2, vI a2), (3, vI a3)] [] h := by
  unfold fX11_cellOfTag
  refine sm_aload_n (i := 0) (j := 0) (pc' := 1) dX11_cellOfTag_0 rfl rfl rfl ?_
  refine sm_getR (k := 2) (pc' := 4) kX11 (by decide) mw395 dX11_cellOfTag_1 rfl (fun x1 => ?_)
  refine sm_iload_n (i := 1) (j := 1) (pc' := 5) dX11_cellOfTag_4 rfl rfl rfl ?_
  refine sm_cVR (pc' := 8) (ci := 9) (st := []) (F := fun b => fX9_thingAt b a1 h) [vI a1] yY_yX9_thingAt rfl mw506 mw39 mw40 (fun b => mX9_thingAt l D aC B b a1 h) rfl (by decide) (by decide) (by exact Nat.le_of_ble_eq_true rfl) rfl dX11_cellOfTag_5 rfl (fun x2 h3 => ?_)
  refine sm_astore (i := 4) (lv' := [(4, vR x2), (0, vR (some a0)), (1, vI a1), (2, vI a2), (3, vI a3)]) (pc' := 10) dX11_cellOfTag_8 rfl (by decide) rfl ?_
  refine sm_aload (i := 4) (j := 0) (pc' := 12) dX11_cellOfTag_10 rfl rfl ?_
  refine sm_ifnull (tgt := 24) (pc' := 15) dX11_cellOfTag_12 (by decide) rfl ?_ ?_
  · refine sm_null (pc' := 25) dX11_cellOfTag_24 rfl ?_
    refine sm_goto (pc' := 35) dX11_cellOfTag_25 (by decide) ?_
    exact sm_aret rfl dX11_cellOfTag_35
  refine sm_aload (i := 4) (j := 0) (pc' := 17) dX11_cellOfTag_15 rfl rfl ?_
  refine sm_getIN (k := 1) (pc' := 20) kX8 (by decide) mw518 dX11_cellOfTag_17 rfl (fun x4 => ?_)
  refine sm_iload_n (i := 3) (j := 4) (pc' := 21) dX11_cellOfTag_20 rfl rfl rfl ?_
  refine sm_icmp_eq (tgt := 28) (pc' := 24) dX11_cellOfTag_21 (by decide) rfl ?_ ?_
  · refine sm_aload (i := 4) (j := 0) (pc' := 30) dX11_cellOfTag_28 rfl rfl ?_
    refine sm_iload_n (i := 2) (j := 3) (pc' := 31) dX11_cellOfTag_30 rfl rfl rfl ?_
    refine sm_i2l (pc' := 32) dX11_cellOfTag_31 rfl ?_
    refine sm_cVR (pc' := 35) (ci := 8) (st := []) (F := fun b => fX8_cellFor b (a2.toInt64) h3) [vJ (a2.toInt64)] yY_yX8_cellFor rfl mw511 mw152 mw153 (fun b => mX8_cellFor l D aC B b (a2.toInt64) h3) rfl (by decide) (by decide) (by exact Nat.le_of_ble_eq_true rfl) rfl dX11_cellOfTag_32 rfl (fun x5 h6 => ?_)
    exact sm_aret rfl dX11_cellOfTag_35
  refine sm_null (pc' := 25) dX11_cellOfTag_24 rfl ?_
  refine sm_goto (pc' := 35) dX11_cellOfTag_25 (by decide) ?_
  exact sm_aret rfl dX11_cellOfTag_35
set_option maxRecDepth 100000 in
theorem mX11_cellOfTag (l : Launch) (D : va_G) (aC : Nat → ClassId) (B : Nat) (a0 : Nat) (a1 : Int32) (a2 : Int32) (a3 : Int32) (h : sm_H) : sm_M l D vwCl gAts aC B gTs gNs gOs yX11_cellOfTag cX11_cellOfTag 5 (some (.object "TreeAgent$Value")) 3 67 vlR [vR (some a0), vI a1, vI a2, vI a3] h (fX11_cellOfTag a0 a1 a2 a3 h) := sm_meth [vR (some a0), vI a1, vI a2, vI a3] yY_yX11_cellOfTag gG gN (Nat.le_of_ble_eq_true rfl) rfl (sX11_cellOfTag_0 l D aC B a0 a1 a2 a3 h)
-- M:TreeAgent.becomeText(II)I
noncomputable def fX11_becomeText  (a0 : Nat) (a1 : Int32) (a2 : Int32) (h : sm_H) : Option (Int32 × sm_H) :=
  (sm_obj h (some a0) 11).bind fun b15 =>
  sm_cb (fX11_cellOfTag b15 a1 a2 (4 : Int32) h) fun x1 h2 =>
  if x1 = none then (
    some ((-1 : Int32), h2)
  ) else
  (sm_R (sm_get h2 (some a0) 11 0)).bind fun x3 =>
  (sm_obj h2 x3 0).bind fun b14 =>
  sm_cb (fX0_size b14 h2) fun x4 h5 =>
  if x4 ≤ (40 : Int32) then (
    (sm_R (sm_get h5 x1 10 0)).bind fun x6 =>
    (sm_R (sm_get h5 (some a0) 11 0)).bind fun x7 =>
    (sm_obj h5 x6 0).bind fun b13 =>
    sm_cb (fX0_copy b13 x7 h5) fun _ h8 =>
    (sm_R (sm_get h8 (some a0) 11 0)).bind fun x9 =>
    (sm_obj h8 x9 0).bind fun b12 =>
    sm_cb (fX0_size b12 h8) fun x10 h11 =>
    some (x10, h11)
  ) else
  some ((-2 : Int32), h5)
set_option maxRecDepth 100000 in
set_option maxHeartbeats 4000000 in
theorem sX11_becomeText_0 (l : Launch) (D : va_G) (aC : Nat → ClassId) (B : Nat)   (a0 : Nat) (a1 : Int32) (a2 : Int32) (h : sm_H) : zS l D aC B cX11_becomeText 4 RX11 4 91 (some .int) "becomeText" vlI (fX11_becomeText a0 a1 a2 h) 0 [(0, vR (some a0)), (1, vI a1), (2, vI a2)] [] h := by
  unfold fX11_becomeText
  refine sm_aload_n (i := 0) (j := 0) (pc' := 1) dX11_becomeText_0 rfl rfl rfl ?_
  refine sm_iload_n (i := 1) (j := 1) (pc' := 2) dX11_becomeText_1 rfl rfl rfl ?_
  refine sm_iload_n (i := 2) (j := 2) (pc' := 3) dX11_becomeText_2 rfl rfl rfl ?_
  refine sm_iconst (v := (4 : Int32)) (pc' := 4) dX11_becomeText_3 rfl (by decide) ?_
  refine sm_cVR (pc' := 7) (ci := 11) (st := []) (F := fun b => fX11_cellOfTag b a1 a2 (4 : Int32) h) [vI a1, vI a2, vI (4 : Int32)] yY_yX11_cellOfTag rfl mw519 mw521 mw522 (fun b => mX11_cellOfTag l D aC B b a1 a2 (4 : Int32) h) rfl (by decide) (by decide) (by exact Nat.le_of_ble_eq_true rfl) rfl dX11_becomeText_4 rfl (fun x1 h2 => ?_)
  refine sm_astore_n (i := 3) (lv' := [(3, vR x1), (0, vR (some a0)), (1, vI a1), (2, vI a2)]) (pc' := 8) dX11_becomeText_7 rfl rfl (by decide) rfl ?_
  refine sm_aload_n (i := 3) (j := 0) (pc' := 9) dX11_becomeText_8 rfl rfl rfl ?_
  refine sm_ifnonnull (tgt := 14) (pc' := 12) dX11_becomeText_9 (by decide) rfl ?_ ?_
  · refine sm_aload_n (i := 0) (j := 1) (pc' := 15) dX11_becomeText_14 rfl rfl rfl ?_
    refine sm_getR (k := 0) (pc' := 18) kX11 (by decide) mw392 dX11_becomeText_15 rfl (fun x3 => ?_)
    refine sm_cVI (pc' := 21) (ci := 0) (st := []) (F := fun b => fX0_size b h2) [] yY_yX0_size rfl mw436 mw32 mw33 (fun b => mX0_size l D aC B b h2) rfl (by decide) (by decide) (by exact Nat.le_of_ble_eq_true rfl) rfl dX11_becomeText_18 rfl (fun x4 h5 => ?_)
    refine sm_bipush (v := (40 : Int32)) (pc' := 23) dX11_becomeText_21 rfl (by decide) ?_
    refine sm_icmp_le (tgt := 29) (pc' := 26) dX11_becomeText_23 (by decide) rfl ?_ ?_
    · refine sm_aload_n (i := 3) (j := 0) (pc' := 30) dX11_becomeText_29 rfl rfl rfl ?_
      refine sm_getRN (k := 0) (pc' := 33) kX10 (by decide) mw520 dX11_becomeText_30 rfl (fun x6 => ?_)
      refine sm_aload_n (i := 0) (j := 1) (pc' := 34) dX11_becomeText_33 rfl rfl rfl ?_
      refine sm_getR (k := 0) (pc' := 37) kX11 (by decide) mw392 dX11_becomeText_34 rfl (fun x7 => ?_)
      refine sm_cVU (pc' := 40) (ci := 0) (st := []) (F := fun b => fX0_copy b x7 h5) [vR x7] yY_yX0_copy rfl mw490 mw142 mw143 (fun b => mX0_copy l D aC B b x7 h5) rfl (by decide) (by decide) (by exact Nat.le_of_ble_eq_true rfl) rfl dX11_becomeText_37 rfl (fun _ h8 => ?_)
      refine sm_aload_n (i := 0) (j := 1) (pc' := 41) dX11_becomeText_40 rfl rfl rfl ?_
      refine sm_getR (k := 0) (pc' := 44) kX11 (by decide) mw392 dX11_becomeText_41 rfl (fun x9 => ?_)
      refine sm_cVI (pc' := 47) (ci := 0) (st := []) (F := fun b => fX0_size b h8) [] yY_yX0_size rfl mw436 mw32 mw33 (fun b => mX0_size l D aC B b h8) rfl (by decide) (by decide) (by exact Nat.le_of_ble_eq_true rfl) rfl dX11_becomeText_44 rfl (fun x10 h11 => ?_)
      exact sm_iret rfl dX11_becomeText_47
    refine sm_bipush (v := (-2 : Int32)) (pc' := 28) dX11_becomeText_26 rfl (by decide) ?_
    exact sm_iret rfl dX11_becomeText_28
  refine sm_iconst (v := (-1 : Int32)) (pc' := 13) dX11_becomeText_12 rfl (by decide) ?_
  exact sm_iret rfl dX11_becomeText_13
set_option maxRecDepth 100000 in
theorem mX11_becomeText (l : Launch) (D : va_G) (aC : Nat → ClassId) (B : Nat) (a0 : Nat) (a1 : Int32) (a2 : Int32) (h : sm_H) : sm_M l D vwCl gAts aC B gTs gNs gOs yX11_becomeText cX11_becomeText 4 (some .int) 4 91 vlI [vR (some a0), vI a1, vI a2] h (fX11_becomeText a0 a1 a2 h) := sm_meth [vR (some a0), vI a1, vI a2] yY_yX11_becomeText gG gN (Nat.le_of_ble_eq_true rfl) rfl (sX11_becomeText_0 l D aC B a0 a1 a2 h)
-- M:TreeAgent.text(II)I
noncomputable def fX11_text  (a0 : Nat) (a1 : Int32) (a2 : Int32) (h : sm_H) : Option (Int32 × sm_H) :=
  (sm_obj h (some a0) 11).bind fun b6 =>
  sm_cb (fX11_becomeText b6 a1 a2 h) fun x1 h2 =>
  (sm_R (sm_get h2 (some a0) 11 0)).bind fun x3 =>
  (sm_obj h2 x3 0).bind fun b5 =>
  sm_cb (fX0_clear b5 h2) fun _ h4 =>
  some (x1, h4)
set_option maxRecDepth 100000 in
set_option maxHeartbeats 4000000 in
theorem sX11_text_0 (l : Launch) (D : va_G) (aC : Nat → ClassId) (B : Nat)   (a0 : Nat) (a1 : Int32) (a2 : Int32) (h : sm_H) : zS l D aC B cX11_text 4 RX11 5 114 (some .int) "text" vlI (fX11_text a0 a1 a2 h) 0 [(0, vR (some a0)), (1, vI a1), (2, vI a2)] [] h := by
  unfold fX11_text
  refine sm_aload_n (i := 0) (j := 0) (pc' := 1) dX11_text_0 rfl rfl rfl ?_
  refine sm_iload_n (i := 1) (j := 1) (pc' := 2) dX11_text_1 rfl rfl rfl ?_
  refine sm_iload_n (i := 2) (j := 2) (pc' := 3) dX11_text_2 rfl rfl rfl ?_
  refine sm_cVI (pc' := 6) (ci := 11) (st := []) (F := fun b => fX11_becomeText b a1 a2 h) [vI a1, vI a2] yY_yX11_becomeText rfl mw523 mw524 mw525 (fun b => mX11_becomeText l D aC B b a1 a2 h) rfl (by decide) (by decide) (by exact Nat.le_of_ble_eq_true rfl) rfl dX11_text_3 rfl (fun x1 h2 => ?_)
  refine sm_istore_n (i := 3) (lv' := [(3, vI x1), (0, vR (some a0)), (1, vI a1), (2, vI a2)]) (pc' := 7) dX11_text_6 rfl rfl (by decide) rfl ?_
  refine sm_aload_n (i := 0) (j := 1) (pc' := 8) dX11_text_7 rfl rfl rfl ?_
  refine sm_getR (k := 0) (pc' := 11) kX11 (by decide) mw392 dX11_text_8 rfl (fun x3 => ?_)
  refine sm_cVU (pc' := 14) (ci := 0) (st := []) (F := fun b => fX0_clear b h2) [] yY_yX0_clear rfl mw439 mw121 mw122 (fun b => mX0_clear l D aC B b h2) rfl (by decide) (by decide) (by exact Nat.le_of_ble_eq_true rfl) rfl dX11_text_11 rfl (fun _ h4 => ?_)
  refine sm_iload_n (i := 3) (j := 0) (pc' := 15) dX11_text_14 rfl rfl rfl ?_
  exact sm_iret rfl dX11_text_15
set_option maxRecDepth 100000 in
theorem mX11_text (l : Launch) (D : va_G) (aC : Nat → ClassId) (B : Nat) (a0 : Nat) (a1 : Int32) (a2 : Int32) (h : sm_H) : sm_M l D vwCl gAts aC B gTs gNs gOs yX11_text cX11_text 4 (some .int) 5 114 vlI [vR (some a0), vI a1, vI a2] h (fX11_text a0 a1 a2 h) := sm_meth [vR (some a0), vI a1, vI a2] yY_yX11_text gG gN (Nat.le_of_ble_eq_true rfl) rfl (sX11_text_0 l D aC B a0 a1 a2 h)
-- M:TreeAgent.becomeName(II)I
noncomputable def fX11_becomeName  (a0 : Nat) (a1 : Int32) (a2 : Int32) (h : sm_H) : Option (Int32 × sm_H) :=
  (sm_obj h (some a0) 11).bind fun b14 =>
  sm_cb (fX11_cellOfTag b14 a1 a2 (6 : Int32) h) fun x1 h2 =>
  if x1 = none then (
    some ((-1 : Int32), h2)
  ) else
  (sm_obj h2 (some a0) 11).bind fun b13 =>
  sm_cb (fX11_isNameAtHand b13 (16 : Int32) h2) fun x3 h4 =>
  if x3 = 0 then (
    some ((-2 : Int32), h4)
  ) else
  (sm_R (sm_get h4 x1 10 0)).bind fun x5 =>
  (sm_R (sm_get h4 (some a0) 11 1)).bind fun x6 =>
  (sm_obj h4 x5 0).bind fun b12 =>
  sm_cb (fX0_copy b12 x6 h4) fun _ h7 =>
  (sm_R (sm_get h7 (some a0) 11 1)).bind fun x8 =>
  (sm_obj h7 x8 0).bind fun b11 =>
  sm_cb (fX0_size b11 h7) fun x9 h10 =>
  some (x9, h10)
set_option maxRecDepth 100000 in
set_option maxHeartbeats 4000000 in
theorem sX11_becomeName_0 (l : Launch) (D : va_G) (aC : Nat → ClassId) (B : Nat)   (a0 : Nat) (a1 : Int32) (a2 : Int32) (h : sm_H) : zS l D aC B cX11_becomeName 4 RX11 4 91 (some .int) "becomeName" vlI (fX11_becomeName a0 a1 a2 h) 0 [(0, vR (some a0)), (1, vI a1), (2, vI a2)] [] h := by
  unfold fX11_becomeName
  refine sm_aload_n (i := 0) (j := 0) (pc' := 1) dX11_becomeName_0 rfl rfl rfl ?_
  refine sm_iload_n (i := 1) (j := 1) (pc' := 2) dX11_becomeName_1 rfl rfl rfl ?_
  refine sm_iload_n (i := 2) (j := 2) (pc' := 3) dX11_becomeName_2 rfl rfl rfl ?_
  refine sm_bipush (v := (6 : Int32)) (pc' := 5) dX11_becomeName_3 rfl (by decide) ?_
  refine sm_cVR (pc' := 8) (ci := 11) (st := []) (F := fun b => fX11_cellOfTag b a1 a2 (6 : Int32) h) [vI a1, vI a2, vI (6 : Int32)] yY_yX11_cellOfTag rfl mw519 mw521 mw522 (fun b => mX11_cellOfTag l D aC B b a1 a2 (6 : Int32) h) rfl (by decide) (by decide) (by exact Nat.le_of_ble_eq_true rfl) rfl dX11_becomeName_5 rfl (fun x1 h2 => ?_)
  refine sm_astore_n (i := 3) (lv' := [(3, vR x1), (0, vR (some a0)), (1, vI a1), (2, vI a2)]) (pc' := 9) dX11_becomeName_8 rfl rfl (by decide) rfl ?_
  refine sm_aload_n (i := 3) (j := 0) (pc' := 10) dX11_becomeName_9 rfl rfl rfl ?_
  refine sm_ifnonnull (tgt := 15) (pc' := 13) dX11_becomeName_10 (by decide) rfl ?_ ?_
  · refine sm_aload_n (i := 0) (j := 1) (pc' := 16) dX11_becomeName_15 rfl rfl rfl ?_
    refine sm_bipush (v := (16 : Int32)) (pc' := 18) dX11_becomeName_16 rfl (by decide) ?_
    refine sm_cVI (pc' := 21) (ci := 11) (st := []) (F := fun b => fX11_isNameAtHand b (16 : Int32) h2) [vI (16 : Int32)] yY_yX11_isNameAtHand rfl mw447 mw462 mw463 (fun b => mX11_isNameAtHand l D aC B b (16 : Int32) h2) rfl (by decide) (by decide) (by exact Nat.le_of_ble_eq_true rfl) rfl dX11_becomeName_18 rfl (fun x3 h4 => ?_)
    refine sm_if_ne (tgt := 27) (pc' := 24) dX11_becomeName_21 (by decide) rfl ?_ ?_
    · refine sm_aload_n (i := 3) (j := 0) (pc' := 28) dX11_becomeName_27 rfl rfl rfl ?_
      refine sm_getRN (k := 0) (pc' := 31) kX10 (by decide) mw520 dX11_becomeName_28 rfl (fun x5 => ?_)
      refine sm_aload_n (i := 0) (j := 1) (pc' := 32) dX11_becomeName_31 rfl rfl rfl ?_
      refine sm_getR (k := 1) (pc' := 35) kX11 (by decide) mw393 dX11_becomeName_32 rfl (fun x6 => ?_)
      refine sm_cVU (pc' := 38) (ci := 0) (st := []) (F := fun b => fX0_copy b x6 h4) [vR x6] yY_yX0_copy rfl mw490 mw142 mw143 (fun b => mX0_copy l D aC B b x6 h4) rfl (by decide) (by decide) (by exact Nat.le_of_ble_eq_true rfl) rfl dX11_becomeName_35 rfl (fun _ h7 => ?_)
      refine sm_aload_n (i := 0) (j := 1) (pc' := 39) dX11_becomeName_38 rfl rfl rfl ?_
      refine sm_getR (k := 1) (pc' := 42) kX11 (by decide) mw393 dX11_becomeName_39 rfl (fun x8 => ?_)
      refine sm_cVI (pc' := 45) (ci := 0) (st := []) (F := fun b => fX0_size b h7) [] yY_yX0_size rfl mw436 mw32 mw33 (fun b => mX0_size l D aC B b h7) rfl (by decide) (by decide) (by exact Nat.le_of_ble_eq_true rfl) rfl dX11_becomeName_42 rfl (fun x9 h10 => ?_)
      exact sm_iret rfl dX11_becomeName_45
    refine sm_bipush (v := (-2 : Int32)) (pc' := 26) dX11_becomeName_24 rfl (by decide) ?_
    exact sm_iret rfl dX11_becomeName_26
  refine sm_iconst (v := (-1 : Int32)) (pc' := 14) dX11_becomeName_13 rfl (by decide) ?_
  exact sm_iret rfl dX11_becomeName_14
set_option maxRecDepth 100000 in
theorem mX11_becomeName (l : Launch) (D : va_G) (aC : Nat → ClassId) (B : Nat) (a0 : Nat) (a1 : Int32) (a2 : Int32) (h : sm_H) : sm_M l D vwCl gAts aC B gTs gNs gOs yX11_becomeName cX11_becomeName 4 (some .int) 4 91 vlI [vR (some a0), vI a1, vI a2] h (fX11_becomeName a0 a1 a2 h) := sm_meth [vR (some a0), vI a1, vI a2] yY_yX11_becomeName gG gN (Nat.le_of_ble_eq_true rfl) rfl (sX11_becomeName_0 l D aC B a0 a1 a2 h)
-- M:TreeAgent.identity(II)I
noncomputable def fX11_identity  (a0 : Nat) (a1 : Int32) (a2 : Int32) (h : sm_H) : Option (Int32 × sm_H) :=
  (sm_obj h (some a0) 11).bind fun b6 =>
  sm_cb (fX11_becomeName b6 a1 a2 h) fun x1 h2 =>
  (sm_R (sm_get h2 (some a0) 11 1)).bind fun x3 =>
  (sm_obj h2 x3 0).bind fun b5 =>
  sm_cb (fX0_clear b5 h2) fun _ h4 =>
  some (x1, h4)
set_option maxRecDepth 100000 in
set_option maxHeartbeats 4000000 in
theorem sX11_identity_0 (l : Launch) (D : va_G) (aC : Nat → ClassId) (B : Nat)   (a0 : Nat) (a1 : Int32) (a2 : Int32) (h : sm_H) : zS l D aC B cX11_identity 4 RX11 5 114 (some .int) "identity" vlI (fX11_identity a0 a1 a2 h) 0 [(0, vR (some a0)), (1, vI a1), (2, vI a2)] [] h := by
  unfold fX11_identity
  refine sm_aload_n (i := 0) (j := 0) (pc' := 1) dX11_identity_0 rfl rfl rfl ?_
  refine sm_iload_n (i := 1) (j := 1) (pc' := 2) dX11_identity_1 rfl rfl rfl ?_
  refine sm_iload_n (i := 2) (j := 2) (pc' := 3) dX11_identity_2 rfl rfl rfl ?_
  refine sm_cVI (pc' := 6) (ci := 11) (st := []) (F := fun b => fX11_becomeName b a1 a2 h) [vI a1, vI a2] yY_yX11_becomeName rfl mw526 mw527 mw528 (fun b => mX11_becomeName l D aC B b a1 a2 h) rfl (by decide) (by decide) (by exact Nat.le_of_ble_eq_true rfl) rfl dX11_identity_3 rfl (fun x1 h2 => ?_)
  refine sm_istore_n (i := 3) (lv' := [(3, vI x1), (0, vR (some a0)), (1, vI a1), (2, vI a2)]) (pc' := 7) dX11_identity_6 rfl rfl (by decide) rfl ?_
  refine sm_aload_n (i := 0) (j := 1) (pc' := 8) dX11_identity_7 rfl rfl rfl ?_
  refine sm_getR (k := 1) (pc' := 11) kX11 (by decide) mw393 dX11_identity_8 rfl (fun x3 => ?_)
  refine sm_cVU (pc' := 14) (ci := 0) (st := []) (F := fun b => fX0_clear b h2) [] yY_yX0_clear rfl mw439 mw121 mw122 (fun b => mX0_clear l D aC B b h2) rfl (by decide) (by decide) (by exact Nat.le_of_ble_eq_true rfl) rfl dX11_identity_11 rfl (fun _ h4 => ?_)
  refine sm_iload_n (i := 3) (j := 0) (pc' := 15) dX11_identity_14 rfl rfl rfl ?_
  exact sm_iret rfl dX11_identity_15
set_option maxRecDepth 100000 in
theorem mX11_identity (l : Launch) (D : va_G) (aC : Nat → ClassId) (B : Nat) (a0 : Nat) (a1 : Int32) (a2 : Int32) (h : sm_H) : sm_M l D vwCl gAts aC B gTs gNs gOs yX11_identity cX11_identity 4 (some .int) 5 114 vlI [vR (some a0), vI a1, vI a2] h (fX11_identity a0 a1 a2 h) := sm_meth [vR (some a0), vI a1, vI a2] yY_yX11_identity gG gN (Nat.le_of_ble_eq_true rfl) rfl (sX11_identity_0 l D aC B a0 a1 a2 h)
-- M:TreeAgent.communityNamed(LTreeAgent$Chain;)LTreeAgent$Community;
noncomputable def fX11_communityNamed_2  : Nat → Nat → Option Nat → Int32 → sm_H → Option (Option Nat × sm_H)
  | 0 => fun _ _ _ _ => none
  | n + 1 => fun a0 a1 a2 h =>
    (sm_R (sm_get h (some a0) 11 3)).bind fun x1 =>
    (sm_len h x1 6).bind fun x2 =>
    if x2 ≤ a2 then (
      some (none, h)
    ) else
    (sm_R (sm_get h (some a0) 11 3)).bind fun x3 =>
    (sm_aR h x3 6 a2).bind fun x4 =>
    if x4 = none then (
      sm_let (a2 + (1 : Int32)) fun x5 =>
      (fX11_communityNamed_2 n) a0 a1 x5 h
    ) else
    (sm_R (sm_get h x4 2 0)).bind fun x6 =>
    (sm_obj h x6 0).bind fun b10 =>
    sm_cb (fX0_isSame b10 a1 h) fun x7 h8 =>
    if x7 = 0 then (
      sm_let (a2 + (1 : Int32)) fun x9 =>
      (fX11_communityNamed_2 n) a0 a1 x9 h8
    ) else
    some (x4, h8)
set_option maxRecDepth 100000 in
set_option maxHeartbeats 4000000 in
theorem sX11_communityNamed_2 (l : Launch) (D : va_G) (aC : Nat → ClassId) (B : Nat)   (n : Nat) : ∀ (a0 : Nat) (a1 : Option Nat) (a2 : Int32) (h : sm_H), zS l D aC B cX11_communityNamed 4 RX11 3 64 (some (.object "TreeAgent$Community")) "communityNamed" vlR (fX11_communityNamed_2 n a0 a1 a2 h) 2 [(0, vR (some a0)), (1, vR a1), (2, vI a2)] [] h := by
  induction n with
  | zero => intro a0 a1 a2 h; exact sm_none
  | succ n ih =>
    intro a0 a1 a2 h
    show zS l D aC B cX11_communityNamed 4 RX11 3 64 (some (.object "TreeAgent$Community")) "communityNamed" vlR (fX11_communityNamed_2 (n + 1) a0 a1 a2 h) 2 [(0, vR (some a0)), (1, vR a1), (2, vI a2)] [] h
    unfold fX11_communityNamed_2
    refine sm_iload_n (i := 2) (j := 2) (pc' := 3) dX11_communityNamed_2 rfl rfl rfl ?_
    refine sm_aload_n (i := 0) (j := 0) (pc' := 4) dX11_communityNamed_3 rfl rfl rfl ?_
    refine sm_getR (k := 3) (pc' := 7) kX11 (by decide) mw397 dX11_communityNamed_4 rfl (fun x1 => ?_)
    refine sm_alen (t := 6) (pc' := 8) rfl dX11_communityNamed_7 rfl (fun x2 => ?_)
    refine sm_icmp_ge (tgt := 41) (pc' := 11) dX11_communityNamed_8 (by decide) rfl ?_ ?_
    · refine sm_null (pc' := 42) dX11_communityNamed_41 rfl ?_
      exact sm_aret rfl dX11_communityNamed_42
    refine sm_aload_n (i := 0) (j := 0) (pc' := 12) dX11_communityNamed_11 rfl rfl rfl ?_
    refine sm_getR (k := 3) (pc' := 15) kX11 (by decide) mw397 dX11_communityNamed_12 rfl (fun x3 => ?_)
    refine sm_iload_n (i := 2) (j := 2) (pc' := 16) dX11_communityNamed_15 rfl rfl rfl ?_
    refine sm_aald (t := 6) (pc' := 17) rfl dX11_communityNamed_16 rfl (fun x4 => ?_)
    refine sm_astore_n (i := 3) (lv' := [(3, vR x4), (0, vR (some a0)), (1, vR a1), (2, vI a2)]) (pc' := 18) dX11_communityNamed_17 rfl rfl (by decide) rfl ?_
    refine sm_aload_n (i := 3) (j := 0) (pc' := 19) dX11_communityNamed_18 rfl rfl rfl ?_
    refine sm_ifnull (tgt := 35) (pc' := 22) dX11_communityNamed_19 (by decide) rfl ?_ ?_
    · refine sm_iincL (i := 2) (j := 3) (x := a2) (d := (1 : Int32)) (fun x5 => [(2, vI x5), (3, vR x4), (0, vR (some a0)), (1, vR a1)]) (pc' := 38) dX11_communityNamed_35 rfl rfl (by decide) (by decide) (fun _ => rfl) (fun x5 => ?_)
      refine sm_goto (pc' := 2) dX11_communityNamed_38 (by decide) ?_
      refine sm_lo (lv' := [(0, vR (some a0)), (1, vR a1), (2, vI x5)]) [2, 3, 0] rfl ?_
      exact ih a0 a1 x5 h
    refine sm_aload_n (i := 3) (j := 0) (pc' := 23) dX11_communityNamed_22 rfl rfl rfl ?_
    refine sm_getRN (k := 0) (pc' := 26) kX2 (by decide) mw529 dX11_communityNamed_23 rfl (fun x6 => ?_)
    refine sm_aload_n (i := 1) (j := 2) (pc' := 27) dX11_communityNamed_26 rfl rfl rfl ?_
    refine sm_cVI (pc' := 30) (ci := 0) (st := []) (F := fun b => fX0_isSame b a1 h) [vR a1] yY_yX0_isSame rfl mw530 mw531 mw532 (fun b => mX0_isSame l D aC B b a1 h) rfl (by decide) (by decide) (by exact Nat.le_of_ble_eq_true rfl) rfl dX11_communityNamed_27 rfl (fun x7 h8 => ?_)
    refine sm_if_eq (tgt := 35) (pc' := 33) dX11_communityNamed_30 (by decide) rfl ?_ ?_
    · refine sm_iincL (i := 2) (j := 3) (x := a2) (d := (1 : Int32)) (fun x9 => [(2, vI x9), (3, vR x4), (0, vR (some a0)), (1, vR a1)]) (pc' := 38) dX11_communityNamed_35 rfl rfl (by decide) (by decide) (fun _ => rfl) (fun x9 => ?_)
      refine sm_goto (pc' := 2) dX11_communityNamed_38 (by decide) ?_
      refine sm_lo (lv' := [(0, vR (some a0)), (1, vR a1), (2, vI x9)]) [2, 3, 0] rfl ?_
      exact ih a0 a1 x9 h8
    refine sm_aload_n (i := 3) (j := 0) (pc' := 34) dX11_communityNamed_33 rfl rfl rfl ?_
    exact sm_aret rfl dX11_communityNamed_34
noncomputable def fX11_communityNamed  (a0 : Nat) (a1 : Option Nat) (h : sm_H) : Option (Option Nat × sm_H) :=
  fX11_communityNamed_2 sm_fuel a0 a1 (0 : Int32) h
set_option maxRecDepth 100000 in
set_option maxHeartbeats 4000000 in
theorem sX11_communityNamed_0 (l : Launch) (D : va_G) (aC : Nat → ClassId) (B : Nat)   (a0 : Nat) (a1 : Option Nat) (h : sm_H) : zS l D aC B cX11_communityNamed 4 RX11 3 64 (some (.object "TreeAgent$Community")) "communityNamed" vlR (fX11_communityNamed a0 a1 h) 0 [(0, vR (some a0)), (1, vR a1)] [] h := by
  unfold fX11_communityNamed
  refine sm_iconst (v := (0 : Int32)) (pc' := 1) dX11_communityNamed_0 rfl (by decide) ?_
  refine sm_istore_n (i := 2) (lv' := [(2, vI (0 : Int32)), (0, vR (some a0)), (1, vR a1)]) (pc' := 2) dX11_communityNamed_1 rfl rfl (by decide) rfl ?_
  refine sm_lo (lv' := [(0, vR (some a0)), (1, vR a1), (2, vI (0 : Int32))]) [1, 2, 0] rfl ?_
  exact sX11_communityNamed_2 l D aC B   sm_fuel a0 a1 (0 : Int32) h
set_option maxRecDepth 100000 in
theorem mX11_communityNamed (l : Launch) (D : va_G) (aC : Nat → ClassId) (B : Nat) (a0 : Nat) (a1 : Option Nat) (h : sm_H) : sm_M l D vwCl gAts aC B gTs gNs gOs yX11_communityNamed cX11_communityNamed 4 (some (.object "TreeAgent$Community")) 3 64 vlR [vR (some a0), vR a1] h (fX11_communityNamed a0 a1 h) := sm_meth [vR (some a0), vR a1] yY_yX11_communityNamed gG gN (Nat.le_of_ble_eq_true rfl) rfl (sX11_communityNamed_0 l D aC B a0 a1 h)
-- M:TreeAgent.newCommunity(Z)I
noncomputable def fX11_newCommunity  (a0 : Nat) (a1 : Int32) (h : sm_H) : Option (Int32 × sm_H) :=
  (sm_R (sm_get h (some a0) 11 0)).bind fun x1 =>
  (sm_obj h x1 0).bind fun b21 =>
  sm_cb (fX0_size b21 h) fun x2 h3 =>
  if x2 ≤ (40 : Int32) then (
    (sm_R (sm_get h3 (some a0) 11 0)).bind fun x4 =>
    (sm_obj h3 (some a0) 11).bind fun b20 =>
    sm_cb (fX11_communityNamed b20 x4 h3) fun x5 h6 =>
    if x5 = none then (
      (sm_I (sm_get h6 (some a0) 11 14)).bind fun x7 =>
      if x7 < 0 then (
        some ((-4 : Int32), h6)
      ) else
      (sm_I (sm_get h6 (some a0) 11 14)).bind fun x8 =>
      (sm_R (sm_get h6 (some a0) 11 3)).bind fun x9 =>
      (sm_len h6 x9 6).bind fun x10 =>
      if x8 < x10 then (
        (sm_R (sm_get h6 (some a0) 11 3)).bind fun x11 =>
        (sm_I (sm_get h6 (some a0) 11 14)).bind fun x12 =>
        sm_let (sm_new h6 2 [.null, .int 0, .null, .null, .int 0]) fun h13 =>
        (sm_R (sm_get h13 (some a0) 11 0)).bind fun x14 =>
        sm_cb (fX2_init h6.1 x14 a1 h13) fun _ h15 =>
        (sm_sR h15 x11 6 2 x12 (some h6.1)).bind fun h16 =>
        (sm_I (sm_get h16 (some a0) 11 14)).bind fun x17 =>
        (sm_put h16 (some a0) 11 14 (sm_v (vI (x17 + (1 : Int32))))).bind fun h18 =>
        (sm_I (sm_get h18 (some a0) 11 14)).bind fun x19 =>
        some (x19 - (1 : Int32), h18)
      ) else
      some ((-4 : Int32), h6)
    ) else
    some ((-3 : Int32), h6)
  ) else
  some ((-2 : Int32), h3)
set_option maxRecDepth 100000 in
set_option maxHeartbeats 4000000 in
theorem sX11_newCommunity_0 (l : Launch) (D : va_G) (aC : Nat → ClassId) (B : Nat)   (a0 : Nat) (a1 : Int32) (h : sm_H) : zS l D aC B cX11_newCommunity 2 RX11 4 87 (some .int) "newCommunity" vlI (fX11_newCommunity a0 a1 h) 0 [(0, vR (some a0)), (1, vI a1)] [] h := by
  unfold fX11_newCommunity
  refine sm_aload_n (i := 0) (j := 0) (pc' := 1) dX11_newCommunity_0 rfl rfl rfl ?_
  refine sm_getR (k := 0) (pc' := 4) kX11 (by decide) mw392 dX11_newCommunity_1 rfl (fun x1 => ?_)
  refine sm_cVI (pc' := 7) (ci := 0) (st := []) (F := fun b => fX0_size b h) [] yY_yX0_size rfl mw436 mw32 mw33 (fun b => mX0_size l D aC B b h) rfl (by decide) (by decide) (by exact Nat.le_of_ble_eq_true rfl) rfl dX11_newCommunity_4 rfl (fun x2 h3 => ?_)
  refine sm_bipush (v := (40 : Int32)) (pc' := 9) dX11_newCommunity_7 rfl (by decide) ?_
  refine sm_icmp_le (tgt := 15) (pc' := 12) dX11_newCommunity_9 (by decide) rfl ?_ ?_
  · refine sm_aload_n (i := 0) (j := 0) (pc' := 16) dX11_newCommunity_15 rfl rfl rfl ?_
    refine sm_aload_n (i := 0) (j := 0) (pc' := 17) dX11_newCommunity_16 rfl rfl rfl ?_
    refine sm_getR (k := 0) (pc' := 20) kX11 (by decide) mw392 dX11_newCommunity_17 rfl (fun x4 => ?_)
    refine sm_cVR (pc' := 23) (ci := 11) (st := []) (F := fun b => fX11_communityNamed b x4 h3) [vR x4] yY_yX11_communityNamed rfl mw533 mw539 mw540 (fun b => mX11_communityNamed l D aC B b x4 h3) rfl (by decide) (by decide) (by exact Nat.le_of_ble_eq_true rfl) rfl dX11_newCommunity_20 rfl (fun x5 h6 => ?_)
    refine sm_ifnull (tgt := 29) (pc' := 26) dX11_newCommunity_23 (by decide) rfl ?_ ?_
    · refine sm_aload_n (i := 0) (j := 0) (pc' := 30) dX11_newCommunity_29 rfl rfl rfl ?_
      refine sm_getI (k := 14) (pc' := 33) kX11 (by decide) mw534 dX11_newCommunity_30 rfl (fun x7 => ?_)
      refine sm_if_lt (tgt := 48) (pc' := 36) dX11_newCommunity_33 (by decide) rfl ?_ ?_
      · refine sm_bipush (v := (-4 : Int32)) (pc' := 50) dX11_newCommunity_48 rfl (by decide) ?_
        exact sm_iret rfl dX11_newCommunity_50
      refine sm_aload_n (i := 0) (j := 0) (pc' := 37) dX11_newCommunity_36 rfl rfl rfl ?_
      refine sm_getI (k := 14) (pc' := 40) kX11 (by decide) mw534 dX11_newCommunity_37 rfl (fun x8 => ?_)
      refine sm_aload_n (i := 0) (j := 0) (pc' := 41) dX11_newCommunity_40 rfl rfl rfl ?_
      refine sm_getR (k := 3) (pc' := 44) kX11 (by decide) mw397 dX11_newCommunity_41 rfl (fun x9 => ?_)
      refine sm_alen (t := 6) (pc' := 45) rfl dX11_newCommunity_44 rfl (fun x10 => ?_)
      refine sm_icmp_lt (tgt := 51) (pc' := 48) dX11_newCommunity_45 (by decide) rfl ?_ ?_
      · refine sm_aload_n (i := 0) (j := 0) (pc' := 52) dX11_newCommunity_51 rfl rfl rfl ?_
        refine sm_getR (k := 3) (pc' := 55) kX11 (by decide) mw397 dX11_newCommunity_52 rfl (fun x11 => ?_)
        refine sm_aload_n (i := 0) (j := 0) (pc' := 56) dX11_newCommunity_55 rfl rfl rfl ?_
        refine sm_getI (k := 14) (pc' := 59) kX11 (by decide) mw534 dX11_newCommunity_56 rfl (fun x12 => ?_)
        refine sm_newL (fs := [.null, .int 0, .null, .null, .int 0]) (pc' := 62) kX2 rfl (by decide +kernel) mw396 mw537 mw538 dX11_newCommunity_59 rfl (fun h13 => ?_)
        refine sm_dup (pc' := 63) rfl dX11_newCommunity_62 rfl ?_
        refine sm_aload_n (i := 0) (j := 0) (pc' := 64) dX11_newCommunity_63 rfl rfl rfl ?_
        refine sm_getR (k := 0) (pc' := 67) kX11 (by decide) mw392 dX11_newCommunity_64 rfl (fun x14 => ?_)
        refine sm_iload_n (i := 1) (j := 1) (pc' := 68) dX11_newCommunity_67 rfl rfl rfl ?_
        refine sm_cI (pc' := 71) (b := h6.1) (st := [vR (some h6.1), vI x12, vR x11]) [vR x14, vI a1] yY_yX2_init mw535 mw536 rfl (mX2_init l D aC B h6.1 x14 a1 h13) rfl (by decide) (by decide) (by exact Nat.le_of_ble_eq_true rfl) rfl dX11_newCommunity_68 rfl (fun _ h15 => ?_)
        refine sm_aast (t := 6) (ci := 2) (pc' := 72) rfl rfl dX11_newCommunity_71 rfl (fun h16 => ?_)
        refine sm_aload_n (i := 0) (j := 0) (pc' := 73) dX11_newCommunity_72 rfl rfl rfl ?_
        refine sm_dup (pc' := 74) rfl dX11_newCommunity_73 rfl ?_
        refine sm_getI (k := 14) (pc' := 77) kX11 (by decide) mw534 dX11_newCommunity_74 rfl (fun x17 => ?_)
        refine sm_iconst (v := (1 : Int32)) (pc' := 78) dX11_newCommunity_77 rfl (by decide) ?_
        refine sm_iadd (pc' := 79) dX11_newCommunity_78 rfl ?_
        refine sm_putI (k := 14) (pc' := 82) kX11 (by decide) mw534 rfl rfl dX11_newCommunity_79 rfl (fun h18 => ?_)
        refine sm_aload_n (i := 0) (j := 0) (pc' := 83) dX11_newCommunity_82 rfl rfl rfl ?_
        refine sm_getI (k := 14) (pc' := 86) kX11 (by decide) mw534 dX11_newCommunity_83 rfl (fun x19 => ?_)
        refine sm_iconst (v := (1 : Int32)) (pc' := 87) dX11_newCommunity_86 rfl (by decide) ?_
        refine sm_isub (pc' := 88) dX11_newCommunity_87 rfl ?_
        exact sm_iret rfl dX11_newCommunity_88
      refine sm_bipush (v := (-4 : Int32)) (pc' := 50) dX11_newCommunity_48 rfl (by decide) ?_
      exact sm_iret rfl dX11_newCommunity_50
    refine sm_bipush (v := (-3 : Int32)) (pc' := 28) dX11_newCommunity_26 rfl (by decide) ?_
    exact sm_iret rfl dX11_newCommunity_28
  refine sm_bipush (v := (-2 : Int32)) (pc' := 14) dX11_newCommunity_12 rfl (by decide) ?_
  exact sm_iret rfl dX11_newCommunity_14
set_option maxRecDepth 100000 in
theorem mX11_newCommunity (l : Launch) (D : va_G) (aC : Nat → ClassId) (B : Nat) (a0 : Nat) (a1 : Int32) (h : sm_H) : sm_M l D vwCl gAts aC B gTs gNs gOs yX11_newCommunity cX11_newCommunity 2 (some .int) 4 87 vlI [vR (some a0), vI a1] h (fX11_newCommunity a0 a1 h) := sm_meth [vR (some a0), vI a1] yY_yX11_newCommunity gG gN (Nat.le_of_ble_eq_true rfl) rfl (sX11_newCommunity_0 l D aC B a0 a1 h)
-- M:TreeAgent.community(Z)I
noncomputable def fX11_community  (a0 : Nat) (a1 : Int32) (h : sm_H) : Option (Int32 × sm_H) :=
  (sm_obj h (some a0) 11).bind fun b6 =>
  sm_cb (fX11_newCommunity b6 a1 h) fun x1 h2 =>
  (sm_R (sm_get h2 (some a0) 11 0)).bind fun x3 =>
  (sm_obj h2 x3 0).bind fun b5 =>
  sm_cb (fX0_clear b5 h2) fun _ h4 =>
  some (x1, h4)
set_option maxRecDepth 100000 in
set_option maxHeartbeats 4000000 in
theorem sX11_community_0 (l : Launch) (D : va_G) (aC : Nat → ClassId) (B : Nat)   (a0 : Nat) (a1 : Int32) (h : sm_H) : zS l D aC B cX11_community 3 RX11 5 108 (some .int) "community" vlI (fX11_community a0 a1 h) 0 [(0, vR (some a0)), (1, vI a1)] [] h := by
  unfold fX11_community
  refine sm_aload_n (i := 0) (j := 0) (pc' := 1) dX11_community_0 rfl rfl rfl ?_
  refine sm_iload_n (i := 1) (j := 1) (pc' := 2) dX11_community_1 rfl rfl rfl ?_
  refine sm_cVI (pc' := 5) (ci := 11) (st := []) (F := fun b => fX11_newCommunity b a1 h) [vI a1] yY_yX11_newCommunity rfl mw541 mw542 mw543 (fun b => mX11_newCommunity l D aC B b a1 h) rfl (by decide) (by decide) (by exact Nat.le_of_ble_eq_true rfl) rfl dX11_community_2 rfl (fun x1 h2 => ?_)
  refine sm_istore_n (i := 2) (lv' := [(2, vI x1), (0, vR (some a0)), (1, vI a1)]) (pc' := 6) dX11_community_5 rfl rfl (by decide) rfl ?_
  refine sm_aload_n (i := 0) (j := 1) (pc' := 7) dX11_community_6 rfl rfl rfl ?_
  refine sm_getR (k := 0) (pc' := 10) kX11 (by decide) mw392 dX11_community_7 rfl (fun x3 => ?_)
  refine sm_cVU (pc' := 13) (ci := 0) (st := []) (F := fun b => fX0_clear b h2) [] yY_yX0_clear rfl mw439 mw121 mw122 (fun b => mX0_clear l D aC B b h2) rfl (by decide) (by decide) (by exact Nat.le_of_ble_eq_true rfl) rfl dX11_community_10 rfl (fun _ h4 => ?_)
  refine sm_iload_n (i := 2) (j := 0) (pc' := 14) dX11_community_13 rfl rfl rfl ?_
  exact sm_iret rfl dX11_community_14
set_option maxRecDepth 100000 in
theorem mX11_community (l : Launch) (D : va_G) (aC : Nat → ClassId) (B : Nat) (a0 : Nat) (a1 : Int32) (h : sm_H) : sm_M l D vwCl gAts aC B gTs gNs gOs yX11_community cX11_community 3 (some .int) 5 108 vlI [vR (some a0), vI a1] h (fX11_community a0 a1 h) := sm_meth [vR (some a0), vI a1] yY_yX11_community gG gN (Nat.le_of_ble_eq_true rfl) rfl (sX11_community_0 l D aC B a0 a1 h)
-- M:TreeAgent.newView(IZ)I
noncomputable def fX11_newView_33  (a0 : Nat) (a2 : Int32) (s0 : Option Nat) (h : sm_H) : Option (Int32 × sm_H) :=
  if s0 = none then (
    some ((-1 : Int32), h)
  ) else
  (sm_obj h (some a0) 11).bind fun b10 =>
  sm_cb (fX11_isNameAtHand b10 (16 : Int32) h) fun x1 h2 =>
  if x1 = 0 then (
    some ((-2 : Int32), h2)
  ) else
  (sm_R (sm_get h2 (some a0) 11 1)).bind fun x3 =>
  (sm_obj h2 s0 2).bind fun b9 =>
  sm_cb (fX2_addView b9 x3 a2 h2) fun x4 h5 =>
  if x4 = 0 then (
    some ((-4 : Int32), h5)
  ) else
  (sm_obj h5 s0 2).bind fun b8 =>
  sm_cb (fX2_viewCount b8 h5) fun x6 h7 =>
  some (x6, h7)
set_option maxRecDepth 100000 in
set_option maxHeartbeats 4000000 in
theorem sX11_newView_33 (l : Launch) (D : va_G) (aC : Nat → ClassId) (B : Nat)   (a0 : Nat) (a2 : Int32) (s0 : Option Nat) (h : sm_H) : zS l D aC B cX11_newView 5 RX11 3 67 (some .int) "newView" vlI (fX11_newView_33 a0 a2 s0 h) 33 [(0, vR (some a0)), (2, vI a2)] [vR s0] h := by
  unfold fX11_newView_33
  refine sm_astore (i := 4) (lv' := [(4, vR s0), (0, vR (some a0)), (2, vI a2)]) (pc' := 35) dX11_newView_33 rfl (by decide) rfl ?_
  refine sm_aload (i := 4) (j := 0) (pc' := 37) dX11_newView_35 rfl rfl ?_
  refine sm_ifnonnull (tgt := 42) (pc' := 40) dX11_newView_37 (by decide) rfl ?_ ?_
  · refine sm_aload_n (i := 0) (j := 1) (pc' := 43) dX11_newView_42 rfl rfl rfl ?_
    refine sm_bipush (v := (16 : Int32)) (pc' := 45) dX11_newView_43 rfl (by decide) ?_
    refine sm_cVI (pc' := 48) (ci := 11) (st := []) (F := fun b => fX11_isNameAtHand b (16 : Int32) h) [vI (16 : Int32)] yY_yX11_isNameAtHand rfl mw447 mw462 mw463 (fun b => mX11_isNameAtHand l D aC B b (16 : Int32) h) rfl (by decide) (by decide) (by exact Nat.le_of_ble_eq_true rfl) rfl dX11_newView_45 rfl (fun x1 h2 => ?_)
    refine sm_if_ne (tgt := 54) (pc' := 51) dX11_newView_48 (by decide) rfl ?_ ?_
    · refine sm_aload (i := 4) (j := 0) (pc' := 56) dX11_newView_54 rfl rfl ?_
      refine sm_aload_n (i := 0) (j := 1) (pc' := 57) dX11_newView_56 rfl rfl rfl ?_
      refine sm_getR (k := 1) (pc' := 60) kX11 (by decide) mw393 dX11_newView_57 rfl (fun x3 => ?_)
      refine sm_iload_n (i := 2) (j := 2) (pc' := 61) dX11_newView_60 rfl rfl rfl ?_
      refine sm_cVI (pc' := 64) (ci := 2) (st := []) (F := fun b => fX2_addView b x3 a2 h2) [vR x3, vI a2] yY_yX2_addView rfl mw544 mw548 mw549 (fun b => mX2_addView l D aC B b x3 a2 h2) rfl (by decide) (by decide) (by exact Nat.le_of_ble_eq_true rfl) rfl dX11_newView_61 rfl (fun x4 h5 => ?_)
      refine sm_if_eq (tgt := 75) (pc' := 67) dX11_newView_64 (by decide) rfl ?_ ?_
      · refine sm_bipush (v := (-4 : Int32)) (pc' := 77) dX11_newView_75 rfl (by decide) ?_
        exact sm_iret rfl dX11_newView_77
      refine sm_aload (i := 4) (j := 0) (pc' := 69) dX11_newView_67 rfl rfl ?_
      refine sm_cVI (pc' := 72) (ci := 2) (st := []) (F := fun b => fX2_viewCount b h5) [] yY_yX2_viewCount rfl mw545 mw546 mw547 (fun b => mX2_viewCount l D aC B b h5) rfl (by decide) (by decide) (by exact Nat.le_of_ble_eq_true rfl) rfl dX11_newView_69 rfl (fun x6 h7 => ?_)
      refine sm_goto (pc' := 77) dX11_newView_72 (by decide) ?_
      exact sm_iret rfl dX11_newView_77
    refine sm_bipush (v := (-2 : Int32)) (pc' := 53) dX11_newView_51 rfl (by decide) ?_
    exact sm_iret rfl dX11_newView_53
  refine sm_iconst (v := (-1 : Int32)) (pc' := 41) dX11_newView_40 rfl (by decide) ?_
  exact sm_iret rfl dX11_newView_41
noncomputable def fX11_newView_18  (a0 : Nat) (a1 : Int32) (a2 : Int32) (s0 : Int32) (h : sm_H) : Option (Int32 × sm_H) :=
  if s0 = 0 then (
    fX11_newView_33 a0 a2 none h
  ) else
  (sm_R (sm_get h (some a0) 11 3)).bind fun x1 =>
  (sm_aR h x1 6 a1).bind fun x2 =>
  fX11_newView_33 a0 a2 x2 h
set_option maxRecDepth 100000 in
set_option maxHeartbeats 4000000 in
theorem sX11_newView_18 (l : Launch) (D : va_G) (aC : Nat → ClassId) (B : Nat)   (a0 : Nat) (a1 : Int32) (a2 : Int32) (s0 : Int32) (h : sm_H) : zS l D aC B cX11_newView 5 RX11 3 67 (some .int) "newView" vlI (fX11_newView_18 a0 a1 a2 s0 h) 18 [(0, vR (some a0)), (1, vI a1), (2, vI a2)] [vI s0] h := by
  unfold fX11_newView_18
  refine sm_istore_n (i := 3) (lv' := [(3, vI s0), (0, vR (some a0)), (1, vI a1), (2, vI a2)]) (pc' := 19) dX11_newView_18 rfl rfl (by decide) rfl ?_
  refine sm_iload_n (i := 3) (j := 0) (pc' := 20) dX11_newView_19 rfl rfl rfl ?_
  refine sm_if_eq (tgt := 32) (pc' := 23) dX11_newView_20 (by decide) rfl ?_ ?_
  · refine sm_null (pc' := 33) dX11_newView_32 rfl ?_
    refine sm_lo (lv' := [(0, vR (some a0)), (2, vI a2)]) [1, 3] rfl ?_
    exact sX11_newView_33 l D aC B  a0 a2 none h
  refine sm_aload_n (i := 0) (j := 1) (pc' := 24) dX11_newView_23 rfl rfl rfl ?_
  refine sm_getR (k := 3) (pc' := 27) kX11 (by decide) mw397 dX11_newView_24 rfl (fun x1 => ?_)
  refine sm_iload_n (i := 1) (j := 2) (pc' := 28) dX11_newView_27 rfl rfl rfl ?_
  refine sm_aald (t := 6) (pc' := 29) rfl dX11_newView_28 rfl (fun x2 => ?_)
  refine sm_goto (pc' := 33) dX11_newView_29 (by decide) ?_
  refine sm_lo (lv' := [(0, vR (some a0)), (2, vI a2)]) [1, 3] rfl ?_
  exact sX11_newView_33 l D aC B  a0 a2 x2 h
noncomputable def fX11_newView  (a0 : Nat) (a1 : Int32) (a2 : Int32) (h : sm_H) : Option (Int32 × sm_H) :=
  if a1 < 0 then (
    fX11_newView_18 a0 a1 a2 (0 : Int32) h
  ) else
  (sm_R (sm_get h (some a0) 11 3)).bind fun x1 =>
  (sm_len h x1 6).bind fun x2 =>
  if x2 ≤ a1 then (
    fX11_newView_18 a0 a1 a2 (0 : Int32) h
  ) else
  fX11_newView_18 a0 a1 a2 (1 : Int32) h
set_option maxRecDepth 100000 in
set_option maxHeartbeats 4000000 in
theorem sX11_newView_0 (l : Launch) (D : va_G) (aC : Nat → ClassId) (B : Nat)   (a0 : Nat) (a1 : Int32) (a2 : Int32) (h : sm_H) : zS l D aC B cX11_newView 5 RX11 3 67 (some .int) "newView" vlI (fX11_newView a0 a1 a2 h) 0 [(0, vR (some a0)), (1, vI a1), (2, vI a2)] [] h := by
  unfold fX11_newView
  refine sm_iload_n (i := 1) (j := 1) (pc' := 1) dX11_newView_0 rfl rfl rfl ?_
  refine sm_if_lt (tgt := 17) (pc' := 4) dX11_newView_1 (by decide) rfl ?_ ?_
  · refine sm_iconst (v := (0 : Int32)) (pc' := 18) dX11_newView_17 rfl (by decide) ?_
    exact sX11_newView_18 l D aC B  a0 a1 a2 (0 : Int32) h
  refine sm_iload_n (i := 1) (j := 1) (pc' := 5) dX11_newView_4 rfl rfl rfl ?_
  refine sm_aload_n (i := 0) (j := 0) (pc' := 6) dX11_newView_5 rfl rfl rfl ?_
  refine sm_getR (k := 3) (pc' := 9) kX11 (by decide) mw397 dX11_newView_6 rfl (fun x1 => ?_)
  refine sm_alen (t := 6) (pc' := 10) rfl dX11_newView_9 rfl (fun x2 => ?_)
  refine sm_icmp_ge (tgt := 17) (pc' := 13) dX11_newView_10 (by decide) rfl ?_ ?_
  · refine sm_iconst (v := (0 : Int32)) (pc' := 18) dX11_newView_17 rfl (by decide) ?_
    exact sX11_newView_18 l D aC B  a0 a1 a2 (0 : Int32) h
  refine sm_iconst (v := (1 : Int32)) (pc' := 14) dX11_newView_13 rfl (by decide) ?_
  refine sm_goto (pc' := 18) dX11_newView_14 (by decide) ?_
  exact sX11_newView_18 l D aC B  a0 a1 a2 (1 : Int32) h
set_option maxRecDepth 100000 in
theorem mX11_newView (l : Launch) (D : va_G) (aC : Nat → ClassId) (B : Nat) (a0 : Nat) (a1 : Int32) (a2 : Int32) (h : sm_H) : sm_M l D vwCl gAts aC B gTs gNs gOs yX11_newView cX11_newView 5 (some .int) 3 67 vlI [vR (some a0), vI a1, vI a2] h (fX11_newView a0 a1 a2 h) := sm_meth [vR (some a0), vI a1, vI a2] yY_yX11_newView gG gN (Nat.le_of_ble_eq_true rfl) rfl (sX11_newView_0 l D aC B a0 a1 a2 h)
-- M:TreeAgent.view(IZ)I
noncomputable def fX11_view  (a0 : Nat) (a1 : Int32) (a2 : Int32) (h : sm_H) : Option (Int32 × sm_H) :=
  (sm_obj h (some a0) 11).bind fun b6 =>
  sm_cb (fX11_newView b6 a1 a2 h) fun x1 h2 =>
  (sm_R (sm_get h2 (some a0) 11 1)).bind fun x3 =>
  (sm_obj h2 x3 0).bind fun b5 =>
  sm_cb (fX0_clear b5 h2) fun _ h4 =>
  some (x1, h4)
set_option maxRecDepth 100000 in
set_option maxHeartbeats 4000000 in
theorem sX11_view_0 (l : Launch) (D : va_G) (aC : Nat → ClassId) (B : Nat)   (a0 : Nat) (a1 : Int32) (a2 : Int32) (h : sm_H) : zS l D aC B cX11_view 4 RX11 4 91 (some .int) "view" vlI (fX11_view a0 a1 a2 h) 0 [(0, vR (some a0)), (1, vI a1), (2, vI a2)] [] h := by
  unfold fX11_view
  refine sm_aload_n (i := 0) (j := 0) (pc' := 1) dX11_view_0 rfl rfl rfl ?_
  refine sm_iload_n (i := 1) (j := 1) (pc' := 2) dX11_view_1 rfl rfl rfl ?_
  refine sm_iload_n (i := 2) (j := 2) (pc' := 3) dX11_view_2 rfl rfl rfl ?_
  refine sm_cVI (pc' := 6) (ci := 11) (st := []) (F := fun b => fX11_newView b a1 a2 h) [vI a1, vI a2] yY_yX11_newView rfl mw550 mw551 mw552 (fun b => mX11_newView l D aC B b a1 a2 h) rfl (by decide) (by decide) (by exact Nat.le_of_ble_eq_true rfl) rfl dX11_view_3 rfl (fun x1 h2 => ?_)
  refine sm_istore_n (i := 3) (lv' := [(3, vI x1), (0, vR (some a0)), (1, vI a1), (2, vI a2)]) (pc' := 7) dX11_view_6 rfl rfl (by decide) rfl ?_
  refine sm_aload_n (i := 0) (j := 1) (pc' := 8) dX11_view_7 rfl rfl rfl ?_
  refine sm_getR (k := 1) (pc' := 11) kX11 (by decide) mw393 dX11_view_8 rfl (fun x3 => ?_)
  refine sm_cVU (pc' := 14) (ci := 0) (st := []) (F := fun b => fX0_clear b h2) [] yY_yX0_clear rfl mw439 mw121 mw122 (fun b => mX0_clear l D aC B b h2) rfl (by decide) (by decide) (by exact Nat.le_of_ble_eq_true rfl) rfl dX11_view_11 rfl (fun _ h4 => ?_)
  refine sm_iload_n (i := 3) (j := 0) (pc' := 15) dX11_view_14 rfl rfl rfl ?_
  exact sm_iret rfl dX11_view_15
set_option maxRecDepth 100000 in
theorem mX11_view (l : Launch) (D : va_G) (aC : Nat → ClassId) (B : Nat) (a0 : Nat) (a1 : Int32) (a2 : Int32) (h : sm_H) : sm_M l D vwCl gAts aC B gTs gNs gOs yX11_view cX11_view 4 (some .int) 4 91 vlI [vR (some a0), vI a1, vI a2] h (fX11_view a0 a1 a2 h) := sm_meth [vR (some a0), vI a1, vI a2] yY_yX11_view gG gN (Nat.le_of_ble_eq_true rfl) rfl (sX11_view_0 l D aC B a0 a1 a2 h)
-- M:TreeAgent.limit(I)I
noncomputable def fX11_limit  (a0 : Nat) (a1 : Int32) (h : sm_H) : Option (Int32 × sm_H) :=
  if a1 < (100 : Int32) then (
    some ((-2 : Int32), h)
  ) else
  if a1 ≤ (1000 : Int32) then (
    (sm_I (sm_get h (some a0) 11 15)).bind fun x1 =>
    (sm_put h (some a0) 11 15 (sm_v (vI a1))).bind fun h2 =>
    some (x1, h2)
  ) else
  some ((-2 : Int32), h)
set_option maxRecDepth 100000 in
set_option maxHeartbeats 4000000 in
theorem sX11_limit_0 (l : Launch) (D : va_G) (aC : Nat → ClassId) (B : Nat)   (a0 : Nat) (a1 : Int32) (h : sm_H) : zS l D aC B cX11_limit 3 RX11 0 0 (some .int) "limit" vlI (fX11_limit a0 a1 h) 0 [(0, vR (some a0)), (1, vI a1)] [] h := by
  unfold fX11_limit
  refine sm_iload_n (i := 1) (j := 1) (pc' := 1) dX11_limit_0 rfl rfl rfl ?_
  refine sm_bipush (v := (100 : Int32)) (pc' := 3) dX11_limit_1 rfl (by decide) ?_
  refine sm_icmp_lt (tgt := 13) (pc' := 6) dX11_limit_3 (by decide) rfl ?_ ?_
  · refine sm_bipush (v := (-2 : Int32)) (pc' := 15) dX11_limit_13 rfl (by decide) ?_
    exact sm_iret rfl dX11_limit_15
  refine sm_iload_n (i := 1) (j := 1) (pc' := 7) dX11_limit_6 rfl rfl rfl ?_
  refine sm_sipush (v := (1000 : Int32)) (pc' := 10) dX11_limit_7 rfl (by decide) ?_
  refine sm_icmp_le (tgt := 16) (pc' := 13) dX11_limit_10 (by decide) rfl ?_ ?_
  · refine sm_aload_n (i := 0) (j := 0) (pc' := 17) dX11_limit_16 rfl rfl rfl ?_
    refine sm_getI (k := 15) (pc' := 20) kX11 (by decide) mw413 dX11_limit_17 rfl (fun x1 => ?_)
    refine sm_istore_n (i := 2) (lv' := [(2, vI x1), (0, vR (some a0)), (1, vI a1)]) (pc' := 21) dX11_limit_20 rfl rfl (by decide) rfl ?_
    refine sm_aload_n (i := 0) (j := 1) (pc' := 22) dX11_limit_21 rfl rfl rfl ?_
    refine sm_iload_n (i := 1) (j := 2) (pc' := 23) dX11_limit_22 rfl rfl rfl ?_
    refine sm_putI (k := 15) (pc' := 26) kX11 (by decide) mw413 rfl rfl dX11_limit_23 rfl (fun h2 => ?_)
    refine sm_iload_n (i := 2) (j := 0) (pc' := 27) dX11_limit_26 rfl rfl rfl ?_
    exact sm_iret rfl dX11_limit_27
  refine sm_bipush (v := (-2 : Int32)) (pc' := 15) dX11_limit_13 rfl (by decide) ?_
  exact sm_iret rfl dX11_limit_15
set_option maxRecDepth 100000 in
theorem mX11_limit (l : Launch) (D : va_G) (aC : Nat → ClassId) (B : Nat) (a0 : Nat) (a1 : Int32) (h : sm_H) : sm_M l D vwCl gAts aC B gTs gNs gOs yX11_limit cX11_limit 3 (some .int) 0 0 vlI [vR (some a0), vI a1] h (fX11_limit a0 a1 h) := sm_meth [vR (some a0), vI a1] yY_yX11_limit gG gN (Nat.le_of_ble_eq_true rfl) rfl (sX11_limit_0 l D aC B a0 a1 h)
-- M:TreeAgent.tick(J)J
noncomputable def fX11_tick  (a0 : Nat) (a1 : Int64) (h : sm_H) : Option (Int64 × sm_H) :=
  if (lg_cmp a1 (0 : Int64)) < 0 then (
    some ((-2 : Int64), h)
  ) else
  (sm_J (sm_get h (some a0) 11 16)).bind fun x1 =>
  if (lg_cmp a1 ((4611686018427387904 : Int64) - x1)) ≤ 0 then (
    (sm_J (sm_get h (some a0) 11 16)).bind fun x2 =>
    (sm_put h (some a0) 11 16 (sm_v (vJ (x2 + a1)))).bind fun h3 =>
    (sm_R (sm_get h3 (some a0) 11 10)).bind fun x4 =>
    (sm_J (sm_get h3 (some a0) 11 16)).bind fun x5 =>
    (sm_put h3 x4 10 2 (sm_v (vJ (x5 &&& (4294967295 : Int64))))).bind fun h6 =>
    (sm_J (sm_get h6 (some a0) 11 16)).bind fun x7 =>
    some (x7, h6)
  ) else
  some ((-2 : Int64), h)
set_option maxRecDepth 100000 in
set_option maxHeartbeats 4000000 in
theorem sX11_tick_0 (l : Launch) (D : va_G) (aC : Nat → ClassId) (B : Nat)   (a0 : Nat) (a1 : Int64) (h : sm_H) : zS l D aC B cX11_tick 3 RX11 0 0 (some .long) "tick" vlJ (fX11_tick a0 a1 h) 0 [(0, vR (some a0)), (1, vJ a1)] [] h := by
  unfold fX11_tick
  refine sm_lload_n (i := 1) (j := 1) (pc' := 1) dX11_tick_0 rfl rfl rfl ?_
  refine sm_lconst (v := (0 : Int64)) (pc' := 2) dX11_tick_1 rfl (by decide) ?_
  refine sm_lcmp (pc' := 3) dX11_tick_2 rfl ?_
  refine sm_if_lt (tgt := 19) (pc' := 6) dX11_tick_3 (by decide) rfl ?_ ?_
  · refine sm_ldc2 (v := (-2 : Int64)) (pc' := 22) dX11_tick_19 rfl mw553 ?_
    exact sm_lret rfl dX11_tick_22
  refine sm_lload_n (i := 1) (j := 1) (pc' := 7) dX11_tick_6 rfl rfl rfl ?_
  refine sm_ldc2 (v := (4611686018427387904 : Int64)) (pc' := 10) dX11_tick_7 rfl mw554 ?_
  refine sm_aload_n (i := 0) (j := 0) (pc' := 11) dX11_tick_10 rfl rfl rfl ?_
  refine sm_getJ (k := 16) (pc' := 14) kX11 (by decide) mw555 dX11_tick_11 rfl (fun x1 => ?_)
  refine sm_lsub (pc' := 15) dX11_tick_14 rfl ?_
  refine sm_lcmp (pc' := 16) dX11_tick_15 rfl ?_
  refine sm_if_le (tgt := 23) (pc' := 19) dX11_tick_16 (by decide) rfl ?_ ?_
  · refine sm_aload_n (i := 0) (j := 0) (pc' := 24) dX11_tick_23 rfl rfl rfl ?_
    refine sm_dup (pc' := 25) rfl dX11_tick_24 rfl ?_
    refine sm_getJ (k := 16) (pc' := 28) kX11 (by decide) mw555 dX11_tick_25 rfl (fun x2 => ?_)
    refine sm_lload_n (i := 1) (j := 1) (pc' := 29) dX11_tick_28 rfl rfl rfl ?_
    refine sm_ladd (pc' := 30) dX11_tick_29 rfl ?_
    refine sm_putJ (k := 16) (pc' := 33) kX11 (by decide) mw555 rfl rfl dX11_tick_30 rfl (fun h3 => ?_)
    refine sm_aload_n (i := 0) (j := 0) (pc' := 34) dX11_tick_33 rfl rfl rfl ?_
    refine sm_getR (k := 10) (pc' := 37) kX11 (by decide) mw409 dX11_tick_34 rfl (fun x4 => ?_)
    refine sm_aload_n (i := 0) (j := 0) (pc' := 38) dX11_tick_37 rfl rfl rfl ?_
    refine sm_getJ (k := 16) (pc' := 41) kX11 (by decide) mw555 dX11_tick_38 rfl (fun x5 => ?_)
    refine sm_ldc2 (v := (4294967295 : Int64)) (pc' := 44) dX11_tick_41 rfl mw212 ?_
    refine sm_land (pc' := 45) dX11_tick_44 rfl ?_
    refine sm_putNJ (k := 2) (pc' := 48) kX10 (by decide) mw515 rfl rfl dX11_tick_45 rfl (fun h6 => ?_)
    refine sm_aload_n (i := 0) (j := 0) (pc' := 49) dX11_tick_48 rfl rfl rfl ?_
    refine sm_getJ (k := 16) (pc' := 52) kX11 (by decide) mw555 dX11_tick_49 rfl (fun x7 => ?_)
    exact sm_lret rfl dX11_tick_52
  refine sm_ldc2 (v := (-2 : Int64)) (pc' := 22) dX11_tick_19 rfl mw553 ?_
  exact sm_lret rfl dX11_tick_22
set_option maxRecDepth 100000 in
theorem mX11_tick (l : Launch) (D : va_G) (aC : Nat → ClassId) (B : Nat) (a0 : Nat) (a1 : Int64) (h : sm_H) : sm_M l D vwCl gAts aC B gTs gNs gOs yX11_tick cX11_tick 3 (some .long) 0 0 vlJ [vR (some a0), vJ a1] h (fX11_tick a0 a1 h) := sm_meth [vR (some a0), vJ a1] yY_yX11_tick gG gN (Nat.le_of_ble_eq_true rfl) rfl (sX11_tick_0 l D aC B a0 a1 h)
