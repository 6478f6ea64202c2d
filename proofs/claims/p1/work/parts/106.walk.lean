-- M:TreeAgent$Table.<init>(LTreeAgent$Chain;)V
noncomputable def fX7_init  (a0 : Nat) (a1 : Option Nat) (h : sm_H) : Option (Unit × sm_H) :=
  sm_let (sm_new h 0 [.null, .int 0]) fun h1 =>
  sm_cb (fX0_init h.1 (16 : Int32) h1) fun _ h2 =>
  (sm_put h2 (some a0) 7 0 (sm_v (vR (some h.1)))).bind fun h3 =>
  if (6 : Int32) < 0 ∨ 1000000 < (6 : Int32) then none else
  sm_let (sm_nwa h3 4 (6 : Int32).toNatClampNeg (.inr (.inr (.inr (.inr (fun _ => none)))))) fun h4 =>
  (sm_put h4 (some a0) 7 1 (sm_v (vR (some h3.1)))).bind fun h5 =>
  if (16 : Int32) < 0 ∨ 1000000 < (16 : Int32) then none else
  sm_let (sm_nwa h5 0 (16 : Int32).toNatClampNeg (.inl (fun _ => 0))) fun h6 =>
  (sm_put h6 (some a0) 7 2 (sm_v (vR (some h5.1)))).bind fun h7 =>
  (sm_R (sm_get h7 (some a0) 7 0)).bind fun x8 =>
  (sm_obj h7 x8 0).bind fun b10 =>
  sm_cb (fX0_copy b10 a1 h7) fun _ h9 =>
  some ((), h9)
set_option maxRecDepth 100000 in
set_option maxHeartbeats 4000000 in
theorem sX7_init_0 (l : Launch) (D : va_G) (aC : Nat → ClassId) (B : Nat)   (a0 : Nat) (a1 : Option Nat) (h : sm_H) : zS l D aC B cX7_init 2 RX7 2 44 none "<init>" vlU (fX7_init a0 a1 h) 0 [(0, vR (some a0)), (1, vR a1)] [] h := by
  unfold fX7_init
  refine sm_aload_n (i := 0) (j := 0) (pc' := 1) dX7_init_0 rfl rfl rfl ?_
  refine sm_objI (pc' := 4) mw347 mw1 mw2 dX7_init_1 rfl (by decide) (Nat.le_of_ble_eq_true rfl) ?_
  refine sm_aload_n (i := 0) (j := 0) (pc' := 5) dX7_init_4 rfl rfl rfl ?_
  refine sm_newL (fs := [.null, .int 0]) (pc' := 8) kX0 rfl (by decide +kernel) mw353 mw168 mw169 dX7_init_5 rfl (fun h1 => ?_)
  refine sm_dup (pc' := 9) rfl dX7_init_8 rfl ?_
  refine sm_bipush (v := (16 : Int32)) (pc' := 11) dX7_init_9 rfl (by decide) ?_
  refine sm_cI (pc' := 14) (b := h.1) (st := [vR (some h.1), vR (some a0)]) [vI (16 : Int32)] yY_yX0_init mw348 mw167 rfl (mX0_init l D aC B h.1 (16 : Int32) h1) rfl (by decide) (by decide) (by exact Nat.le_of_ble_eq_true rfl) rfl dX7_init_11 rfl (fun _ h2 => ?_)
  refine sm_putFR (k := 0) (pc' := 17) kX7 (by decide) mw349 rfl rfl rfl (Or.inl ⟨_, rfl⟩) dX7_init_14 rfl (fun h3 => ?_)
  refine sm_aload_n (i := 0) (j := 0) (pc' := 18) dX7_init_17 rfl rfl rfl ?_
  refine sm_bipush (v := (6 : Int32)) (pc' := 20) dX7_init_18 rfl (by decide) ?_
  refine sm_anewL (C0 := "TreeAgent$Thing") (t := 4) (pc' := 23) rfl mw350 (by decide) dX7_init_20 rfl (fun h4 => ?_)
  refine sm_putFR (k := 1) (pc' := 26) kX7 (by decide) mw132 rfl rfl rfl (Or.inr ⟨_, rfl⟩) dX7_init_23 rfl (fun h5 => ?_)
  refine sm_aload_n (i := 0) (j := 0) (pc' := 27) dX7_init_26 rfl rfl rfl ?_
  refine sm_bipush (v := (16 : Int32)) (pc' := 29) dX7_init_27 rfl (by decide) ?_
  refine sm_newaL (ty := .int) (t := 0) (a0 := (.inl (fun _ => 0))) (pc' := 31) rfl rfl (fun _ _ h9 => h9) (fun _ _ => rfl) (by decide) mw351 dX7_init_29 rfl (fun h6 => ?_)
  refine sm_putFR (k := 2) (pc' := 34) kX7 (by decide) mw56 rfl rfl rfl (Or.inr ⟨_, rfl⟩) dX7_init_31 rfl (fun h7 => ?_)
  refine sm_aload_n (i := 0) (j := 0) (pc' := 35) dX7_init_34 rfl rfl rfl ?_
  refine sm_getR (k := 0) (pc' := 38) kX7 (by decide) mw349 dX7_init_35 rfl (fun x8 => ?_)
  refine sm_aload_n (i := 1) (j := 1) (pc' := 39) dX7_init_38 rfl rfl rfl ?_
  refine sm_cVU (pc' := 42) (ci := 0) (st := []) (F := fun b => fX0_copy b a1 h7) [vR a1] yY_yX0_copy rfl mw352 mw142 mw143 (fun b => mX0_copy l D aC B b a1 h7) rfl (by decide) (by decide) (by exact Nat.le_of_ble_eq_true rfl) rfl dX7_init_39 rfl (fun _ h9 => ?_)
  exact sm_vret rfl dX7_init_42
set_option maxRecDepth 100000 in
theorem mX7_init (l : Launch) (D : va_G) (aC : Nat → ClassId) (B : Nat) (a0 : Nat) (a1 : Option Nat) (h : sm_H) : sm_M l D vwCl gAts aC B gTs gNs gOs yX7_init cX7_init 2 none 2 44 vlU [vR (some a0), vR a1] h (fX7_init a0 a1 h) := sm_meth [vR (some a0), vR a1] yY_yX7_init gG gN (Nat.le_of_ble_eq_true rfl) rfl (sX7_init_0 l D aC B a0 a1 h)
-- M:TreeAgent$Table.columnCount()I
noncomputable def fX7_columnCount  (a0 : Nat) (h : sm_H) : Option (Int32 × sm_H) :=
  (sm_I (sm_get h (some a0) 7 4)).bind fun x1 =>
  some (x1, h)
set_option maxRecDepth 100000 in
set_option maxHeartbeats 4000000 in
theorem sX7_columnCount_0 (l : Launch) (D : va_G) (aC : Nat → ClassId) (B : Nat)   (a0 : Nat) (h : sm_H) : zS l D aC B cX7_columnCount 1 RX7 0 0 (some .int) "columnCount" vlI (fX7_columnCount a0 h) 0 [(0, vR (some a0))] [] h := by
  unfold fX7_columnCount
  refine sm_aload_n (i := 0) (j := 0) (pc' := 1) dX7_columnCount_0 rfl rfl rfl ?_
  refine sm_getI (k := 4) (pc' := 4) kX7 (by decide) mw354 dX7_columnCount_1 rfl (fun x1 => ?_)
  exact sm_iret rfl dX7_columnCount_4
set_option maxRecDepth 100000 in
theorem mX7_columnCount (l : Launch) (D : va_G) (aC : Nat → ClassId) (B : Nat) (a0 : Nat) (h : sm_H) : sm_M l D vwCl gAts aC B gTs gNs gOs yX7_columnCount cX7_columnCount 1 (some .int) 0 0 vlI [vR (some a0)] h (fX7_columnCount a0 h) := sm_meth [vR (some a0)] yY_yX7_columnCount gG gN (Nat.le_of_ble_eq_true rfl) rfl (sX7_columnCount_0 l D aC B a0 h)
-- M:TreeAgent$Table.hasColumn(I)Z
noncomputable def fX7_hasColumn_2  : Nat → Nat → Int32 → Int32 → sm_H → Option (Int32 × sm_H)
  | 0 => fun _ _ _ _ => none
  | n + 1 => fun a0 a1 a2 h =>
    (sm_R (sm_get h (some a0) 7 1)).bind fun x1 =>
    (sm_len h x1 4).bind fun x2 =>
    if x2 ≤ a2 then (
      some ((0 : Int32), h)
    ) else
    (sm_R (sm_get h (some a0) 7 1)).bind fun x3 =>
    (sm_aR h x3 4 a2).bind fun x4 =>
    if x4 = none then (
      sm_let (a2 + (1 : Int32)) fun x5 =>
      (fX7_hasColumn_2 n) a0 a1 x5 h
    ) else
    (sm_R (sm_get h x4 8 0)).bind fun x6 =>
    (sm_R (sm_get h (some a0) 7 0)).bind fun x7 =>
    (sm_obj h x7 0).bind fun b14 =>
    sm_cb (fX0_size b14 h) fun x8 h9 =>
    (sm_obj h9 x6 0).bind fun b13 =>
    sm_cb (fX0_at b13 x8 h9) fun x10 h11 =>
    if (lg_cmp x10 (a1.toInt64)) = 0 then (
      some ((1 : Int32), h11)
    ) else
    sm_let (a2 + (1 : Int32)) fun x12 =>
    (fX7_hasColumn_2 n) a0 a1 x12 h11
set_option maxRecDepth 100000 in
set_option maxHeartbeats 4000000 in
theorem sX7_hasColumn_2 (l : Launch) (D : va_G) (aC : Nat → ClassId) (B : Nat)   (n : Nat) : ∀ (a0 : Nat) (a1 : Int32) (a2 : Int32) (h : sm_H), zS l D aC B cX7_hasColumn 4 RX7 1 21 (some .boolean) "hasColumn" vlI (fX7_hasColumn_2 n a0 a1 a2 h) 2 [(0, vR (some a0)), (1, vI a1), (2, vI a2)] [] h := by
  induction n with
  | zero => intro a0 a1 a2 h; exact sm_none
  | succ n ih =>
    intro a0 a1 a2 h
    show zS l D aC B cX7_hasColumn 4 RX7 1 21 (some .boolean) "hasColumn" vlI (fX7_hasColumn_2 (n + 1) a0 a1 a2 h) 2 [(0, vR (some a0)), (1, vI a1), (2, vI a2)] [] h
    unfold fX7_hasColumn_2
    refine sm_iload_n (i := 2) (j := 2) (pc' := 3) dX7_hasColumn_2 rfl rfl rfl ?_
    refine sm_aload_n (i := 0) (j := 0) (pc' := 4) dX7_hasColumn_3 rfl rfl rfl ?_
    refine sm_getR (k := 1) (pc' := 7) kX7 (by decide) mw132 dX7_hasColumn_4 rfl (fun x1 => ?_)
    refine sm_alen (t := 4) (pc' := 8) rfl dX7_hasColumn_7 rfl (fun x2 => ?_)
    refine sm_icmp_ge (tgt := 50) (pc' := 11) dX7_hasColumn_8 (by decide) rfl ?_ ?_
    · refine sm_iconst (v := (0 : Int32)) (pc' := 51) dX7_hasColumn_50 rfl (by decide) ?_
      exact sm_zret0 rfl dX7_hasColumn_51
    refine sm_aload_n (i := 0) (j := 0) (pc' := 12) dX7_hasColumn_11 rfl rfl rfl ?_
    refine sm_getR (k := 1) (pc' := 15) kX7 (by decide) mw132 dX7_hasColumn_12 rfl (fun x3 => ?_)
    refine sm_iload_n (i := 2) (j := 2) (pc' := 16) dX7_hasColumn_15 rfl rfl rfl ?_
    refine sm_aald (t := 4) (pc' := 17) rfl dX7_hasColumn_16 rfl (fun x4 => ?_)
    refine sm_astore_n (i := 3) (lv' := [(3, vR x4), (0, vR (some a0)), (1, vI a1), (2, vI a2)]) (pc' := 18) dX7_hasColumn_17 rfl rfl (by decide) rfl ?_
    refine sm_aload_n (i := 3) (j := 0) (pc' := 19) dX7_hasColumn_18 rfl rfl rfl ?_
    refine sm_ifnull (tgt := 44) (pc' := 22) dX7_hasColumn_19 (by decide) rfl ?_ ?_
    · refine sm_iincL (i := 2) (j := 3) (x := a2) (d := (1 : Int32)) (fun x5 => [(2, vI x5), (3, vR x4), (0, vR (some a0)), (1, vI a1)]) (pc' := 47) dX7_hasColumn_44 rfl rfl (by decide) (by decide) (fun _ => rfl) (fun x5 => ?_)
      refine sm_goto (pc' := 2) dX7_hasColumn_47 (by decide) ?_
      refine sm_lo (lv' := [(0, vR (some a0)), (1, vI a1), (2, vI x5)]) [2, 3, 0] rfl ?_
      exact ih a0 a1 x5 h
    refine sm_aload_n (i := 3) (j := 0) (pc' := 23) dX7_hasColumn_22 rfl rfl rfl ?_
    refine sm_getRN (k := 0) (pc' := 26) kX8 (by decide) mw355 dX7_hasColumn_23 rfl (fun x6 => ?_)
    refine sm_aload_n (i := 0) (j := 1) (pc' := 27) dX7_hasColumn_26 rfl rfl rfl ?_
    refine sm_getR (k := 0) (pc' := 30) kX7 (by decide) mw349 dX7_hasColumn_27 rfl (fun x7 => ?_)
    refine sm_cVI (pc' := 33) (ci := 0) (st := [vR x6]) (F := fun b => fX0_size b h) [] yY_yX0_size rfl mw356 mw32 mw33 (fun b => mX0_size l D aC B b h) rfl (by decide) (by decide) (by exact Nat.le_of_ble_eq_true rfl) rfl dX7_hasColumn_30 rfl (fun x8 h9 => ?_)
    refine sm_cVJ (pc' := 36) (ci := 0) (st := []) (F := fun b => fX0_at b x8 h9) [vI x8] yY_yX0_at rfl mw357 mw15 mw16 (fun b => mX0_at l D aC B b x8 h9) rfl (by decide) (by decide) (by exact Nat.le_of_ble_eq_true rfl) rfl dX7_hasColumn_33 rfl (fun x10 h11 => ?_)
    refine sm_iload_n (i := 1) (j := 2) (pc' := 37) dX7_hasColumn_36 rfl rfl rfl ?_
    refine sm_i2l (pc' := 38) dX7_hasColumn_37 rfl ?_
    refine sm_lcmp (pc' := 39) dX7_hasColumn_38 rfl ?_
    refine sm_if_ne (tgt := 44) (pc' := 42) dX7_hasColumn_39 (by decide) rfl ?_ ?_
    · refine sm_iincL (i := 2) (j := 3) (x := a2) (d := (1 : Int32)) (fun x12 => [(2, vI x12), (3, vR x4), (0, vR (some a0)), (1, vI a1)]) (pc' := 47) dX7_hasColumn_44 rfl rfl (by decide) (by decide) (fun _ => rfl) (fun x12 => ?_)
      refine sm_goto (pc' := 2) dX7_hasColumn_47 (by decide) ?_
      refine sm_lo (lv' := [(0, vR (some a0)), (1, vI a1), (2, vI x12)]) [2, 3, 0] rfl ?_
      exact ih a0 a1 x12 h11
    refine sm_iconst (v := (1 : Int32)) (pc' := 43) dX7_hasColumn_42 rfl (by decide) ?_
    exact sm_zret1 rfl dX7_hasColumn_43
noncomputable def fX7_hasColumn  (a0 : Nat) (a1 : Int32) (h : sm_H) : Option (Int32 × sm_H) :=
  fX7_hasColumn_2 sm_fuel a0 a1 (0 : Int32) h
set_option maxRecDepth 100000 in
set_option maxHeartbeats 4000000 in
theorem sX7_hasColumn_0 (l : Launch) (D : va_G) (aC : Nat → ClassId) (B : Nat)   (a0 : Nat) (a1 : Int32) (h : sm_H) : zS l D aC B cX7_hasColumn 4 RX7 1 21 (some .boolean) "hasColumn" vlI (fX7_hasColumn a0 a1 h) 0 [(0, vR (some a0)), (1, vI a1)] [] h := by
  unfold fX7_hasColumn
  refine sm_iconst (v := (0 : Int32)) (pc' := 1) dX7_hasColumn_0 rfl (by decide) ?_
  refine sm_istore_n (i := 2) (lv' := [(2, vI (0 : Int32)), (0, vR (some a0)), (1, vI a1)]) (pc' := 2) dX7_hasColumn_1 rfl rfl (by decide) rfl ?_
  refine sm_lo (lv' := [(0, vR (some a0)), (1, vI a1), (2, vI (0 : Int32))]) [1, 2, 0] rfl ?_
  exact sX7_hasColumn_2 l D aC B   sm_fuel a0 a1 (0 : Int32) h
set_option maxRecDepth 100000 in
theorem mX7_hasColumn (l : Launch) (D : va_G) (aC : Nat → ClassId) (B : Nat) (a0 : Nat) (a1 : Int32) (h : sm_H) : sm_M l D vwCl gAts aC B gTs gNs gOs yX7_hasColumn cX7_hasColumn 4 (some .boolean) 1 21 vlI [vR (some a0), vI a1] h (fX7_hasColumn a0 a1 h) := sm_meth [vR (some a0), vI a1] yY_yX7_hasColumn gG gN (Nat.le_of_ble_eq_true rfl) rfl (sX7_hasColumn_0 l D aC B a0 a1 h)
-- M:TreeAgent$Table.addColumn(LTreeAgent$Thing;)V
noncomputable def fX7_addColumn  (a0 : Nat) (a1 : Option Nat) (h : sm_H) : Option (Unit × sm_H) :=
  (sm_I (sm_get h (some a0) 7 4)).bind fun x1 =>
  if x1 < 0 then (
    some ((), h)
  ) else
  (sm_I (sm_get h (some a0) 7 4)).bind fun x2 =>
  (sm_R (sm_get h (some a0) 7 1)).bind fun x3 =>
  (sm_len h x3 4).bind fun x4 =>
  if x4 ≤ x2 then (
    some ((), h)
  ) else
  (sm_R (sm_get h (some a0) 7 1)).bind fun x5 =>
  (sm_I (sm_get h (some a0) 7 4)).bind fun x6 =>
  (sm_sR h x5 4 8 x6 a1).bind fun h7 =>
  (sm_I (sm_get h7 (some a0) 7 4)).bind fun x8 =>
  (sm_put h7 (some a0) 7 4 (sm_v (vI (x8 + (1 : Int32))))).bind fun h9 =>
  some ((), h9)
set_option maxRecDepth 100000 in
set_option maxHeartbeats 4000000 in
theorem sX7_addColumn_0 (l : Launch) (D : va_G) (aC : Nat → ClassId) (B : Nat)   (a0 : Nat) (a1 : Option Nat) (h : sm_H) : zS l D aC B cX7_addColumn 2 RX7 0 0 none "addColumn" vlU (fX7_addColumn a0 a1 h) 0 [(0, vR (some a0)), (1, vR a1)] [] h := by
  unfold fX7_addColumn
  refine sm_aload_n (i := 0) (j := 0) (pc' := 1) dX7_addColumn_0 rfl rfl rfl ?_
  refine sm_getI (k := 4) (pc' := 4) kX7 (by decide) mw354 dX7_addColumn_1 rfl (fun x1 => ?_)
  refine sm_if_lt (tgt := 39) (pc' := 7) dX7_addColumn_4 (by decide) rfl ?_ ?_
  · exact sm_vret rfl dX7_addColumn_39
  refine sm_aload_n (i := 0) (j := 0) (pc' := 8) dX7_addColumn_7 rfl rfl rfl ?_
  refine sm_getI (k := 4) (pc' := 11) kX7 (by decide) mw354 dX7_addColumn_8 rfl (fun x2 => ?_)
  refine sm_aload_n (i := 0) (j := 0) (pc' := 12) dX7_addColumn_11 rfl rfl rfl ?_
  refine sm_getR (k := 1) (pc' := 15) kX7 (by decide) mw132 dX7_addColumn_12 rfl (fun x3 => ?_)
  refine sm_alen (t := 4) (pc' := 16) rfl dX7_addColumn_15 rfl (fun x4 => ?_)
  refine sm_icmp_ge (tgt := 39) (pc' := 19) dX7_addColumn_16 (by decide) rfl ?_ ?_
  · exact sm_vret rfl dX7_addColumn_39
  refine sm_aload_n (i := 0) (j := 0) (pc' := 20) dX7_addColumn_19 rfl rfl rfl ?_
  refine sm_getR (k := 1) (pc' := 23) kX7 (by decide) mw132 dX7_addColumn_20 rfl (fun x5 => ?_)
  refine sm_aload_n (i := 0) (j := 0) (pc' := 24) dX7_addColumn_23 rfl rfl rfl ?_
  refine sm_getI (k := 4) (pc' := 27) kX7 (by decide) mw354 dX7_addColumn_24 rfl (fun x6 => ?_)
  refine sm_aload_n (i := 1) (j := 1) (pc' := 28) dX7_addColumn_27 rfl rfl rfl ?_
  refine sm_aast (t := 4) (ci := 8) (pc' := 29) rfl rfl dX7_addColumn_28 rfl (fun h7 => ?_)
  refine sm_aload_n (i := 0) (j := 0) (pc' := 30) dX7_addColumn_29 rfl rfl rfl ?_
  refine sm_dup (pc' := 31) rfl dX7_addColumn_30 rfl ?_
  refine sm_getI (k := 4) (pc' := 34) kX7 (by decide) mw354 dX7_addColumn_31 rfl (fun x8 => ?_)
  refine sm_iconst (v := (1 : Int32)) (pc' := 35) dX7_addColumn_34 rfl (by decide) ?_
  refine sm_iadd (pc' := 36) dX7_addColumn_35 rfl ?_
  refine sm_putI (k := 4) (pc' := 39) kX7 (by decide) mw354 rfl rfl dX7_addColumn_36 rfl (fun h9 => ?_)
  exact sm_vret rfl dX7_addColumn_39
set_option maxRecDepth 100000 in
theorem mX7_addColumn (l : Launch) (D : va_G) (aC : Nat → ClassId) (B : Nat) (a0 : Nat) (a1 : Option Nat) (h : sm_H) : sm_M l D vwCl gAts aC B gTs gNs gOs yX7_addColumn cX7_addColumn 2 none 0 0 vlU [vR (some a0), vR a1] h (fX7_addColumn a0 a1 h) := sm_meth [vR (some a0), vR a1] yY_yX7_addColumn gG gN (Nat.le_of_ble_eq_true rfl) rfl (sX7_addColumn_0 l D aC B a0 a1 h)
-- M:TreeAgent$Table.indexAbove(J)J
noncomputable def fX7_indexAbove_7  : Nat → Nat → Int64 → Int64 → Int32 → sm_H → Option (Int64 × sm_H)
  | 0 => fun _ _ _ _ _ => none
  | n + 1 => fun a0 a1 a3 a5 h =>
    (sm_R (sm_get h (some a0) 7 2)).bind fun x1 =>
    (sm_len h x1 0).bind fun x2 =>
    if x2 ≤ a5 then (
      some (a3, h)
    ) else
    (sm_R (sm_get h (some a0) 7 2)).bind fun x3 =>
    (sm_aI h x3 0 a5).bind fun x4 =>
    sm_let (x4.toInt64) fun x5 =>
    if (lg_cmp x5 (1 : Int64)) < 0 then (
      sm_let (a5 + (1 : Int32)) fun x6 =>
      (fX7_indexAbove_7 n) a0 a1 a3 x6 h
    ) else
    if (lg_cmp x5 a1) ≤ 0 then (
      sm_let (a5 + (1 : Int32)) fun x7 =>
      (fX7_indexAbove_7 n) a0 a1 a3 x7 h
    ) else
    if (lg_cmp a3 (0 : Int64)) < 0 then (
      sm_let (a5 + (1 : Int32)) fun x8 =>
      (fX7_indexAbove_7 n) a0 a1 x5 x8 h
    ) else
    if 0 ≤ (lg_cmp x5 a3) then (
      sm_let (a5 + (1 : Int32)) fun x9 =>
      (fX7_indexAbove_7 n) a0 a1 a3 x9 h
    ) else
    sm_let (a5 + (1 : Int32)) fun x10 =>
    (fX7_indexAbove_7 n) a0 a1 x5 x10 h
set_option maxRecDepth 100000 in
set_option maxHeartbeats 4000000 in
theorem sX7_indexAbove_7 (l : Launch) (D : va_G) (aC : Nat → ClassId) (B : Nat)   (n : Nat) : ∀ (a0 : Nat) (a1 : Int64) (a3 : Int64) (a5 : Int32) (h : sm_H), zS l D aC B cX7_indexAbove 8 RX7 0 0 (some .long) "indexAbove" vlJ (fX7_indexAbove_7 n a0 a1 a3 a5 h) 7 [(0, vR (some a0)), (1, vJ a1), (3, vJ a3), (5, vI a5)] [] h := by
  induction n with
  | zero => intro a0 a1 a3 a5 h; exact sm_none
  | succ n ih =>
    intro a0 a1 a3 a5 h
    show zS l D aC B cX7_indexAbove 8 RX7 0 0 (some .long) "indexAbove" vlJ (fX7_indexAbove_7 (n + 1) a0 a1 a3 a5 h) 7 [(0, vR (some a0)), (1, vJ a1), (3, vJ a3), (5, vI a5)] [] h
    unfold fX7_indexAbove_7
    refine sm_iload (i := 5) (j := 3) (pc' := 9) dX7_indexAbove_7 rfl rfl ?_
    refine sm_aload_n (i := 0) (j := 0) (pc' := 10) dX7_indexAbove_9 rfl rfl rfl ?_
    refine sm_getR (k := 2) (pc' := 13) kX7 (by decide) mw56 dX7_indexAbove_10 rfl (fun x1 => ?_)
    refine sm_alen (t := 0) (pc' := 14) rfl dX7_indexAbove_13 rfl (fun x2 => ?_)
    refine sm_icmp_ge (tgt := 63) (pc' := 17) dX7_indexAbove_14 (by decide) rfl ?_ ?_
    · refine sm_lload_n (i := 3) (j := 2) (pc' := 64) dX7_indexAbove_63 rfl rfl rfl ?_
      exact sm_lret rfl dX7_indexAbove_64
    refine sm_aload_n (i := 0) (j := 0) (pc' := 18) dX7_indexAbove_17 rfl rfl rfl ?_
    refine sm_getR (k := 2) (pc' := 21) kX7 (by decide) mw56 dX7_indexAbove_18 rfl (fun x3 => ?_)
    refine sm_iload (i := 5) (j := 3) (pc' := 23) dX7_indexAbove_21 rfl rfl ?_
    refine sm_iald (t := 0) (pc' := 24) rfl dX7_indexAbove_23 rfl (fun x4 => ?_)
    refine sm_i2l (pc' := 25) dX7_indexAbove_24 rfl ?_
    refine sm_letJv (fun x5 => ?_)
    refine sm_lstore (i := 6) (lv' := [(6, vJ x5), (0, vR (some a0)), (1, vJ a1), (3, vJ a3), (5, vI a5)]) (pc' := 27) dX7_indexAbove_25 rfl (by decide) rfl ?_
    refine sm_lload (i := 6) (j := 0) (pc' := 29) dX7_indexAbove_27 rfl rfl ?_
    refine sm_lconst (v := (1 : Int64)) (pc' := 30) dX7_indexAbove_29 rfl (by decide) ?_
    refine sm_lcmp (pc' := 31) dX7_indexAbove_30 rfl ?_
    refine sm_if_lt (tgt := 57) (pc' := 34) dX7_indexAbove_31 (by decide) rfl ?_ ?_
    · refine sm_iincL (i := 5) (j := 4) (x := a5) (d := (1 : Int32)) (fun x6 => [(5, vI x6), (6, vJ x5), (0, vR (some a0)), (1, vJ a1), (3, vJ a3)]) (pc' := 60) dX7_indexAbove_57 rfl rfl (by decide) (by decide) (fun _ => rfl) (fun x6 => ?_)
      refine sm_goto (pc' := 7) dX7_indexAbove_60 (by decide) ?_
      refine sm_lo (lv' := [(0, vR (some a0)), (1, vJ a1), (3, vJ a3), (5, vI x6)]) [2, 3, 4, 0] rfl ?_
      exact ih a0 a1 a3 x6 h
    refine sm_lload (i := 6) (j := 0) (pc' := 36) dX7_indexAbove_34 rfl rfl ?_
    refine sm_lload_n (i := 1) (j := 2) (pc' := 37) dX7_indexAbove_36 rfl rfl rfl ?_
    refine sm_lcmp (pc' := 38) dX7_indexAbove_37 rfl ?_
    refine sm_if_le (tgt := 57) (pc' := 41) dX7_indexAbove_38 (by decide) rfl ?_ ?_
    · refine sm_iincL (i := 5) (j := 4) (x := a5) (d := (1 : Int32)) (fun x7 => [(5, vI x7), (6, vJ x5), (0, vR (some a0)), (1, vJ a1), (3, vJ a3)]) (pc' := 60) dX7_indexAbove_57 rfl rfl (by decide) (by decide) (fun _ => rfl) (fun x7 => ?_)
      refine sm_goto (pc' := 7) dX7_indexAbove_60 (by decide) ?_
      refine sm_lo (lv' := [(0, vR (some a0)), (1, vJ a1), (3, vJ a3), (5, vI x7)]) [2, 3, 4, 0] rfl ?_
      exact ih a0 a1 a3 x7 h
    refine sm_lload_n (i := 3) (j := 3) (pc' := 42) dX7_indexAbove_41 rfl rfl rfl ?_
    refine sm_lconst (v := (0 : Int64)) (pc' := 43) dX7_indexAbove_42 rfl (by decide) ?_
    refine sm_lcmp (pc' := 44) dX7_indexAbove_43 rfl ?_
    refine sm_if_lt (tgt := 54) (pc' := 47) dX7_indexAbove_44 (by decide) rfl ?_ ?_
    · refine sm_lload (i := 6) (j := 0) (pc' := 56) dX7_indexAbove_54 rfl rfl ?_
      refine sm_lstore_n (i := 3) (lv' := [(3, vJ x5), (6, vJ x5), (0, vR (some a0)), (1, vJ a1), (5, vI a5)]) (pc' := 57) dX7_indexAbove_56 rfl rfl (by decide) rfl ?_
      refine sm_iincL (i := 5) (j := 4) (x := a5) (d := (1 : Int32)) (fun x8 => [(5, vI x8), (3, vJ x5), (6, vJ x5), (0, vR (some a0)), (1, vJ a1)]) (pc' := 60) dX7_indexAbove_57 rfl rfl (by decide) (by decide) (fun _ => rfl) (fun x8 => ?_)
      refine sm_goto (pc' := 7) dX7_indexAbove_60 (by decide) ?_
      refine sm_lo (lv' := [(0, vR (some a0)), (1, vJ a1), (3, vJ x5), (5, vI x8)]) [3, 4, 1, 0] rfl ?_
      exact ih a0 a1 x5 x8 h
    refine sm_lload (i := 6) (j := 0) (pc' := 49) dX7_indexAbove_47 rfl rfl ?_
    refine sm_lload_n (i := 3) (j := 3) (pc' := 50) dX7_indexAbove_49 rfl rfl rfl ?_
    refine sm_lcmp (pc' := 51) dX7_indexAbove_50 rfl ?_
    refine sm_if_ge (tgt := 57) (pc' := 54) dX7_indexAbove_51 (by decide) rfl ?_ ?_
    · refine sm_iincL (i := 5) (j := 4) (x := a5) (d := (1 : Int32)) (fun x9 => [(5, vI x9), (6, vJ x5), (0, vR (some a0)), (1, vJ a1), (3, vJ a3)]) (pc' := 60) dX7_indexAbove_57 rfl rfl (by decide) (by decide) (fun _ => rfl) (fun x9 => ?_)
      refine sm_goto (pc' := 7) dX7_indexAbove_60 (by decide) ?_
      refine sm_lo (lv' := [(0, vR (some a0)), (1, vJ a1), (3, vJ a3), (5, vI x9)]) [2, 3, 4, 0] rfl ?_
      exact ih a0 a1 a3 x9 h
    refine sm_lload (i := 6) (j := 0) (pc' := 56) dX7_indexAbove_54 rfl rfl ?_
    refine sm_lstore_n (i := 3) (lv' := [(3, vJ x5), (6, vJ x5), (0, vR (some a0)), (1, vJ a1), (5, vI a5)]) (pc' := 57) dX7_indexAbove_56 rfl rfl (by decide) rfl ?_
    refine sm_iincL (i := 5) (j := 4) (x := a5) (d := (1 : Int32)) (fun x10 => [(5, vI x10), (3, vJ x5), (6, vJ x5), (0, vR (some a0)), (1, vJ a1)]) (pc' := 60) dX7_indexAbove_57 rfl rfl (by decide) (by decide) (fun _ => rfl) (fun x10 => ?_)
    refine sm_goto (pc' := 7) dX7_indexAbove_60 (by decide) ?_
    refine sm_lo (lv' := [(0, vR (some a0)), (1, vJ a1), (3, vJ x5), (5, vI x10)]) [3, 4, 1, 0] rfl ?_
    exact ih a0 a1 x5 x10 h
noncomputable def fX7_indexAbove  (a0 : Nat) (a1 : Int64) (h : sm_H) : Option (Int64 × sm_H) :=
  fX7_indexAbove_7 sm_fuel a0 a1 (-1 : Int64) (0 : Int32) h
set_option maxRecDepth 100000 in
set_option maxHeartbeats 4000000 in
theorem sX7_indexAbove_0 (l : Launch) (D : va_G) (aC : Nat → ClassId) (B : Nat)   (a0 : Nat) (a1 : Int64) (h : sm_H) : zS l D aC B cX7_indexAbove 8 RX7 0 0 (some .long) "indexAbove" vlJ (fX7_indexAbove a0 a1 h) 0 [(0, vR (some a0)), (1, vJ a1)] [] h := by
  unfold fX7_indexAbove
  refine sm_ldc2 (v := (-1 : Int64)) (pc' := 3) dX7_indexAbove_0 rfl mw358 ?_
  refine sm_lstore_n (i := 3) (lv' := [(3, vJ (-1 : Int64)), (0, vR (some a0)), (1, vJ a1)]) (pc' := 4) dX7_indexAbove_3 rfl rfl (by decide) rfl ?_
  refine sm_iconst (v := (0 : Int32)) (pc' := 5) dX7_indexAbove_4 rfl (by decide) ?_
  refine sm_istore (i := 5) (lv' := [(5, vI (0 : Int32)), (3, vJ (-1 : Int64)), (0, vR (some a0)), (1, vJ a1)]) (pc' := 7) dX7_indexAbove_5 rfl (by decide) rfl ?_
  refine sm_lo (lv' := [(0, vR (some a0)), (1, vJ a1), (3, vJ (-1 : Int64)), (5, vI (0 : Int32))]) [2, 3, 1, 0] rfl ?_
  exact sX7_indexAbove_7 l D aC B   sm_fuel a0 a1 (-1 : Int64) (0 : Int32) h
set_option maxRecDepth 100000 in
theorem mX7_indexAbove (l : Launch) (D : va_G) (aC : Nat → ClassId) (B : Nat) (a0 : Nat) (a1 : Int64) (h : sm_H) : sm_M l D vwCl gAts aC B gTs gNs gOs yX7_indexAbove cX7_indexAbove 8 (some .long) 0 0 vlJ [vR (some a0), vJ a1] h (fX7_indexAbove a0 a1 h) := sm_meth [vR (some a0), vJ a1] yY_yX7_indexAbove gG gN (Nat.le_of_ble_eq_true rfl) rfl (sX7_indexAbove_0 l D aC B a0 a1 h)
-- M:TreeAgent$Thing.<init>(LTreeAgent$Chain;IIJJLTreeAgent$Table;)V
noncomputable def fX8_init_98  : Nat → Nat → Int32 → Int32 → Int32 → sm_H → Option (Unit × sm_H)
  | 0 => fun _ _ _ _ _ => none
  | n + 1 => fun a0 a2 a9 a10 h =>
    (sm_R (sm_get h (some a0) 8 6)).bind fun x1 =>
    (sm_len h x1 8).bind fun x2 =>
    if x2 ≤ a10 then (
      some ((), h)
    ) else
    sm_let (sm_new h 10 [.null, .int 0, .long 0]) fun h3 =>
    sm_cb (fX10_init h.1 a2 a9 h3) fun _ h4 =>
    (sm_obj h4 (some h.1) 10).bind fun b9 =>
    sm_cb (fX10_becomeFirst b9 h4) fun _ h5 =>
    (sm_R (sm_get h5 (some a0) 8 6)).bind fun x6 =>
    (sm_sR h5 x6 8 10 a10 (some h.1)).bind fun h7 =>
    sm_let (a10 + (1 : Int32)) fun x8 =>
    (fX8_init_98 n) a0 a2 a9 x8 h7
set_option maxRecDepth 100000 in
set_option maxHeartbeats 4000000 in
theorem sX8_init_98 (l : Launch) (D : va_G) (aC : Nat → ClassId) (B : Nat)   (n : Nat) : ∀ (a0 : Nat) (a2 : Int32) (a9 : Int32) (a10 : Int32) (h : sm_H), zS l D aC B cX8_init 12 RX8 3 64 none "<init>" vlU (fX8_init_98 n a0 a2 a9 a10 h) 98 [(0, vR (some a0)), (2, vI a2), (9, vI a9), (10, vI a10)] [] h := by
  induction n with
  | zero => intro a0 a2 a9 a10 h; exact sm_none
  | succ n ih =>
    intro a0 a2 a9 a10 h
    show zS l D aC B cX8_init 12 RX8 3 64 none "<init>" vlU (fX8_init_98 (n + 1) a0 a2 a9 a10 h) 98 [(0, vR (some a0)), (2, vI a2), (9, vI a9), (10, vI a10)] [] h
    unfold fX8_init_98
    refine sm_iload (i := 10) (j := 3) (pc' := 100) dX8_init_98 rfl rfl ?_
    refine sm_aload_n (i := 0) (j := 0) (pc' := 101) dX8_init_100 rfl rfl rfl ?_
    refine sm_getR (k := 6) (pc' := 104) kX8 (by decide) mw116 dX8_init_101 rfl (fun x1 => ?_)
    refine sm_alen (t := 8) (pc' := 105) rfl dX8_init_104 rfl (fun x2 => ?_)
    refine sm_icmp_ge (tgt := 140) (pc' := 108) dX8_init_105 (by decide) rfl ?_ ?_
    · exact sm_vret rfl dX8_init_140
    refine sm_newL (fs := [.null, .int 0, .long 0]) (pc' := 111) kX10 rfl (by decide +kernel) mw361 mw183 mw184 dX8_init_108 rfl (fun h3 => ?_)
    refine sm_dup (pc' := 112) rfl dX8_init_111 rfl ?_
    refine sm_iload_n (i := 2) (j := 1) (pc' := 113) dX8_init_112 rfl rfl rfl ?_
    refine sm_iload (i := 9) (j := 2) (pc' := 115) dX8_init_113 rfl rfl ?_
    refine sm_cI (pc' := 118) (b := h.1) (st := [vR (some h.1)]) [vI a2, vI a9] yY_yX10_init mw359 mw181 rfl (mX10_init l D aC B h.1 a2 a9 h3) rfl (by decide) (by decide) (by exact Nat.le_of_ble_eq_true rfl) rfl dX8_init_115 rfl (fun _ h4 => ?_)
    refine sm_astore (i := 11) (lv' := [(11, vR (some h.1)), (0, vR (some a0)), (2, vI a2), (9, vI a9), (10, vI a10)]) (pc' := 120) dX8_init_118 rfl (by decide) rfl ?_
    refine sm_aload (i := 11) (j := 0) (pc' := 122) dX8_init_120 rfl rfl ?_
    refine sm_cVU (pc' := 125) (ci := 10) (st := []) (F := fun b => fX10_becomeFirst b h4) [] yY_yX10_becomeFirst rfl mw360 mw130 mw131 (fun b => mX10_becomeFirst l D aC B b h4) rfl (by decide) (by decide) (by exact Nat.le_of_ble_eq_true rfl) rfl dX8_init_122 rfl (fun _ h5 => ?_)
    refine sm_aload_n (i := 0) (j := 1) (pc' := 126) dX8_init_125 rfl rfl rfl ?_
    refine sm_getR (k := 6) (pc' := 129) kX8 (by decide) mw116 dX8_init_126 rfl (fun x6 => ?_)
    refine sm_iload (i := 10) (j := 4) (pc' := 131) dX8_init_129 rfl rfl ?_
    refine sm_aload (i := 11) (j := 0) (pc' := 133) dX8_init_131 rfl rfl ?_
    refine sm_aast (t := 8) (ci := 10) (pc' := 134) rfl rfl dX8_init_133 rfl (fun h7 => ?_)
    refine sm_iincL (i := 10) (j := 4) (x := a10) (d := (1 : Int32)) (fun x8 => [(10, vI x8), (11, vR (some h.1)), (0, vR (some a0)), (2, vI a2), (9, vI a9)]) (pc' := 137) dX8_init_134 rfl rfl (by decide) (by decide) (fun _ => rfl) (fun x8 => ?_)
    refine sm_goto (pc' := 98) dX8_init_137 (by decide) ?_
    refine sm_lo (lv' := [(0, vR (some a0)), (2, vI a2), (9, vI a9), (10, vI x8)]) [2, 3, 4, 0] rfl ?_
    exact ih a0 a2 a9 x8 h7
noncomputable def fX8_init_65  (a0 : Nat) (a2 : Int32) (s0 : Int32) (s1 : Option Nat) (h : sm_H) : Option (Unit × sm_H) :=
  if s0 < 0 ∨ 1000000 < s0 then none else
  sm_let (sm_nwa h 8 s0.toNatClampNeg (.inr (.inr (.inr (.inr (fun _ => none)))))) fun h1 =>
  (sm_put h1 s1 8 6 (sm_v (vR (some h.1)))).bind fun h2 =>
  if a2 = (4 : Int32) then (
    fX8_init_98 sm_fuel a0 a2 (40 : Int32) (0 : Int32) h2
  ) else
  if a2 = (6 : Int32) then (
    fX8_init_98 sm_fuel a0 a2 (16 : Int32) (0 : Int32) h2
  ) else
  fX8_init_98 sm_fuel a0 a2 (0 : Int32) (0 : Int32) h2
set_option maxRecDepth 100000 in
set_option maxHeartbeats 4000000 in
theorem sX8_init_65 (l : Launch) (D : va_G) (aC : Nat → ClassId) (B : Nat)   (a0 : Nat) (a2 : Int32) (s0 : Int32) (s1 : Option Nat) (h : sm_H) : zS l D aC B cX8_init 12 RX8 3 64 none "<init>" vlU (fX8_init_65 a0 a2 s0 s1 h) 65 [(0, vR (some a0)), (2, vI a2)] [vI s0, vR s1] h := by
  unfold fX8_init_65
  refine sm_anewL (C0 := "TreeAgent$Value") (t := 8) (pc' := 68) rfl mw361 (by decide) dX8_init_65 rfl (fun h1 => ?_)
  refine sm_putFR (k := 6) (pc' := 71) kX8 (by decide) mw116 rfl rfl rfl (Or.inr ⟨_, rfl⟩) dX8_init_68 rfl (fun h2 => ?_)
  refine sm_iload_n (i := 2) (j := 1) (pc' := 72) dX8_init_71 rfl rfl rfl ?_
  refine sm_iconst (v := (4 : Int32)) (pc' := 73) dX8_init_72 rfl (by decide) ?_
  refine sm_icmp_ne (tgt := 81) (pc' := 76) dX8_init_73 (by decide) rfl ?_ ?_
  · refine sm_iload_n (i := 2) (j := 1) (pc' := 82) dX8_init_81 rfl rfl rfl ?_
    refine sm_bipush (v := (6 : Int32)) (pc' := 84) dX8_init_82 rfl (by decide) ?_
    refine sm_icmp_ne (tgt := 92) (pc' := 87) dX8_init_84 (by decide) rfl ?_ ?_
    · refine sm_iconst (v := (0 : Int32)) (pc' := 93) dX8_init_92 rfl (by decide) ?_
      refine sm_istore (i := 9) (lv' := [(9, vI (0 : Int32)), (0, vR (some a0)), (2, vI a2)]) (pc' := 95) dX8_init_93 rfl (by decide) rfl ?_
      refine sm_iconst (v := (0 : Int32)) (pc' := 96) dX8_init_95 rfl (by decide) ?_
      refine sm_istore (i := 10) (lv' := [(10, vI (0 : Int32)), (9, vI (0 : Int32)), (0, vR (some a0)), (2, vI a2)]) (pc' := 98) dX8_init_96 rfl (by decide) rfl ?_
      refine sm_lo (lv' := [(0, vR (some a0)), (2, vI a2), (9, vI (0 : Int32)), (10, vI (0 : Int32))]) [2, 3, 1, 0] rfl ?_
      exact sX8_init_98 l D aC B   sm_fuel a0 a2 (0 : Int32) (0 : Int32) h2
    refine sm_bipush (v := (16 : Int32)) (pc' := 89) dX8_init_87 rfl (by decide) ?_
    refine sm_goto (pc' := 93) dX8_init_89 (by decide) ?_
    refine sm_istore (i := 9) (lv' := [(9, vI (16 : Int32)), (0, vR (some a0)), (2, vI a2)]) (pc' := 95) dX8_init_93 rfl (by decide) rfl ?_
    refine sm_iconst (v := (0 : Int32)) (pc' := 96) dX8_init_95 rfl (by decide) ?_
    refine sm_istore (i := 10) (lv' := [(10, vI (0 : Int32)), (9, vI (16 : Int32)), (0, vR (some a0)), (2, vI a2)]) (pc' := 98) dX8_init_96 rfl (by decide) rfl ?_
    refine sm_lo (lv' := [(0, vR (some a0)), (2, vI a2), (9, vI (16 : Int32)), (10, vI (0 : Int32))]) [2, 3, 1, 0] rfl ?_
    exact sX8_init_98 l D aC B   sm_fuel a0 a2 (16 : Int32) (0 : Int32) h2
  refine sm_bipush (v := (40 : Int32)) (pc' := 78) dX8_init_76 rfl (by decide) ?_
  refine sm_goto (pc' := 93) dX8_init_78 (by decide) ?_
  refine sm_istore (i := 9) (lv' := [(9, vI (40 : Int32)), (0, vR (some a0)), (2, vI a2)]) (pc' := 95) dX8_init_93 rfl (by decide) rfl ?_
  refine sm_iconst (v := (0 : Int32)) (pc' := 96) dX8_init_95 rfl (by decide) ?_
  refine sm_istore (i := 10) (lv' := [(10, vI (0 : Int32)), (9, vI (40 : Int32)), (0, vR (some a0)), (2, vI a2)]) (pc' := 98) dX8_init_96 rfl (by decide) rfl ?_
  refine sm_lo (lv' := [(0, vR (some a0)), (2, vI a2), (9, vI (40 : Int32)), (10, vI (0 : Int32))]) [2, 3, 1, 0] rfl ?_
  exact sX8_init_98 l D aC B   sm_fuel a0 a2 (40 : Int32) (0 : Int32) h2
noncomputable def fX8_init  (a0 : Nat) (a1 : Option Nat) (a2 : Int32) (a3 : Int32) (a4 : Int64) (a6 : Int64) (a8 : Option Nat) (h : sm_H) : Option (Unit × sm_H) :=
  sm_let (sm_new h 0 [.null, .int 0]) fun h1 =>
  sm_cb (fX0_init h.1 (16 : Int32) h1) fun _ h2 =>
  (sm_put h2 (some a0) 8 0 (sm_v (vR (some h.1)))).bind fun h3 =>
  (sm_R (sm_get h3 (some a0) 8 0)).bind fun x4 =>
  (sm_obj h3 x4 0).bind fun b11 =>
  sm_cb (fX0_copy b11 a1 h3) fun _ h5 =>
  (sm_put h5 (some a0) 8 1 (sm_v (vI a2))).bind fun h6 =>
  (sm_put h6 (some a0) 8 2 (sm_v (vI a3))).bind fun h7 =>
  (sm_put h7 (some a0) 8 3 (sm_v (vJ a4))).bind fun h8 =>
  (sm_put h8 (some a0) 8 4 (sm_v (vJ a6))).bind fun h9 =>
  (sm_put h9 (some a0) 8 5 (sm_v (vR a8))).bind fun h10 =>
  if a8 = none then (
    fX8_init_65 a0 a2 (1 : Int32) (some a0) h10
  ) else
  fX8_init_65 a0 a2 (16 : Int32) (some a0) h10
set_option maxRecDepth 100000 in
set_option maxHeartbeats 4000000 in
theorem sX8_init_0 (l : Launch) (D : va_G) (aC : Nat → ClassId) (B : Nat)   (a0 : Nat) (a1 : Option Nat) (a2 : Int32) (a3 : Int32) (a4 : Int64) (a6 : Int64) (a8 : Option Nat) (h : sm_H) : zS l D aC B cX8_init 12 RX8 3 64 none "<init>" vlU (fX8_init a0 a1 a2 a3 a4 a6 a8 h) 0 [(0, vR (some a0)), (1, vR a1), (2, vI a2), (3, vI a3), (4, vJ a4), (6, vJ a6), (8, vR a8)] [] h := by
  unfold fX8_init
  refine sm_aload_n (i := 0) (j := 0) (pc' := 1) dX8_init_0 rfl rfl rfl ?_
  refine sm_objI (pc' := 4) mw362 mw1 mw2 dX8_init_1 rfl (by decide) (Nat.le_of_ble_eq_true rfl) ?_
  refine sm_aload_n (i := 0) (j := 0) (pc' := 5) dX8_init_4 rfl rfl rfl ?_
  refine sm_newL (fs := [.null, .int 0]) (pc' := 8) kX0 rfl (by decide +kernel) mw366 mw168 mw169 dX8_init_5 rfl (fun h1 => ?_)
  refine sm_dup (pc' := 9) rfl dX8_init_8 rfl ?_
  refine sm_bipush (v := (16 : Int32)) (pc' := 11) dX8_init_9 rfl (by decide) ?_
  refine sm_cI (pc' := 14) (b := h.1) (st := [vR (some h.1), vR (some a0)]) [vI (16 : Int32)] yY_yX0_init mw363 mw167 rfl (mX0_init l D aC B h.1 (16 : Int32) h1) rfl (by decide) (by decide) (by exact Nat.le_of_ble_eq_true rfl) rfl dX8_init_11 rfl (fun _ h2 => ?_)
  refine sm_putFR (k := 0) (pc' := 17) kX8 (by decide) mw53 rfl rfl rfl (Or.inl ⟨_, rfl⟩) dX8_init_14 rfl (fun h3 => ?_)
  refine sm_aload_n (i := 0) (j := 0) (pc' := 18) dX8_init_17 rfl rfl rfl ?_
  refine sm_getR (k := 0) (pc' := 21) kX8 (by decide) mw53 dX8_init_18 rfl (fun x4 => ?_)
  refine sm_aload_n (i := 1) (j := 1) (pc' := 22) dX8_init_21 rfl rfl rfl ?_
  refine sm_cVU (pc' := 25) (ci := 0) (st := []) (F := fun b => fX0_copy b a1 h3) [vR a1] yY_yX0_copy rfl mw364 mw142 mw143 (fun b => mX0_copy l D aC B b a1 h3) rfl (by decide) (by decide) (by exact Nat.le_of_ble_eq_true rfl) rfl dX8_init_22 rfl (fun _ h5 => ?_)
  refine sm_aload_n (i := 0) (j := 0) (pc' := 26) dX8_init_25 rfl rfl rfl ?_
  refine sm_iload_n (i := 2) (j := 2) (pc' := 27) dX8_init_26 rfl rfl rfl ?_
  refine sm_putFI (k := 1) (pc' := 30) kX8 (by decide) mw41 rfl rfl rfl rfl dX8_init_27 rfl (fun h6 => ?_)
  refine sm_aload_n (i := 0) (j := 0) (pc' := 31) dX8_init_30 rfl rfl rfl ?_
  refine sm_iload_n (i := 3) (j := 3) (pc' := 32) dX8_init_31 rfl rfl rfl ?_
  refine sm_putFI (k := 2) (pc' := 35) kX8 (by decide) mw365 rfl rfl rfl rfl dX8_init_32 rfl (fun h7 => ?_)
  refine sm_aload_n (i := 0) (j := 0) (pc' := 36) dX8_init_35 rfl rfl rfl ?_
  refine sm_lload (i := 4) (j := 4) (pc' := 38) dX8_init_36 rfl rfl ?_
  refine sm_putFJ (k := 3) (pc' := 41) kX8 (by decide) mw44 rfl rfl rfl rfl dX8_init_38 rfl (fun h8 => ?_)
  refine sm_aload_n (i := 0) (j := 0) (pc' := 42) dX8_init_41 rfl rfl rfl ?_
  refine sm_lload (i := 6) (j := 5) (pc' := 44) dX8_init_42 rfl rfl ?_
  refine sm_putFJ (k := 4) (pc' := 47) kX8 (by decide) mw45 rfl rfl rfl rfl dX8_init_44 rfl (fun h9 => ?_)
  refine sm_aload_n (i := 0) (j := 0) (pc' := 48) dX8_init_47 rfl rfl rfl ?_
  refine sm_aload (i := 8) (j := 6) (pc' := 50) dX8_init_48 rfl rfl ?_
  refine sm_putFR (k := 5) (pc' := 53) kX8 (by decide) mw46 rfl rfl rfl (Or.inl ⟨_, rfl⟩) dX8_init_50 rfl (fun h10 => ?_)
  refine sm_aload_n (i := 0) (j := 0) (pc' := 54) dX8_init_53 rfl rfl rfl ?_
  refine sm_aload (i := 8) (j := 6) (pc' := 56) dX8_init_54 rfl rfl ?_
  refine sm_ifnonnull (tgt := 63) (pc' := 59) dX8_init_56 (by decide) rfl ?_ ?_
  · refine sm_bipush (v := (16 : Int32)) (pc' := 65) dX8_init_63 rfl (by decide) ?_
    refine sm_lo (lv' := [(0, vR (some a0)), (2, vI a2)]) [0, 2] rfl ?_
    exact sX8_init_65 l D aC B  a0 a2 (16 : Int32) (some a0) h10
  refine sm_iconst (v := (1 : Int32)) (pc' := 60) dX8_init_59 rfl (by decide) ?_
  refine sm_goto (pc' := 65) dX8_init_60 (by decide) ?_
  refine sm_lo (lv' := [(0, vR (some a0)), (2, vI a2)]) [0, 2] rfl ?_
  exact sX8_init_65 l D aC B  a0 a2 (1 : Int32) (some a0) h10
set_option maxRecDepth 100000 in
theorem mX8_init (l : Launch) (D : va_G) (aC : Nat → ClassId) (B : Nat) (a0 : Nat) (a1 : Option Nat) (a2 : Int32) (a3 : Int32) (a4 : Int64) (a6 : Int64) (a8 : Option Nat) (h : sm_H) : sm_M l D vwCl gAts aC B gTs gNs gOs yX8_init cX8_init 12 none 3 64 vlU [vR (some a0), vR a1, vI a2, vI a3, vJ a4, vJ a6, vR a8] h (fX8_init a0 a1 a2 a3 a4 a6 a8 h) := sm_meth [vR (some a0), vR a1, vI a2, vI a3, vJ a4, vJ a6, vR a8] yY_yX8_init gG gN (Nat.le_of_ble_eq_true rfl) rfl (sX8_init_0 l D aC B a0 a1 a2 a3 a4 a6 a8 h)
-- M:TreeAgent$Thing.tellsClock()Z
noncomputable def fX8_tellsClock  (a0 : Nat) (h : sm_H) : Option (Int32 × sm_H) :=
  (sm_R (sm_get h (some a0) 8 5)).bind fun x1 =>
  if x1 = none then (
    (sm_I (sm_get h (some a0) 8 1)).bind fun x2 =>
    if x2 = (67 : Int32) then (
      (sm_I (sm_get h (some a0) 8 2)).bind fun x3 =>
      if x3 = (1 : Int32) then (
        some ((1 : Int32), h)
      ) else
      some ((0 : Int32), h)
    ) else
    some ((0 : Int32), h)
  ) else
  some ((0 : Int32), h)
set_option maxRecDepth 100000 in
set_option maxHeartbeats 4000000 in
theorem sX8_tellsClock_0 (l : Launch) (D : va_G) (aC : Nat → ClassId) (B : Nat)   (a0 : Nat) (h : sm_H) : zS l D aC B cX8_tellsClock 1 RX8 0 0 (some .boolean) "tellsClock" vlI (fX8_tellsClock a0 h) 0 [(0, vR (some a0))] [] h := by
  unfold fX8_tellsClock
  refine sm_aload_n (i := 0) (j := 0) (pc' := 1) dX8_tellsClock_0 rfl rfl rfl ?_
  refine sm_getR (k := 5) (pc' := 4) kX8 (by decide) mw46 dX8_tellsClock_1 rfl (fun x1 => ?_)
  refine sm_ifnonnull (tgt := 28) (pc' := 7) dX8_tellsClock_4 (by decide) rfl ?_ ?_
  · refine sm_iconst (v := (0 : Int32)) (pc' := 29) dX8_tellsClock_28 rfl (by decide) ?_
    exact sm_zret0 rfl dX8_tellsClock_29
  refine sm_aload_n (i := 0) (j := 0) (pc' := 8) dX8_tellsClock_7 rfl rfl rfl ?_
  refine sm_getI (k := 1) (pc' := 11) kX8 (by decide) mw41 dX8_tellsClock_8 rfl (fun x2 => ?_)
  refine sm_bipush (v := (67 : Int32)) (pc' := 13) dX8_tellsClock_11 rfl (by decide) ?_
  refine sm_icmp_ne (tgt := 28) (pc' := 16) dX8_tellsClock_13 (by decide) rfl ?_ ?_
  · refine sm_iconst (v := (0 : Int32)) (pc' := 29) dX8_tellsClock_28 rfl (by decide) ?_
    exact sm_zret0 rfl dX8_tellsClock_29
  refine sm_aload_n (i := 0) (j := 0) (pc' := 17) dX8_tellsClock_16 rfl rfl rfl ?_
  refine sm_getI (k := 2) (pc' := 20) kX8 (by decide) mw365 dX8_tellsClock_17 rfl (fun x3 => ?_)
  refine sm_iconst (v := (1 : Int32)) (pc' := 21) dX8_tellsClock_20 rfl (by decide) ?_
  refine sm_icmp_ne (tgt := 28) (pc' := 24) dX8_tellsClock_21 (by decide) rfl ?_ ?_
  · refine sm_iconst (v := (0 : Int32)) (pc' := 29) dX8_tellsClock_28 rfl (by decide) ?_
    exact sm_zret0 rfl dX8_tellsClock_29
  refine sm_iconst (v := (1 : Int32)) (pc' := 25) dX8_tellsClock_24 rfl (by decide) ?_
  refine sm_goto (pc' := 29) dX8_tellsClock_25 (by decide) ?_
  exact sm_zret1 rfl dX8_tellsClock_29
set_option maxRecDepth 100000 in
theorem mX8_tellsClock (l : Launch) (D : va_G) (aC : Nat → ClassId) (B : Nat) (a0 : Nat) (h : sm_H) : sm_M l D vwCl gAts aC B gTs gNs gOs yX8_tellsClock cX8_tellsClock 1 (some .boolean) 0 0 vlI [vR (some a0)] h (fX8_tellsClock a0 h) := sm_meth [vR (some a0)] yY_yX8_tellsClock gG gN (Nat.le_of_ble_eq_true rfl) rfl (sX8_tellsClock_0 l D aC B a0 h)
-- M:TreeAgent$Thing.indexAbove(J)J
noncomputable def fX8_indexAbove  (a0 : Nat) (a1 : Int64) (h : sm_H) : Option (Int64 × sm_H) :=
  (sm_R (sm_get h (some a0) 8 5)).bind fun x1 =>
  if x1 = none then (
    if 0 ≤ (lg_cmp a1 (0 : Int64)) then (
      some ((-1 : Int64), h)
    ) else
    some ((0 : Int64), h)
  ) else
  (sm_R (sm_get h (some a0) 8 5)).bind fun x2 =>
  (sm_obj h x2 7).bind fun b5 =>
  sm_cb (fX7_indexAbove b5 a1 h) fun x3 h4 =>
  some (x3, h4)
set_option maxRecDepth 100000 in
set_option maxHeartbeats 4000000 in
theorem sX8_indexAbove_0 (l : Launch) (D : va_G) (aC : Nat → ClassId) (B : Nat)   (a0 : Nat) (a1 : Int64) (h : sm_H) : zS l D aC B cX8_indexAbove 3 RX8 1 27 (some .long) "indexAbove" vlJ (fX8_indexAbove a0 a1 h) 0 [(0, vR (some a0)), (1, vJ a1)] [] h := by
  unfold fX8_indexAbove
  refine sm_aload_n (i := 0) (j := 0) (pc' := 1) dX8_indexAbove_0 rfl rfl rfl ?_
  refine sm_getR (k := 5) (pc' := 4) kX8 (by decide) mw46 dX8_indexAbove_1 rfl (fun x1 => ?_)
  refine sm_ifnonnull (tgt := 21) (pc' := 7) dX8_indexAbove_4 (by decide) rfl ?_ ?_
  · refine sm_aload_n (i := 0) (j := 0) (pc' := 22) dX8_indexAbove_21 rfl rfl rfl ?_
    refine sm_getR (k := 5) (pc' := 25) kX8 (by decide) mw46 dX8_indexAbove_22 rfl (fun x2 => ?_)
    refine sm_lload_n (i := 1) (j := 1) (pc' := 26) dX8_indexAbove_25 rfl rfl rfl ?_
    refine sm_cVJ (pc' := 29) (ci := 7) (st := []) (F := fun b => fX7_indexAbove b a1 h) [vJ a1] yY_yX7_indexAbove rfl mw367 mw368 mw369 (fun b => mX7_indexAbove l D aC B b a1 h) rfl (by decide) (by decide) (by exact Nat.le_of_ble_eq_true rfl) rfl dX8_indexAbove_26 rfl (fun x3 h4 => ?_)
    exact sm_lret rfl dX8_indexAbove_29
  refine sm_lload_n (i := 1) (j := 1) (pc' := 8) dX8_indexAbove_7 rfl rfl rfl ?_
  refine sm_lconst (v := (0 : Int64)) (pc' := 9) dX8_indexAbove_8 rfl (by decide) ?_
  refine sm_lcmp (pc' := 10) dX8_indexAbove_9 rfl ?_
  refine sm_if_ge (tgt := 17) (pc' := 13) dX8_indexAbove_10 (by decide) rfl ?_ ?_
  · refine sm_ldc2 (v := (-1 : Int64)) (pc' := 20) dX8_indexAbove_17 rfl mw370 ?_
    exact sm_lret rfl dX8_indexAbove_20
  refine sm_lconst (v := (0 : Int64)) (pc' := 14) dX8_indexAbove_13 rfl (by decide) ?_
  refine sm_goto (pc' := 20) dX8_indexAbove_14 (by decide) ?_
  exact sm_lret rfl dX8_indexAbove_20
set_option maxRecDepth 100000 in
theorem mX8_indexAbove (l : Launch) (D : va_G) (aC : Nat → ClassId) (B : Nat) (a0 : Nat) (a1 : Int64) (h : sm_H) : sm_M l D vwCl gAts aC B gTs gNs gOs yX8_indexAbove cX8_indexAbove 3 (some .long) 1 27 vlJ [vR (some a0), vJ a1] h (fX8_indexAbove a0 a1 h) := sm_meth [vR (some a0), vJ a1] yY_yX8_indexAbove gG gN (Nat.le_of_ble_eq_true rfl) rfl (sX8_indexAbove_0 l D aC B a0 a1 h)
-- M:TreeAgent$Thing.passedBy(LTreeAgent$Chain;)J
noncomputable def fX8_passedBy  (a0 : Nat) (a1 : Option Nat) (h : sm_H) : Option (Int64 × sm_H) :=
  (sm_R (sm_get h (some a0) 8 0)).bind fun x1 =>
  (sm_obj h a1 0).bind fun b15 =>
  sm_cb (fX0_beginsWith b15 x1 h) fun x2 h3 =>
  if x2 = 0 then (
    (sm_R (sm_get h3 (some a0) 8 0)).bind fun x4 =>
    (sm_obj h3 a1 0).bind fun b7 =>
    sm_cb (fX0_isLess b7 x4 h3) fun x5 h6 =>
    if x5 = 0 then (
      some ((4294967295 : Int64), h6)
    ) else
    some ((-1 : Int64), h6)
  ) else
  (sm_R (sm_get h3 (some a0) 8 0)).bind fun x8 =>
  (sm_obj h3 x8 0).bind fun b14 =>
  sm_cb (fX0_size b14 h3) fun x9 h10 =>
  (sm_obj h10 a1 0).bind fun b13 =>
  sm_cb (fX0_at b13 x9 h10) fun x11 h12 =>
  some (x11, h12)
set_option maxRecDepth 100000 in
set_option maxHeartbeats 4000000 in
theorem sX8_passedBy_0 (l : Launch) (D : va_G) (aC : Nat → ClassId) (B : Nat)   (a0 : Nat) (a1 : Option Nat) (h : sm_H) : zS l D aC B cX8_passedBy 2 RX8 2 44 (some .long) "passedBy" vlJ (fX8_passedBy a0 a1 h) 0 [(0, vR (some a0)), (1, vR a1)] [] h := by
  unfold fX8_passedBy
  refine sm_aload_n (i := 1) (j := 1) (pc' := 1) dX8_passedBy_0 rfl rfl rfl ?_
  refine sm_aload_n (i := 0) (j := 0) (pc' := 2) dX8_passedBy_1 rfl rfl rfl ?_
  refine sm_getR (k := 0) (pc' := 5) kX8 (by decide) mw53 dX8_passedBy_2 rfl (fun x1 => ?_)
  refine sm_cVI (pc' := 8) (ci := 0) (st := []) (F := fun b => fX0_beginsWith b x1 h) [vR x1] yY_yX0_beginsWith rfl mw371 mw18 mw19 (fun b => mX0_beginsWith l D aC B b x1 h) rfl (by decide) (by decide) (by exact Nat.le_of_ble_eq_true rfl) rfl dX8_passedBy_5 rfl (fun x2 h3 => ?_)
  refine sm_if_eq (tgt := 23) (pc' := 11) dX8_passedBy_8 (by decide) rfl ?_ ?_
  · refine sm_aload_n (i := 1) (j := 1) (pc' := 24) dX8_passedBy_23 rfl rfl rfl ?_
    refine sm_aload_n (i := 0) (j := 0) (pc' := 25) dX8_passedBy_24 rfl rfl rfl ?_
    refine sm_getR (k := 0) (pc' := 28) kX8 (by decide) mw53 dX8_passedBy_25 rfl (fun x4 => ?_)
    refine sm_cVI (pc' := 31) (ci := 0) (st := []) (F := fun b => fX0_isLess b x4 h3) [vR x4] yY_yX0_isLess rfl mw372 mw374 mw375 (fun b => mX0_isLess l D aC B b x4 h3) rfl (by decide) (by decide) (by exact Nat.le_of_ble_eq_true rfl) rfl dX8_passedBy_28 rfl (fun x5 h6 => ?_)
    refine sm_if_eq (tgt := 40) (pc' := 34) dX8_passedBy_31 (by decide) rfl ?_ ?_
    · refine sm_ldc2 (v := (4294967295 : Int64)) (pc' := 43) dX8_passedBy_40 rfl mw373 ?_
      exact sm_lret rfl dX8_passedBy_43
    refine sm_ldc2 (v := (-1 : Int64)) (pc' := 37) dX8_passedBy_34 rfl mw370 ?_
    refine sm_goto (pc' := 43) dX8_passedBy_37 (by decide) ?_
    exact sm_lret rfl dX8_passedBy_43
  refine sm_aload_n (i := 1) (j := 1) (pc' := 12) dX8_passedBy_11 rfl rfl rfl ?_
  refine sm_aload_n (i := 0) (j := 0) (pc' := 13) dX8_passedBy_12 rfl rfl rfl ?_
  refine sm_getR (k := 0) (pc' := 16) kX8 (by decide) mw53 dX8_passedBy_13 rfl (fun x8 => ?_)
  refine sm_cVI (pc' := 19) (ci := 0) (st := [vR a1]) (F := fun b => fX0_size b h3) [] yY_yX0_size rfl mw43 mw32 mw33 (fun b => mX0_size l D aC B b h3) rfl (by decide) (by decide) (by exact Nat.le_of_ble_eq_true rfl) rfl dX8_passedBy_16 rfl (fun x9 h10 => ?_)
  refine sm_cVJ (pc' := 22) (ci := 0) (st := []) (F := fun b => fX0_at b x9 h10) [vI x9] yY_yX0_at rfl mw54 mw15 mw16 (fun b => mX0_at l D aC B b x9 h10) rfl (by decide) (by decide) (by exact Nat.le_of_ble_eq_true rfl) rfl dX8_passedBy_19 rfl (fun x11 h12 => ?_)
  exact sm_lret rfl dX8_passedBy_22
set_option maxRecDepth 100000 in
theorem mX8_passedBy (l : Launch) (D : va_G) (aC : Nat → ClassId) (B : Nat) (a0 : Nat) (a1 : Option Nat) (h : sm_H) : sm_M l D vwCl gAts aC B gTs gNs gOs yX8_passedBy cX8_passedBy 2 (some .long) 2 44 vlJ [vR (some a0), vR a1] h (fX8_passedBy a0 a1 h) := sm_meth [vR (some a0), vR a1] yY_yX8_passedBy gG gN (Nat.le_of_ble_eq_true rfl) rfl (sX8_passedBy_0 l D aC B a0 a1 h)
-- M:TreeAgent$Tree.<init>()V
noncomputable def fX9_init  (a0 : Nat) (h : sm_H) : Option (Unit × sm_H) :=
  if (40 : Int32) < 0 ∨ 1000000 < (40 : Int32) then none else
  sm_let (sm_nwa h 4 (40 : Int32).toNatClampNeg (.inr (.inr (.inr (.inr (fun _ => none)))))) fun h1 =>
  (sm_put h1 (some a0) 9 0 (sm_v (vR (some h.1)))).bind fun h2 =>
  if (40 : Int32) < 0 ∨ 1000000 < (40 : Int32) then none else
  sm_let (sm_nwa h2 4 (40 : Int32).toNatClampNeg (.inr (.inr (.inr (.inr (fun _ => none)))))) fun h3 =>
  (sm_put h3 (some a0) 9 1 (sm_v (vR (some h2.1)))).bind fun h4 =>
  if (4 : Int32) < 0 ∨ 1000000 < (4 : Int32) then none else
  sm_let (sm_nwa h4 5 (4 : Int32).toNatClampNeg (.inr (.inr (.inr (.inr (fun _ => none)))))) fun h5 =>
  (sm_put h5 (some a0) 9 2 (sm_v (vR (some h4.1)))).bind fun h6 =>
  some ((), h6)
set_option maxRecDepth 100000 in
set_option maxHeartbeats 4000000 in
theorem sX9_init_0 (l : Launch) (D : va_G) (aC : Nat → ClassId) (B : Nat)   (a0 : Nat) (h : sm_H) : zS l D aC B cX9_init 1 RX9 1 21 none "<init>" vlU (fX9_init a0 h) 0 [(0, vR (some a0))] [] h := by
  unfold fX9_init
  refine sm_aload_n (i := 0) (j := 0) (pc' := 1) dX9_init_0 rfl rfl rfl ?_
  refine sm_objI (pc' := 4) mw376 mw1 mw2 dX9_init_1 rfl (by decide) (Nat.le_of_ble_eq_true rfl) ?_
  refine sm_aload_n (i := 0) (j := 0) (pc' := 5) dX9_init_4 rfl rfl rfl ?_
  refine sm_bipush (v := (40 : Int32)) (pc' := 7) dX9_init_5 rfl (by decide) ?_
  refine sm_anewL (C0 := "TreeAgent$Thing") (t := 4) (pc' := 10) rfl mw377 (by decide) dX9_init_7 rfl (fun h1 => ?_)
  refine sm_putFR (k := 0) (pc' := 13) kX9 (by decide) mw34 rfl rfl rfl (Or.inr ⟨_, rfl⟩) dX9_init_10 rfl (fun h2 => ?_)
  refine sm_aload_n (i := 0) (j := 0) (pc' := 14) dX9_init_13 rfl rfl rfl ?_
  refine sm_bipush (v := (40 : Int32)) (pc' := 16) dX9_init_14 rfl (by decide) ?_
  refine sm_anewL (C0 := "TreeAgent$Thing") (t := 4) (pc' := 19) rfl mw377 (by decide) dX9_init_16 rfl (fun h3 => ?_)
  refine sm_putFR (k := 1) (pc' := 22) kX9 (by decide) mw378 rfl rfl rfl (Or.inr ⟨_, rfl⟩) dX9_init_19 rfl (fun h4 => ?_)
  refine sm_aload_n (i := 0) (j := 0) (pc' := 23) dX9_init_22 rfl rfl rfl ?_
  refine sm_iconst (v := (4 : Int32)) (pc' := 24) dX9_init_23 rfl (by decide) ?_
  refine sm_anewL (C0 := "TreeAgent$Table") (t := 5) (pc' := 27) rfl mw379 (by decide) dX9_init_24 rfl (fun h5 => ?_)
  refine sm_putFR (k := 2) (pc' := 30) kX9 (by decide) mw380 rfl rfl rfl (Or.inr ⟨_, rfl⟩) dX9_init_27 rfl (fun h6 => ?_)
  exact sm_vret rfl dX9_init_30
set_option maxRecDepth 100000 in
theorem mX9_init (l : Launch) (D : va_G) (aC : Nat → ClassId) (B : Nat) (a0 : Nat) (h : sm_H) : sm_M l D vwCl gAts aC B gTs gNs gOs yX9_init cX9_init 1 none 1 21 vlU [vR (some a0)] h (fX9_init a0 h) := sm_meth [vR (some a0)] yY_yX9_init gG gN (Nat.le_of_ble_eq_true rfl) rfl (sX9_init_0 l D aC B a0 h)
-- M:TreeAgent$Tree.thingCount()I
noncomputable def fX9_thingCount  (a0 : Nat) (h : sm_H) : Option (Int32 × sm_H) :=
  (sm_I (sm_get h (some a0) 9 3)).bind fun x1 =>
  some (x1, h)
set_option maxRecDepth 100000 in
set_option maxHeartbeats 4000000 in
theorem sX9_thingCount_0 (l : Launch) (D : va_G) (aC : Nat → ClassId) (B : Nat)   (a0 : Nat) (h : sm_H) : zS l D aC B cX9_thingCount 1 RX9 0 0 (some .int) "thingCount" vlI (fX9_thingCount a0 h) 0 [(0, vR (some a0))] [] h := by
  unfold fX9_thingCount
  refine sm_aload_n (i := 0) (j := 0) (pc' := 1) dX9_thingCount_0 rfl rfl rfl ?_
  refine sm_getI (k := 3) (pc' := 4) kX9 (by decide) mw35 dX9_thingCount_1 rfl (fun x1 => ?_)
  exact sm_iret rfl dX9_thingCount_4
set_option maxRecDepth 100000 in
theorem mX9_thingCount (l : Launch) (D : va_G) (aC : Nat → ClassId) (B : Nat) (a0 : Nat) (h : sm_H) : sm_M l D vwCl gAts aC B gTs gNs gOs yX9_thingCount cX9_thingCount 1 (some .int) 0 0 vlI [vR (some a0)] h (fX9_thingCount a0 h) := sm_meth [vR (some a0)] yY_yX9_thingCount gG gN (Nat.le_of_ble_eq_true rfl) rfl (sX9_thingCount_0 l D aC B a0 h)
-- M:TreeAgent$Tree.tableCount()I
noncomputable def fX9_tableCount  (a0 : Nat) (h : sm_H) : Option (Int32 × sm_H) :=
  (sm_I (sm_get h (some a0) 9 4)).bind fun x1 =>
  some (x1, h)
set_option maxRecDepth 100000 in
set_option maxHeartbeats 4000000 in
theorem sX9_tableCount_0 (l : Launch) (D : va_G) (aC : Nat → ClassId) (B : Nat)   (a0 : Nat) (h : sm_H) : zS l D aC B cX9_tableCount 1 RX9 0 0 (some .int) "tableCount" vlI (fX9_tableCount a0 h) 0 [(0, vR (some a0))] [] h := by
  unfold fX9_tableCount
  refine sm_aload_n (i := 0) (j := 0) (pc' := 1) dX9_tableCount_0 rfl rfl rfl ?_
  refine sm_getI (k := 4) (pc' := 4) kX9 (by decide) mw381 dX9_tableCount_1 rfl (fun x1 => ?_)
  exact sm_iret rfl dX9_tableCount_4
set_option maxRecDepth 100000 in
theorem mX9_tableCount (l : Launch) (D : va_G) (aC : Nat → ClassId) (B : Nat) (a0 : Nat) (h : sm_H) : sm_M l D vwCl gAts aC B gTs gNs gOs yX9_tableCount cX9_tableCount 1 (some .int) 0 0 vlI [vR (some a0)] h (fX9_tableCount a0 h) := sm_meth [vR (some a0)] yY_yX9_tableCount gG gN (Nat.le_of_ble_eq_true rfl) rfl (sX9_tableCount_0 l D aC B a0 h)
-- M:TreeAgent$Tree.thingInOrder(I)LTreeAgent$Thing;
noncomputable def fX9_thingInOrder  (a0 : Nat) (a1 : Int32) (h : sm_H) : Option (Option Nat × sm_H) :=
  if a1 < 0 then (
    some (none, h)
  ) else
  (sm_R (sm_get h (some a0) 9 1)).bind fun x1 =>
  (sm_len h x1 4).bind fun x2 =>
  if x2 ≤ a1 then (
    some (none, h)
  ) else
  (sm_R (sm_get h (some a0) 9 1)).bind fun x3 =>
  (sm_aR h x3 4 a1).bind fun x4 =>
  some (x4, h)
set_option maxRecDepth 100000 in
set_option maxHeartbeats 4000000 in
theorem sX9_thingInOrder_0 (l : Launch) (D : va_G) (aC : Nat → ClassId) (B : Nat)   (a0 : Nat) (a1 : Int32) (h : sm_H) : zS l D aC B cX9_thingInOrder 2 RX9 0 0 (some (.object "TreeAgent$Thing")) "thingInOrder" vlR (fX9_thingInOrder a0 a1 h) 0 [(0, vR (some a0)), (1, vI a1)] [] h := by
  unfold fX9_thingInOrder
  refine sm_iload_n (i := 1) (j := 1) (pc' := 1) dX9_thingInOrder_0 rfl rfl rfl ?_
  refine sm_if_lt (tgt := 22) (pc' := 4) dX9_thingInOrder_1 (by decide) rfl ?_ ?_
  · refine sm_null (pc' := 23) dX9_thingInOrder_22 rfl ?_
    exact sm_aret rfl dX9_thingInOrder_23
  refine sm_iload_n (i := 1) (j := 1) (pc' := 5) dX9_thingInOrder_4 rfl rfl rfl ?_
  refine sm_aload_n (i := 0) (j := 0) (pc' := 6) dX9_thingInOrder_5 rfl rfl rfl ?_
  refine sm_getR (k := 1) (pc' := 9) kX9 (by decide) mw378 dX9_thingInOrder_6 rfl (fun x1 => ?_)
  refine sm_alen (t := 4) (pc' := 10) rfl dX9_thingInOrder_9 rfl (fun x2 => ?_)
  refine sm_icmp_ge (tgt := 22) (pc' := 13) dX9_thingInOrder_10 (by decide) rfl ?_ ?_
  · refine sm_null (pc' := 23) dX9_thingInOrder_22 rfl ?_
    exact sm_aret rfl dX9_thingInOrder_23
  refine sm_aload_n (i := 0) (j := 0) (pc' := 14) dX9_thingInOrder_13 rfl rfl rfl ?_
  refine sm_getR (k := 1) (pc' := 17) kX9 (by decide) mw378 dX9_thingInOrder_14 rfl (fun x3 => ?_)
  refine sm_iload_n (i := 1) (j := 1) (pc' := 18) dX9_thingInOrder_17 rfl rfl rfl ?_
  refine sm_aald (t := 4) (pc' := 19) rfl dX9_thingInOrder_18 rfl (fun x4 => ?_)
  refine sm_goto (pc' := 23) dX9_thingInOrder_19 (by decide) ?_
  exact sm_aret rfl dX9_thingInOrder_23
set_option maxRecDepth 100000 in
theorem mX9_thingInOrder (l : Launch) (D : va_G) (aC : Nat → ClassId) (B : Nat) (a0 : Nat) (a1 : Int32) (h : sm_H) : sm_M l D vwCl gAts aC B gTs gNs gOs yX9_thingInOrder cX9_thingInOrder 2 (some (.object "TreeAgent$Thing")) 0 0 vlR [vR (some a0), vI a1] h (fX9_thingInOrder a0 a1 h) := sm_meth [vR (some a0), vI a1] yY_yX9_thingInOrder gG gN (Nat.le_of_ble_eq_true rfl) rfl (sX9_thingInOrder_0 l D aC B a0 a1 h)
-- M:TreeAgent$Tree.tableAt(I)LTreeAgent$Table;
noncomputable def fX9_tableAt  (a0 : Nat) (a1 : Int32) (h : sm_H) : Option (Option Nat × sm_H) :=
  if a1 < 0 then (
    some (none, h)
  ) else
  (sm_R (sm_get h (some a0) 9 2)).bind fun x1 =>
  (sm_len h x1 5).bind fun x2 =>
  if x2 ≤ a1 then (
    some (none, h)
  ) else
  (sm_R (sm_get h (some a0) 9 2)).bind fun x3 =>
  (sm_aR h x3 5 a1).bind fun x4 =>
  some (x4, h)
set_option maxRecDepth 100000 in
set_option maxHeartbeats 4000000 in
theorem sX9_tableAt_0 (l : Launch) (D : va_G) (aC : Nat → ClassId) (B : Nat)   (a0 : Nat) (a1 : Int32) (h : sm_H) : zS l D aC B cX9_tableAt 2 RX9 0 0 (some (.object "TreeAgent$Table")) "tableAt" vlR (fX9_tableAt a0 a1 h) 0 [(0, vR (some a0)), (1, vI a1)] [] h := by
  unfold fX9_tableAt
  refine sm_iload_n (i := 1) (j := 1) (pc' := 1) dX9_tableAt_0 rfl rfl rfl ?_
  refine sm_if_lt (tgt := 22) (pc' := 4) dX9_tableAt_1 (by decide) rfl ?_ ?_
  · refine sm_null (pc' := 23) dX9_tableAt_22 rfl ?_
    exact sm_aret rfl dX9_tableAt_23
  refine sm_iload_n (i := 1) (j := 1) (pc' := 5) dX9_tableAt_4 rfl rfl rfl ?_
  refine sm_aload_n (i := 0) (j := 0) (pc' := 6) dX9_tableAt_5 rfl rfl rfl ?_
  refine sm_getR (k := 2) (pc' := 9) kX9 (by decide) mw380 dX9_tableAt_6 rfl (fun x1 => ?_)
  refine sm_alen (t := 5) (pc' := 10) rfl dX9_tableAt_9 rfl (fun x2 => ?_)
  refine sm_icmp_ge (tgt := 22) (pc' := 13) dX9_tableAt_10 (by decide) rfl ?_ ?_
  · refine sm_null (pc' := 23) dX9_tableAt_22 rfl ?_
    exact sm_aret rfl dX9_tableAt_23
  refine sm_aload_n (i := 0) (j := 0) (pc' := 14) dX9_tableAt_13 rfl rfl rfl ?_
  refine sm_getR (k := 2) (pc' := 17) kX9 (by decide) mw380 dX9_tableAt_14 rfl (fun x3 => ?_)
  refine sm_iload_n (i := 1) (j := 1) (pc' := 18) dX9_tableAt_17 rfl rfl rfl ?_
  refine sm_aald (t := 5) (pc' := 19) rfl dX9_tableAt_18 rfl (fun x4 => ?_)
  refine sm_goto (pc' := 23) dX9_tableAt_19 (by decide) ?_
  exact sm_aret rfl dX9_tableAt_23
set_option maxRecDepth 100000 in
theorem mX9_tableAt (l : Launch) (D : va_G) (aC : Nat → ClassId) (B : Nat) (a0 : Nat) (a1 : Int32) (h : sm_H) : sm_M l D vwCl gAts aC B gTs gNs gOs yX9_tableAt cX9_tableAt 2 (some (.object "TreeAgent$Table")) 0 0 vlR [vR (some a0), vI a1] h (fX9_tableAt a0 a1 h) := sm_meth [vR (some a0), vI a1] yY_yX9_tableAt gG gN (Nat.le_of_ble_eq_true rfl) rfl (sX9_tableAt_0 l D aC B a0 a1 h)
-- M:TreeAgent$Tree.isTaken(LTreeAgent$Chain;)Z
noncomputable def fX9_isTaken_52  : Nat → Nat → Option Nat → Int32 → sm_H → Option (Int32 × sm_H)
  | 0 => fun _ _ _ _ => none
  | n + 1 => fun a0 a1 a2 h =>
    (sm_I (sm_get h (some a0) 9 4)).bind fun x1 =>
    if x1 ≤ a2 then (
      some ((0 : Int32), h)
    ) else
    (sm_obj h (some a0) 9).bind fun b14 =>
    sm_cb (fX9_tableAt b14 a2 h) fun x2 h3 =>
    if x2 = none then (
      sm_let (a2 + (1 : Int32)) fun x4 =>
      (fX9_isTaken_52 n) a0 a1 x4 h3
    ) else
    (sm_R (sm_get h3 x2 7 0)).bind fun x5 =>
    (sm_obj h3 a1 0).bind fun b13 =>
    sm_cb (fX0_beginsWith b13 x5 h3) fun x6 h7 =>
    if x6 = 0 then (
      (sm_R (sm_get h7 x2 7 0)).bind fun x8 =>
      (sm_obj h7 x8 0).bind fun b12 =>
      sm_cb (fX0_beginsWith b12 a1 h7) fun x9 h10 =>
      if x9 = 0 then (
        sm_let (a2 + (1 : Int32)) fun x11 =>
        (fX9_isTaken_52 n) a0 a1 x11 h10
      ) else
      some ((1 : Int32), h10)
    ) else
    some ((1 : Int32), h7)
set_option maxRecDepth 100000 in
set_option maxHeartbeats 4000000 in
theorem sX9_isTaken_52 (l : Launch) (D : va_G) (aC : Nat → ClassId) (B : Nat)   (n : Nat) : ∀ (a0 : Nat) (a1 : Option Nat) (a2 : Int32) (h : sm_H), zS l D aC B cX9_isTaken 4 RX9 2 43 (some .boolean) "isTaken" vlI (fX9_isTaken_52 n a0 a1 a2 h) 52 [(0, vR (some a0)), (1, vR a1), (2, vI a2)] [] h := by
  induction n with
  | zero => intro a0 a1 a2 h; exact sm_none
  | succ n ih =>
    intro a0 a1 a2 h
    show zS l D aC B cX9_isTaken 4 RX9 2 43 (some .boolean) "isTaken" vlI (fX9_isTaken_52 (n + 1) a0 a1 a2 h) 52 [(0, vR (some a0)), (1, vR a1), (2, vI a2)] [] h
    unfold fX9_isTaken_52
    refine sm_iload_n (i := 2) (j := 2) (pc' := 53) dX9_isTaken_52 rfl rfl rfl ?_
    refine sm_aload_n (i := 0) (j := 0) (pc' := 54) dX9_isTaken_53 rfl rfl rfl ?_
    refine sm_getI (k := 4) (pc' := 57) kX9 (by decide) mw381 dX9_isTaken_54 rfl (fun x1 => ?_)
    refine sm_icmp_ge (tgt := 100) (pc' := 60) dX9_isTaken_57 (by decide) rfl ?_ ?_
    · refine sm_iconst (v := (0 : Int32)) (pc' := 101) dX9_isTaken_100 rfl (by decide) ?_
      exact sm_zret0 rfl dX9_isTaken_101
    refine sm_aload_n (i := 0) (j := 0) (pc' := 61) dX9_isTaken_60 rfl rfl rfl ?_
    refine sm_iload_n (i := 2) (j := 2) (pc' := 62) dX9_isTaken_61 rfl rfl rfl ?_
    refine sm_cVR (pc' := 65) (ci := 9) (st := []) (F := fun b => fX9_tableAt b a2 h) [vI a2] yY_yX9_tableAt rfl mw382 mw384 mw385 (fun b => mX9_tableAt l D aC B b a2 h) rfl (by decide) (by decide) (by exact Nat.le_of_ble_eq_true rfl) rfl dX9_isTaken_62 rfl (fun x2 h3 => ?_)
    refine sm_astore_n (i := 3) (lv' := [(3, vR x2), (0, vR (some a0)), (1, vR a1), (2, vI a2)]) (pc' := 66) dX9_isTaken_65 rfl rfl (by decide) rfl ?_
    refine sm_aload_n (i := 3) (j := 0) (pc' := 67) dX9_isTaken_66 rfl rfl rfl ?_
    refine sm_ifnull (tgt := 94) (pc' := 70) dX9_isTaken_67 (by decide) rfl ?_ ?_
    · refine sm_iincL (i := 2) (j := 3) (x := a2) (d := (1 : Int32)) (fun x4 => [(2, vI x4), (3, vR x2), (0, vR (some a0)), (1, vR a1)]) (pc' := 97) dX9_isTaken_94 rfl rfl (by decide) (by decide) (fun _ => rfl) (fun x4 => ?_)
      refine sm_goto (pc' := 52) dX9_isTaken_97 (by decide) ?_
      refine sm_lo (lv' := [(0, vR (some a0)), (1, vR a1), (2, vI x4)]) [2, 3, 0] rfl ?_
      exact ih a0 a1 x4 h3
    refine sm_aload_n (i := 1) (j := 2) (pc' := 71) dX9_isTaken_70 rfl rfl rfl ?_
    refine sm_aload_n (i := 3) (j := 0) (pc' := 72) dX9_isTaken_71 rfl rfl rfl ?_
    refine sm_getRN (k := 0) (pc' := 75) kX7 (by decide) mw383 dX9_isTaken_72 rfl (fun x5 => ?_)
    refine sm_cVI (pc' := 78) (ci := 0) (st := []) (F := fun b => fX0_beginsWith b x5 h3) [vR x5] yY_yX0_beginsWith rfl mw38 mw18 mw19 (fun b => mX0_beginsWith l D aC B b x5 h3) rfl (by decide) (by decide) (by exact Nat.le_of_ble_eq_true rfl) rfl dX9_isTaken_75 rfl (fun x6 h7 => ?_)
    refine sm_if_ne (tgt := 92) (pc' := 81) dX9_isTaken_78 (by decide) rfl ?_ ?_
    · refine sm_iconst (v := (1 : Int32)) (pc' := 93) dX9_isTaken_92 rfl (by decide) ?_
      exact sm_zret1 rfl dX9_isTaken_93
    refine sm_aload_n (i := 3) (j := 0) (pc' := 82) dX9_isTaken_81 rfl rfl rfl ?_
    refine sm_getRN (k := 0) (pc' := 85) kX7 (by decide) mw383 dX9_isTaken_82 rfl (fun x8 => ?_)
    refine sm_aload_n (i := 1) (j := 2) (pc' := 86) dX9_isTaken_85 rfl rfl rfl ?_
    refine sm_cVI (pc' := 89) (ci := 0) (st := []) (F := fun b => fX0_beginsWith b a1 h7) [vR a1] yY_yX0_beginsWith rfl mw38 mw18 mw19 (fun b => mX0_beginsWith l D aC B b a1 h7) rfl (by decide) (by decide) (by exact Nat.le_of_ble_eq_true rfl) rfl dX9_isTaken_86 rfl (fun x9 h10 => ?_)
    refine sm_if_eq (tgt := 94) (pc' := 92) dX9_isTaken_89 (by decide) rfl ?_ ?_
    · refine sm_iincL (i := 2) (j := 3) (x := a2) (d := (1 : Int32)) (fun x11 => [(2, vI x11), (3, vR x2), (0, vR (some a0)), (1, vR a1)]) (pc' := 97) dX9_isTaken_94 rfl rfl (by decide) (by decide) (fun _ => rfl) (fun x11 => ?_)
      refine sm_goto (pc' := 52) dX9_isTaken_97 (by decide) ?_
      refine sm_lo (lv' := [(0, vR (some a0)), (1, vR a1), (2, vI x11)]) [2, 3, 0] rfl ?_
      exact ih a0 a1 x11 h10
    refine sm_iconst (v := (1 : Int32)) (pc' := 93) dX9_isTaken_92 rfl (by decide) ?_
    exact sm_zret1 rfl dX9_isTaken_93
noncomputable def fX9_isTaken_2  : Nat → Nat → Option Nat → Int32 → sm_H → Option (Int32 × sm_H)
  | 0 => fun _ _ _ _ => none
  | n + 1 => fun a0 a1 a2 h =>
    (sm_I (sm_get h (some a0) 9 3)).bind fun x1 =>
    if x1 ≤ a2 then (
      fX9_isTaken_52 sm_fuel a0 a1 (0 : Int32) h
    ) else
    (sm_obj h (some a0) 9).bind fun b14 =>
    sm_cb (fX9_thingAt b14 a2 h) fun x2 h3 =>
    if x2 = none then (
      sm_let (a2 + (1 : Int32)) fun x4 =>
      (fX9_isTaken_2 n) a0 a1 x4 h3
    ) else
    (sm_R (sm_get h3 x2 8 0)).bind fun x5 =>
    (sm_obj h3 a1 0).bind fun b13 =>
    sm_cb (fX0_beginsWith b13 x5 h3) fun x6 h7 =>
    if x6 = 0 then (
      (sm_R (sm_get h7 x2 8 0)).bind fun x8 =>
      (sm_obj h7 x8 0).bind fun b12 =>
      sm_cb (fX0_beginsWith b12 a1 h7) fun x9 h10 =>
      if x9 = 0 then (
        sm_let (a2 + (1 : Int32)) fun x11 =>
        (fX9_isTaken_2 n) a0 a1 x11 h10
      ) else
      some ((1 : Int32), h10)
    ) else
    some ((1 : Int32), h7)
set_option maxRecDepth 100000 in
set_option maxHeartbeats 4000000 in
theorem sX9_isTaken_2 (l : Launch) (D : va_G) (aC : Nat → ClassId) (B : Nat)   (n : Nat) : ∀ (a0 : Nat) (a1 : Option Nat) (a2 : Int32) (h : sm_H), zS l D aC B cX9_isTaken 4 RX9 2 43 (some .boolean) "isTaken" vlI (fX9_isTaken_2 n a0 a1 a2 h) 2 [(0, vR (some a0)), (1, vR a1), (2, vI a2)] [] h := by
  induction n with
  | zero => intro a0 a1 a2 h; exact sm_none
  | succ n ih =>
    intro a0 a1 a2 h
    show zS l D aC B cX9_isTaken 4 RX9 2 43 (some .boolean) "isTaken" vlI (fX9_isTaken_2 (n + 1) a0 a1 a2 h) 2 [(0, vR (some a0)), (1, vR a1), (2, vI a2)] [] h
    unfold fX9_isTaken_2
    refine sm_iload_n (i := 2) (j := 2) (pc' := 3) dX9_isTaken_2 rfl rfl rfl ?_
    refine sm_aload_n (i := 0) (j := 0) (pc' := 4) dX9_isTaken_3 rfl rfl rfl ?_
    refine sm_getI (k := 3) (pc' := 7) kX9 (by decide) mw35 dX9_isTaken_4 rfl (fun x1 => ?_)
    refine sm_icmp_ge (tgt := 50) (pc' := 10) dX9_isTaken_7 (by decide) rfl ?_ ?_
    · refine sm_iconst (v := (0 : Int32)) (pc' := 51) dX9_isTaken_50 rfl (by decide) ?_
      refine sm_istore_n (i := 2) (lv' := [(2, vI (0 : Int32)), (0, vR (some a0)), (1, vR a1)]) (pc' := 52) dX9_isTaken_51 rfl rfl (by decide) rfl ?_
      refine sm_lo (lv' := [(0, vR (some a0)), (1, vR a1), (2, vI (0 : Int32))]) [1, 2, 0] rfl ?_
      exact sX9_isTaken_52 l D aC B   sm_fuel a0 a1 (0 : Int32) h
    refine sm_aload_n (i := 0) (j := 0) (pc' := 11) dX9_isTaken_10 rfl rfl rfl ?_
    refine sm_iload_n (i := 2) (j := 2) (pc' := 12) dX9_isTaken_11 rfl rfl rfl ?_
    refine sm_cVR (pc' := 15) (ci := 9) (st := []) (F := fun b => fX9_thingAt b a2 h) [vI a2] yY_yX9_thingAt rfl mw36 mw39 mw40 (fun b => mX9_thingAt l D aC B b a2 h) rfl (by decide) (by decide) (by exact Nat.le_of_ble_eq_true rfl) rfl dX9_isTaken_12 rfl (fun x2 h3 => ?_)
    refine sm_astore_n (i := 3) (lv' := [(3, vR x2), (0, vR (some a0)), (1, vR a1), (2, vI a2)]) (pc' := 16) dX9_isTaken_15 rfl rfl (by decide) rfl ?_
    refine sm_aload_n (i := 3) (j := 0) (pc' := 17) dX9_isTaken_16 rfl rfl rfl ?_
    refine sm_ifnull (tgt := 44) (pc' := 20) dX9_isTaken_17 (by decide) rfl ?_ ?_
    · refine sm_iincL (i := 2) (j := 3) (x := a2) (d := (1 : Int32)) (fun x4 => [(2, vI x4), (3, vR x2), (0, vR (some a0)), (1, vR a1)]) (pc' := 47) dX9_isTaken_44 rfl rfl (by decide) (by decide) (fun _ => rfl) (fun x4 => ?_)
      refine sm_goto (pc' := 2) dX9_isTaken_47 (by decide) ?_
      refine sm_lo (lv' := [(0, vR (some a0)), (1, vR a1), (2, vI x4)]) [2, 3, 0] rfl ?_
      exact ih a0 a1 x4 h3
    refine sm_aload_n (i := 1) (j := 2) (pc' := 21) dX9_isTaken_20 rfl rfl rfl ?_
    refine sm_aload_n (i := 3) (j := 0) (pc' := 22) dX9_isTaken_21 rfl rfl rfl ?_
    refine sm_getRN (k := 0) (pc' := 25) kX8 (by decide) mw37 dX9_isTaken_22 rfl (fun x5 => ?_)
    refine sm_cVI (pc' := 28) (ci := 0) (st := []) (F := fun b => fX0_beginsWith b x5 h3) [vR x5] yY_yX0_beginsWith rfl mw38 mw18 mw19 (fun b => mX0_beginsWith l D aC B b x5 h3) rfl (by decide) (by decide) (by exact Nat.le_of_ble_eq_true rfl) rfl dX9_isTaken_25 rfl (fun x6 h7 => ?_)
    refine sm_if_ne (tgt := 42) (pc' := 31) dX9_isTaken_28 (by decide) rfl ?_ ?_
    · refine sm_iconst (v := (1 : Int32)) (pc' := 43) dX9_isTaken_42 rfl (by decide) ?_
      exact sm_zret1 rfl dX9_isTaken_43
    refine sm_aload_n (i := 3) (j := 0) (pc' := 32) dX9_isTaken_31 rfl rfl rfl ?_
    refine sm_getRN (k := 0) (pc' := 35) kX8 (by decide) mw37 dX9_isTaken_32 rfl (fun x8 => ?_)
    refine sm_aload_n (i := 1) (j := 2) (pc' := 36) dX9_isTaken_35 rfl rfl rfl ?_
    refine sm_cVI (pc' := 39) (ci := 0) (st := []) (F := fun b => fX0_beginsWith b a1 h7) [vR a1] yY_yX0_beginsWith rfl mw38 mw18 mw19 (fun b => mX0_beginsWith l D aC B b a1 h7) rfl (by decide) (by decide) (by exact Nat.le_of_ble_eq_true rfl) rfl dX9_isTaken_36 rfl (fun x9 h10 => ?_)
    refine sm_if_eq (tgt := 44) (pc' := 42) dX9_isTaken_39 (by decide) rfl ?_ ?_
    · refine sm_iincL (i := 2) (j := 3) (x := a2) (d := (1 : Int32)) (fun x11 => [(2, vI x11), (3, vR x2), (0, vR (some a0)), (1, vR a1)]) (pc' := 47) dX9_isTaken_44 rfl rfl (by decide) (by decide) (fun _ => rfl) (fun x11 => ?_)
      refine sm_goto (pc' := 2) dX9_isTaken_47 (by decide) ?_
      refine sm_lo (lv' := [(0, vR (some a0)), (1, vR a1), (2, vI x11)]) [2, 3, 0] rfl ?_
      exact ih a0 a1 x11 h10
    refine sm_iconst (v := (1 : Int32)) (pc' := 43) dX9_isTaken_42 rfl (by decide) ?_
    exact sm_zret1 rfl dX9_isTaken_43
noncomputable def fX9_isTaken  (a0 : Nat) (a1 : Option Nat) (h : sm_H) : Option (Int32 × sm_H) :=
  fX9_isTaken_2 sm_fuel a0 a1 (0 : Int32) h
set_option maxRecDepth 100000 in
set_option maxHeartbeats 4000000 in
theorem sX9_isTaken_0 (l : Launch) (D : va_G) (aC : Nat → ClassId) (B : Nat)   (a0 : Nat) (a1 : Option Nat) (h : sm_H) : zS l D aC B cX9_isTaken 4 RX9 2 43 (some .boolean) "isTaken" vlI (fX9_isTaken a0 a1 h) 0 [(0, vR (some a0)), (1, vR a1)] [] h := by
  unfold fX9_isTaken
  refine sm_iconst (v := (0 : Int32)) (pc' := 1) dX9_isTaken_0 rfl (by decide) ?_
  refine sm_istore_n (i := 2) (lv' := [(2, vI (0 : Int32)), (0, vR (some a0)), (1, vR a1)]) (pc' := 2) dX9_isTaken_1 rfl rfl (by decide) rfl ?_
  refine sm_lo (lv' := [(0, vR (some a0)), (1, vR a1), (2, vI (0 : Int32))]) [1, 2, 0] rfl ?_
  exact sX9_isTaken_2 l D aC B   sm_fuel a0 a1 (0 : Int32) h
set_option maxRecDepth 100000 in
theorem mX9_isTaken (l : Launch) (D : va_G) (aC : Nat → ClassId) (B : Nat) (a0 : Nat) (a1 : Option Nat) (h : sm_H) : sm_M l D vwCl gAts aC B gTs gNs gOs yX9_isTaken cX9_isTaken 4 (some .boolean) 2 43 vlI [vR (some a0), vR a1] h (fX9_isTaken a0 a1 h) := sm_meth [vR (some a0), vR a1] yY_yX9_isTaken gG gN (Nat.le_of_ble_eq_true rfl) rfl (sX9_isTaken_0 l D aC B a0 a1 h)
-- M:TreeAgent$Tree.putInOrder(LTreeAgent$Thing;)V
noncomputable def fX9_putInOrder_49 (K4 : Nat → Option Nat → Int32 → sm_H → Option (Unit × sm_H)) (a0 : Nat) (a2 : Option Nat) (a3 : Int32) (a4 : Option Nat) (h : sm_H) : Option (Unit × sm_H) :=
  (sm_R (sm_get h (some a0) 9 1)).bind fun x1 =>
  (sm_sR h x1 4 8 a3 a2).bind fun h2 =>
  if a4 = none then (
    some ((), h2)
  ) else
  sm_let (a3 + (1 : Int32)) fun x3 =>
  K4 a0 a4 x3 h2
set_option maxRecDepth 100000 in
set_option maxHeartbeats 4000000 in
theorem sX9_putInOrder_49 (l : Launch) (D : va_G) (aC : Nat → ClassId) (B : Nat) (K4 : Nat → Option Nat → Int32 → sm_H → Option (Unit × sm_H)) (hK4 : ∀ (a0 : Nat) (a2 : Option Nat) (a3 : Int32) (h : sm_H), zS l D aC B cX9_putInOrder 5 RX9 2 44 none "putInOrder" vlU (K4 a0 a2 a3 h) 4 [(0, vR (some a0)), (2, vR a2), (3, vI a3)] [] h) (a0 : Nat) (a2 : Option Nat) (a3 : Int32) (a4 : Option Nat) (h : sm_H) : zS l D aC B cX9_putInOrder 5 RX9 2 44 none "putInOrder" vlU (fX9_putInOrder_49 K4 a0 a2 a3 a4 h) 49 [(0, vR (some a0)), (2, vR a2), (3, vI a3), (4, vR a4)] [] h := by
  unfold fX9_putInOrder_49
  refine sm_aload_n (i := 0) (j := 0) (pc' := 50) dX9_putInOrder_49 rfl rfl rfl ?_
  refine sm_getR (k := 1) (pc' := 53) kX9 (by decide) mw378 dX9_putInOrder_50 rfl (fun x1 => ?_)
  refine sm_iload_n (i := 3) (j := 2) (pc' := 54) dX9_putInOrder_53 rfl rfl rfl ?_
  refine sm_aload_n (i := 2) (j := 1) (pc' := 55) dX9_putInOrder_54 rfl rfl rfl ?_
  refine sm_aast (t := 4) (ci := 8) (pc' := 56) rfl rfl dX9_putInOrder_55 rfl (fun h2 => ?_)
  refine sm_aload (i := 4) (j := 3) (pc' := 58) dX9_putInOrder_56 rfl rfl ?_
  refine sm_astore_n (i := 2) (lv' := [(2, vR a4), (0, vR (some a0)), (3, vI a3), (4, vR a4)]) (pc' := 59) dX9_putInOrder_58 rfl rfl (by decide) rfl ?_
  refine sm_aload_n (i := 2) (j := 0) (pc' := 60) dX9_putInOrder_59 rfl rfl rfl ?_
  refine sm_ifnonnull (tgt := 64) (pc' := 63) dX9_putInOrder_60 (by decide) rfl ?_ ?_
  · refine sm_iincL (i := 3) (j := 2) (x := a3) (d := (1 : Int32)) (fun x3 => [(3, vI x3), (2, vR a4), (0, vR (some a0)), (4, vR a4)]) (pc' := 67) dX9_putInOrder_64 rfl rfl (by decide) (by decide) (fun _ => rfl) (fun x3 => ?_)
    refine sm_goto (pc' := 4) dX9_putInOrder_67 (by decide) ?_
    refine sm_lo (lv' := [(0, vR (some a0)), (2, vR a4), (3, vI x3)]) [2, 1, 0] rfl ?_
    exact hK4 a0 a4 x3 h2
  exact sm_vret rfl dX9_putInOrder_63
noncomputable def fX9_putInOrder_4  : Nat → Nat → Option Nat → Int32 → sm_H → Option (Unit × sm_H)
  | 0 => fun _ _ _ _ => none
  | n + 1 => fun a0 a2 a3 h =>
    (sm_I (sm_get h (some a0) 9 3)).bind fun x1 =>
    if x1 ≤ a3 then (
      some ((), h)
    ) else
    (sm_R (sm_get h (some a0) 9 1)).bind fun x2 =>
    (sm_len h x2 4).bind fun x3 =>
    if x3 ≤ a3 then (
      some ((), h)
    ) else
    (sm_R (sm_get h (some a0) 9 1)).bind fun x4 =>
    (sm_aR h x4 4 a3).bind fun x5 =>
    if x5 = none then (
      fX9_putInOrder_49 (fX9_putInOrder_4 n) a0 a2 a3 x5 h
    ) else
    (sm_R (sm_get h a2 8 0)).bind fun x6 =>
    (sm_R (sm_get h x5 8 0)).bind fun x7 =>
    (sm_obj h x6 0).bind fun b11 =>
    sm_cb (fX0_isLess b11 x7 h) fun x8 h9 =>
    if x8 = 0 then (
      if a2 = none then (
        some ((), h9)
      ) else
      sm_let (a3 + (1 : Int32)) fun x10 =>
      (fX9_putInOrder_4 n) a0 a2 x10 h9
    ) else
    fX9_putInOrder_49 (fX9_putInOrder_4 n) a0 a2 a3 x5 h9
set_option maxRecDepth 100000 in
set_option maxHeartbeats 4000000 in
theorem sX9_putInOrder_4 (l : Launch) (D : va_G) (aC : Nat → ClassId) (B : Nat)   (n : Nat) : ∀ (a0 : Nat) (a2 : Option Nat) (a3 : Int32) (h : sm_H), zS l D aC B cX9_putInOrder 5 RX9 2 44 none "putInOrder" vlU (fX9_putInOrder_4 n a0 a2 a3 h) 4 [(0, vR (some a0)), (2, vR a2), (3, vI a3)] [] h := by
  induction n with
  | zero => intro a0 a2 a3 h; exact sm_none
  | succ n ih =>
    intro a0 a2 a3 h
    show zS l D aC B cX9_putInOrder 5 RX9 2 44 none "putInOrder" vlU (fX9_putInOrder_4 (n + 1) a0 a2 a3 h) 4 [(0, vR (some a0)), (2, vR a2), (3, vI a3)] [] h
    unfold fX9_putInOrder_4
    refine sm_iload_n (i := 3) (j := 2) (pc' := 5) dX9_putInOrder_4 rfl rfl rfl ?_
    refine sm_aload_n (i := 0) (j := 0) (pc' := 6) dX9_putInOrder_5 rfl rfl rfl ?_
    refine sm_getI (k := 3) (pc' := 9) kX9 (by decide) mw35 dX9_putInOrder_6 rfl (fun x1 => ?_)
    refine sm_icmp_ge (tgt := 70) (pc' := 12) dX9_putInOrder_9 (by decide) rfl ?_ ?_
    · exact sm_vret rfl dX9_putInOrder_70
    refine sm_iload_n (i := 3) (j := 2) (pc' := 13) dX9_putInOrder_12 rfl rfl rfl ?_
    refine sm_aload_n (i := 0) (j := 0) (pc' := 14) dX9_putInOrder_13 rfl rfl rfl ?_
    refine sm_getR (k := 1) (pc' := 17) kX9 (by decide) mw378 dX9_putInOrder_14 rfl (fun x2 => ?_)
    refine sm_alen (t := 4) (pc' := 18) rfl dX9_putInOrder_17 rfl (fun x3 => ?_)
    refine sm_icmp_ge (tgt := 70) (pc' := 21) dX9_putInOrder_18 (by decide) rfl ?_ ?_
    · exact sm_vret rfl dX9_putInOrder_70
    refine sm_aload_n (i := 0) (j := 0) (pc' := 22) dX9_putInOrder_21 rfl rfl rfl ?_
    refine sm_getR (k := 1) (pc' := 25) kX9 (by decide) mw378 dX9_putInOrder_22 rfl (fun x4 => ?_)
    refine sm_iload_n (i := 3) (j := 2) (pc' := 26) dX9_putInOrder_25 rfl rfl rfl ?_
    refine sm_aald (t := 4) (pc' := 27) rfl dX9_putInOrder_26 rfl (fun x5 => ?_)
    refine sm_astore (i := 4) (lv' := [(4, vR x5), (0, vR (some a0)), (2, vR a2), (3, vI a3)]) (pc' := 29) dX9_putInOrder_27 rfl (by decide) rfl ?_
    refine sm_aload (i := 4) (j := 0) (pc' := 31) dX9_putInOrder_29 rfl rfl ?_
    refine sm_ifnull (tgt := 49) (pc' := 34) dX9_putInOrder_31 (by decide) rfl ?_ ?_
    · refine sm_lo (lv' := [(0, vR (some a0)), (2, vR a2), (3, vI a3), (4, vR x5)]) [1, 2, 3, 0] rfl ?_
      exact sX9_putInOrder_49 l D aC B  (fX9_putInOrder_4 n) ih a0 a2 a3 x5 h
    refine sm_aload_n (i := 2) (j := 2) (pc' := 35) dX9_putInOrder_34 rfl rfl rfl ?_
    refine sm_getRN (k := 0) (pc' := 38) kX8 (by decide) mw37 dX9_putInOrder_35 rfl (fun x6 => ?_)
    refine sm_aload (i := 4) (j := 0) (pc' := 40) dX9_putInOrder_38 rfl rfl ?_
    refine sm_getRN (k := 0) (pc' := 43) kX8 (by decide) mw37 dX9_putInOrder_40 rfl (fun x7 => ?_)
    refine sm_cVI (pc' := 46) (ci := 0) (st := []) (F := fun b => fX0_isLess b x7 h) [vR x7] yY_yX0_isLess rfl mw386 mw374 mw375 (fun b => mX0_isLess l D aC B b x7 h) rfl (by decide) (by decide) (by exact Nat.le_of_ble_eq_true rfl) rfl dX9_putInOrder_43 rfl (fun x8 h9 => ?_)
    refine sm_if_eq (tgt := 59) (pc' := 49) dX9_putInOrder_46 (by decide) rfl ?_ ?_
    · refine sm_aload_n (i := 2) (j := 2) (pc' := 60) dX9_putInOrder_59 rfl rfl rfl ?_
      refine sm_ifnonnull (tgt := 64) (pc' := 63) dX9_putInOrder_60 (by decide) rfl ?_ ?_
      · refine sm_iincL (i := 3) (j := 3) (x := a3) (d := (1 : Int32)) (fun x10 => [(3, vI x10), (4, vR x5), (0, vR (some a0)), (2, vR a2)]) (pc' := 67) dX9_putInOrder_64 rfl rfl (by decide) (by decide) (fun _ => rfl) (fun x10 => ?_)
        refine sm_goto (pc' := 4) dX9_putInOrder_67 (by decide) ?_
        refine sm_lo (lv' := [(0, vR (some a0)), (2, vR a2), (3, vI x10)]) [2, 3, 0] rfl ?_
        exact ih a0 a2 x10 h9
      exact sm_vret rfl dX9_putInOrder_63
    refine sm_lo (lv' := [(0, vR (some a0)), (2, vR a2), (3, vI a3), (4, vR x5)]) [1, 2, 3, 0] rfl ?_
    exact sX9_putInOrder_49 l D aC B  (fX9_putInOrder_4 n) ih a0 a2 a3 x5 h9
noncomputable def fX9_putInOrder  (a0 : Nat) (a1 : Option Nat) (h : sm_H) : Option (Unit × sm_H) :=
  fX9_putInOrder_4 sm_fuel a0 a1 (0 : Int32) h
set_option maxRecDepth 100000 in
set_option maxHeartbeats 4000000 in
theorem sX9_putInOrder_0 (l : Launch) (D : va_G) (aC : Nat → ClassId) (B : Nat)   (a0 : Nat) (a1 : Option Nat) (h : sm_H) : zS l D aC B cX9_putInOrder 5 RX9 2 44 none "putInOrder" vlU (fX9_putInOrder a0 a1 h) 0 [(0, vR (some a0)), (1, vR a1)] [] h := by
  unfold fX9_putInOrder
  refine sm_aload_n (i := 1) (j := 1) (pc' := 1) dX9_putInOrder_0 rfl rfl rfl ?_
  refine sm_astore_n (i := 2) (lv' := [(2, vR a1), (0, vR (some a0)), (1, vR a1)]) (pc' := 2) dX9_putInOrder_1 rfl rfl (by decide) rfl ?_
  refine sm_iconst (v := (0 : Int32)) (pc' := 3) dX9_putInOrder_2 rfl (by decide) ?_
  refine sm_istore_n (i := 3) (lv' := [(3, vI (0 : Int32)), (2, vR a1), (0, vR (some a0)), (1, vR a1)]) (pc' := 4) dX9_putInOrder_3 rfl rfl (by decide) rfl ?_
  refine sm_lo (lv' := [(0, vR (some a0)), (2, vR a1), (3, vI (0 : Int32))]) [2, 1, 0] rfl ?_
  exact sX9_putInOrder_4 l D aC B   sm_fuel a0 a1 (0 : Int32) h
set_option maxRecDepth 100000 in
theorem mX9_putInOrder (l : Launch) (D : va_G) (aC : Nat → ClassId) (B : Nat) (a0 : Nat) (a1 : Option Nat) (h : sm_H) : sm_M l D vwCl gAts aC B gTs gNs gOs yX9_putInOrder cX9_putInOrder 5 none 2 44 vlU [vR (some a0), vR a1] h (fX9_putInOrder a0 a1 h) := sm_meth [vR (some a0), vR a1] yY_yX9_putInOrder gG gN (Nat.le_of_ble_eq_true rfl) rfl (sX9_putInOrder_0 l D aC B a0 a1 h)
