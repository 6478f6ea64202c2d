-- M:TreeAgent$Chain.<init>(I)V
noncomputable def fX0_init  (a0 : Nat) (a1 : Int32) (h : sm_H) : Option (Unit × sm_H) :=
  sm_let (if a1 < (0 : Int32) then (0 : Int32) else a1) fun x1 =>
  if x1 < 0 ∨ 1000000 < x1 then none else
  sm_let (sm_nwa h 1 x1.toNatClampNeg (.inr (.inl (fun _ => 0)))) fun h2 =>
  (sm_put h2 (some a0) 0 0 (sm_v (vR (some h.1)))).bind fun h3 =>
  some ((), h3)
set_option maxRecDepth 100000 in
set_option maxHeartbeats 4000000 in
theorem sX0_init_0 (l : Launch) (D : va_G) (aC : Nat → ClassId) (B : Nat)   (a0 : Nat) (a1 : Int32) (h : sm_H) : zS l D aC B cX0_init 2 RX0 1 21 none "<init>" vlU (fX0_init a0 a1 h) 0 [(0, vR (some a0)), (1, vI a1)] [] h := by
  unfold fX0_init
  refine sm_aload_n (i := 0) (j := 0) (pc' := 1) dX0_init_0 rfl rfl rfl ?_
  refine sm_objI (pc' := 4) mw0 mw1 mw2 dX0_init_1 rfl (by decide) (Nat.le_of_ble_eq_true rfl) ?_
  refine sm_aload_n (i := 0) (j := 0) (pc' := 5) dX0_init_4 rfl rfl rfl ?_
  refine sm_iload_n (i := 1) (j := 1) (pc' := 6) dX0_init_5 rfl rfl rfl ?_
  refine sm_iconst (v := (0 : Int32)) (pc' := 7) dX0_init_6 rfl (by decide) ?_
  refine sm_mmaxL (pc' := 10) mw5 mw6 mw7 mw8 (by decide) (Nat.le_of_ble_eq_true rfl) dX0_init_7 rfl (fun x1 => ?_)
  refine sm_newaL (ty := .long) (t := 1) (a0 := (.inr (.inl (fun _ => 0)))) (pc' := 12) rfl rfl (fun _ _ h9 => h9) (fun _ _ => rfl) (by decide) mw3 dX0_init_10 rfl (fun h2 => ?_)
  refine sm_putFR (k := 0) (pc' := 15) kX0 (by decide) mw4 rfl rfl rfl (Or.inr ⟨_, rfl⟩) dX0_init_12 rfl (fun h3 => ?_)
  exact sm_vret rfl dX0_init_15
set_option maxRecDepth 100000 in
theorem mX0_init (l : Launch) (D : va_G) (aC : Nat → ClassId) (B : Nat) (a0 : Nat) (a1 : Int32) (h : sm_H) : sm_M l D vwCl gAts aC B gTs gNs gOs yX0_init cX0_init 2 none 1 21 vlU [vR (some a0), vI a1] h (fX0_init a0 a1 h) := sm_meth [vR (some a0), vI a1] yY_yX0_init gG gN (Nat.le_of_ble_eq_true rfl) rfl (sX0_init_0 l D aC B a0 a1 h)
-- M:TreeAgent$Chain.size()I
noncomputable def fX0_size  (a0 : Nat) (h : sm_H) : Option (Int32 × sm_H) :=
  (sm_I (sm_get h (some a0) 0 1)).bind fun x1 =>
  some (x1, h)
set_option maxRecDepth 100000 in
set_option maxHeartbeats 4000000 in
theorem sX0_size_0 (l : Launch) (D : va_G) (aC : Nat → ClassId) (B : Nat)   (a0 : Nat) (h : sm_H) : zS l D aC B cX0_size 1 RX0 0 0 (some .int) "size" vlI (fX0_size a0 h) 0 [(0, vR (some a0))] [] h := by
  unfold fX0_size
  refine sm_aload_n (i := 0) (j := 0) (pc' := 1) dX0_size_0 rfl rfl rfl ?_
  refine sm_getI (k := 1) (pc' := 4) kX0 (by decide) mw9 dX0_size_1 rfl (fun x1 => ?_)
  exact sm_iret rfl dX0_size_4
set_option maxRecDepth 100000 in
theorem mX0_size (l : Launch) (D : va_G) (aC : Nat → ClassId) (B : Nat) (a0 : Nat) (h : sm_H) : sm_M l D vwCl gAts aC B gTs gNs gOs yX0_size cX0_size 1 (some .int) 0 0 vlI [vR (some a0)] h (fX0_size a0 h) := sm_meth [vR (some a0)] yY_yX0_size gG gN (Nat.le_of_ble_eq_true rfl) rfl (sX0_size_0 l D aC B a0 h)
-- M:TreeAgent$Chain.at(I)J
noncomputable def fX0_at  (a0 : Nat) (a1 : Int32) (h : sm_H) : Option (Int64 × sm_H) :=
  if a1 < 0 then (
    some ((-1 : Int64), h)
  ) else
  (sm_I (sm_get h (some a0) 0 1)).bind fun x1 =>
  if x1 ≤ a1 then (
    some ((-1 : Int64), h)
  ) else
  (sm_R (sm_get h (some a0) 0 0)).bind fun x2 =>
  (sm_len h x2 1).bind fun x3 =>
  if x3 ≤ a1 then (
    some ((-1 : Int64), h)
  ) else
  (sm_R (sm_get h (some a0) 0 0)).bind fun x4 =>
  (sm_aJ h x4 1 a1).bind fun x5 =>
  some (x5, h)
set_option maxRecDepth 100000 in
set_option maxHeartbeats 4000000 in
theorem sX0_at_0 (l : Launch) (D : va_G) (aC : Nat → ClassId) (B : Nat)   (a0 : Nat) (a1 : Int32) (h : sm_H) : zS l D aC B cX0_at 2 RX0 0 0 (some .long) "at" vlJ (fX0_at a0 a1 h) 0 [(0, vR (some a0)), (1, vI a1)] [] h := by
  unfold fX0_at
  refine sm_iload_n (i := 1) (j := 1) (pc' := 1) dX0_at_0 rfl rfl rfl ?_
  refine sm_if_lt (tgt := 30) (pc' := 4) dX0_at_1 (by decide) rfl ?_ ?_
  · refine sm_ldc2 (v := (-1 : Int64)) (pc' := 33) dX0_at_30 rfl mw10 ?_
    exact sm_lret rfl dX0_at_33
  refine sm_iload_n (i := 1) (j := 1) (pc' := 5) dX0_at_4 rfl rfl rfl ?_
  refine sm_aload_n (i := 0) (j := 0) (pc' := 6) dX0_at_5 rfl rfl rfl ?_
  refine sm_getI (k := 1) (pc' := 9) kX0 (by decide) mw9 dX0_at_6 rfl (fun x1 => ?_)
  refine sm_icmp_ge (tgt := 30) (pc' := 12) dX0_at_9 (by decide) rfl ?_ ?_
  · refine sm_ldc2 (v := (-1 : Int64)) (pc' := 33) dX0_at_30 rfl mw10 ?_
    exact sm_lret rfl dX0_at_33
  refine sm_iload_n (i := 1) (j := 1) (pc' := 13) dX0_at_12 rfl rfl rfl ?_
  refine sm_aload_n (i := 0) (j := 0) (pc' := 14) dX0_at_13 rfl rfl rfl ?_
  refine sm_getR (k := 0) (pc' := 17) kX0 (by decide) mw4 dX0_at_14 rfl (fun x2 => ?_)
  refine sm_alen (t := 1) (pc' := 18) rfl dX0_at_17 rfl (fun x3 => ?_)
  refine sm_icmp_ge (tgt := 30) (pc' := 21) dX0_at_18 (by decide) rfl ?_ ?_
  · refine sm_ldc2 (v := (-1 : Int64)) (pc' := 33) dX0_at_30 rfl mw10 ?_
    exact sm_lret rfl dX0_at_33
  refine sm_aload_n (i := 0) (j := 0) (pc' := 22) dX0_at_21 rfl rfl rfl ?_
  refine sm_getR (k := 0) (pc' := 25) kX0 (by decide) mw4 dX0_at_22 rfl (fun x4 => ?_)
  refine sm_iload_n (i := 1) (j := 1) (pc' := 26) dX0_at_25 rfl rfl rfl ?_
  refine sm_lald (t := 1) (pc' := 27) rfl dX0_at_26 rfl (fun x5 => ?_)
  refine sm_goto (pc' := 33) dX0_at_27 (by decide) ?_
  exact sm_lret rfl dX0_at_33
set_option maxRecDepth 100000 in
theorem mX0_at (l : Launch) (D : va_G) (aC : Nat → ClassId) (B : Nat) (a0 : Nat) (a1 : Int32) (h : sm_H) : sm_M l D vwCl gAts aC B gTs gNs gOs yX0_at cX0_at 2 (some .long) 0 0 vlJ [vR (some a0), vI a1] h (fX0_at a0 a1 h) := sm_meth [vR (some a0), vI a1] yY_yX0_at gG gN (Nat.le_of_ble_eq_true rfl) rfl (sX0_at_0 l D aC B a0 a1 h)
-- M:TreeAgent$Chain.add(J)Z
noncomputable def fX0_add  (a0 : Nat) (a1 : Int64) (h : sm_H) : Option (Int32 × sm_H) :=
  (sm_I (sm_get h (some a0) 0 1)).bind fun x1 =>
  if x1 < 0 then (
    some ((0 : Int32), h)
  ) else
  (sm_I (sm_get h (some a0) 0 1)).bind fun x2 =>
  (sm_R (sm_get h (some a0) 0 0)).bind fun x3 =>
  (sm_len h x3 1).bind fun x4 =>
  if x2 < x4 then (
    (sm_R (sm_get h (some a0) 0 0)).bind fun x5 =>
    (sm_I (sm_get h (some a0) 0 1)).bind fun x6 =>
    (sm_sJ h x5 1 x6 a1).bind fun h7 =>
    (sm_I (sm_get h7 (some a0) 0 1)).bind fun x8 =>
    (sm_put h7 (some a0) 0 1 (sm_v (vI (x8 + (1 : Int32))))).bind fun h9 =>
    some ((1 : Int32), h9)
  ) else
  some ((0 : Int32), h)
set_option maxRecDepth 100000 in
set_option maxHeartbeats 4000000 in
theorem sX0_add_0 (l : Launch) (D : va_G) (aC : Nat → ClassId) (B : Nat)   (a0 : Nat) (a1 : Int64) (h : sm_H) : zS l D aC B cX0_add 3 RX0 0 0 (some .boolean) "add" vlI (fX0_add a0 a1 h) 0 [(0, vR (some a0)), (1, vJ a1)] [] h := by
  unfold fX0_add
  refine sm_aload_n (i := 0) (j := 0) (pc' := 1) dX0_add_0 rfl rfl rfl ?_
  refine sm_getI (k := 1) (pc' := 4) kX0 (by decide) mw9 dX0_add_1 rfl (fun x1 => ?_)
  refine sm_if_lt (tgt := 19) (pc' := 7) dX0_add_4 (by decide) rfl ?_ ?_
  · refine sm_iconst (v := (0 : Int32)) (pc' := 20) dX0_add_19 rfl (by decide) ?_
    exact sm_zret0 rfl dX0_add_20
  refine sm_aload_n (i := 0) (j := 0) (pc' := 8) dX0_add_7 rfl rfl rfl ?_
  refine sm_getI (k := 1) (pc' := 11) kX0 (by decide) mw9 dX0_add_8 rfl (fun x2 => ?_)
  refine sm_aload_n (i := 0) (j := 0) (pc' := 12) dX0_add_11 rfl rfl rfl ?_
  refine sm_getR (k := 0) (pc' := 15) kX0 (by decide) mw4 dX0_add_12 rfl (fun x3 => ?_)
  refine sm_alen (t := 1) (pc' := 16) rfl dX0_add_15 rfl (fun x4 => ?_)
  refine sm_icmp_lt (tgt := 21) (pc' := 19) dX0_add_16 (by decide) rfl ?_ ?_
  · refine sm_aload_n (i := 0) (j := 0) (pc' := 22) dX0_add_21 rfl rfl rfl ?_
    refine sm_getR (k := 0) (pc' := 25) kX0 (by decide) mw4 dX0_add_22 rfl (fun x5 => ?_)
    refine sm_aload_n (i := 0) (j := 0) (pc' := 26) dX0_add_25 rfl rfl rfl ?_
    refine sm_getI (k := 1) (pc' := 29) kX0 (by decide) mw9 dX0_add_26 rfl (fun x6 => ?_)
    refine sm_lload_n (i := 1) (j := 1) (pc' := 30) dX0_add_29 rfl rfl rfl ?_
    refine sm_last (t := 1) (pc' := 31) rfl dX0_add_30 rfl (fun h7 => ?_)
    refine sm_aload_n (i := 0) (j := 0) (pc' := 32) dX0_add_31 rfl rfl rfl ?_
    refine sm_dup (pc' := 33) rfl dX0_add_32 rfl ?_
    refine sm_getI (k := 1) (pc' := 36) kX0 (by decide) mw9 dX0_add_33 rfl (fun x8 => ?_)
    refine sm_iconst (v := (1 : Int32)) (pc' := 37) dX0_add_36 rfl (by decide) ?_
    refine sm_iadd (pc' := 38) dX0_add_37 rfl ?_
    refine sm_putI (k := 1) (pc' := 41) kX0 (by decide) mw9 rfl rfl dX0_add_38 rfl (fun h9 => ?_)
    refine sm_iconst (v := (1 : Int32)) (pc' := 42) dX0_add_41 rfl (by decide) ?_
    exact sm_zret1 rfl dX0_add_42
  refine sm_iconst (v := (0 : Int32)) (pc' := 20) dX0_add_19 rfl (by decide) ?_
  exact sm_zret0 rfl dX0_add_20
set_option maxRecDepth 100000 in
theorem mX0_add (l : Launch) (D : va_G) (aC : Nat → ClassId) (B : Nat) (a0 : Nat) (a1 : Int64) (h : sm_H) : sm_M l D vwCl gAts aC B gTs gNs gOs yX0_add cX0_add 3 (some .boolean) 0 0 vlI [vR (some a0), vJ a1] h (fX0_add a0 a1 h) := sm_meth [vR (some a0), vJ a1] yY_yX0_add gG gN (Nat.le_of_ble_eq_true rfl) rfl (sX0_add_0 l D aC B a0 a1 h)
-- M:TreeAgent$Chain.clear()V
noncomputable def fX0_clear  (a0 : Nat) (h : sm_H) : Option (Unit × sm_H) :=
  (sm_put h (some a0) 0 1 (sm_v (vI (0 : Int32)))).bind fun h1 =>
  some ((), h1)
set_option maxRecDepth 100000 in
set_option maxHeartbeats 4000000 in
theorem sX0_clear_0 (l : Launch) (D : va_G) (aC : Nat → ClassId) (B : Nat)   (a0 : Nat) (h : sm_H) : zS l D aC B cX0_clear 1 RX0 0 0 none "clear" vlU (fX0_clear a0 h) 0 [(0, vR (some a0))] [] h := by
  unfold fX0_clear
  refine sm_aload_n (i := 0) (j := 0) (pc' := 1) dX0_clear_0 rfl rfl rfl ?_
  refine sm_iconst (v := (0 : Int32)) (pc' := 2) dX0_clear_1 rfl (by decide) ?_
  refine sm_putI (k := 1) (pc' := 5) kX0 (by decide) mw9 rfl rfl dX0_clear_2 rfl (fun h1 => ?_)
  exact sm_vret rfl dX0_clear_5
set_option maxRecDepth 100000 in
theorem mX0_clear (l : Launch) (D : va_G) (aC : Nat → ClassId) (B : Nat) (a0 : Nat) (h : sm_H) : sm_M l D vwCl gAts aC B gTs gNs gOs yX0_clear cX0_clear 1 none 0 0 vlU [vR (some a0)] h (fX0_clear a0 h) := sm_meth [vR (some a0)] yY_yX0_clear gG gN (Nat.le_of_ble_eq_true rfl) rfl (sX0_clear_0 l D aC B a0 h)
-- M:TreeAgent$Chain.copy(LTreeAgent$Chain;)V
noncomputable def fX0_copy_13  : Nat → Nat → Option Nat → Int32 → sm_H → Option (Unit × sm_H)
  | 0 => fun _ _ _ _ => none
  | n + 1 => fun a0 a1 a2 h =>
    (sm_I (sm_get h a1 0 1)).bind fun x1 =>
    if x1 ≤ a2 then (
      some ((), h)
    ) else
    (sm_obj h a1 0).bind fun b8 =>
    sm_cb (fX0_at b8 a2 h) fun x2 h3 =>
    (sm_obj h3 (some a0) 0).bind fun b7 =>
    sm_cb (fX0_add b7 x2 h3) fun x4 h5 =>
    sm_let (a2 + (1 : Int32)) fun x6 =>
    (fX0_copy_13 n) a0 a1 x6 h5
set_option maxRecDepth 100000 in
set_option maxHeartbeats 4000000 in
theorem sX0_copy_13 (l : Launch) (D : va_G) (aC : Nat → ClassId) (B : Nat)   (n : Nat) : ∀ (a0 : Nat) (a1 : Option Nat) (a2 : Int32) (h : sm_H), zS l D aC B cX0_copy 3 RX0 1 22 none "copy" vlU (fX0_copy_13 n a0 a1 a2 h) 13 [(0, vR (some a0)), (1, vR a1), (2, vI a2)] [] h := by
  induction n with
  | zero => intro a0 a1 a2 h; exact sm_none
  | succ n ih =>
    intro a0 a1 a2 h
    show zS l D aC B cX0_copy 3 RX0 1 22 none "copy" vlU (fX0_copy_13 (n + 1) a0 a1 a2 h) 13 [(0, vR (some a0)), (1, vR a1), (2, vI a2)] [] h
    unfold fX0_copy_13
    refine sm_iload_n (i := 2) (j := 2) (pc' := 14) dX0_copy_13 rfl rfl rfl ?_
    refine sm_aload_n (i := 1) (j := 1) (pc' := 15) dX0_copy_14 rfl rfl rfl ?_
    refine sm_getI (k := 1) (pc' := 18) kX0 (by decide) mw9 dX0_copy_15 rfl (fun x1 => ?_)
    refine sm_icmp_ge (tgt := 37) (pc' := 21) dX0_copy_18 (by decide) rfl ?_ ?_
    · exact sm_vret rfl dX0_copy_37
    refine sm_aload_n (i := 0) (j := 0) (pc' := 22) dX0_copy_21 rfl rfl rfl ?_
    refine sm_aload_n (i := 1) (j := 1) (pc' := 23) dX0_copy_22 rfl rfl rfl ?_
    refine sm_iload_n (i := 2) (j := 2) (pc' := 24) dX0_copy_23 rfl rfl rfl ?_
    refine sm_cVJ (pc' := 27) (ci := 0) (st := [vR (some a0)]) (F := fun b => fX0_at b a2 h) [vI a2] yY_yX0_at rfl mw11 mw15 mw16 (fun b => mX0_at l D aC B b a2 h) rfl (by decide) (by decide) (by exact Nat.le_of_ble_eq_true rfl) rfl dX0_copy_24 rfl (fun x2 h3 => ?_)
    refine sm_cVI (pc' := 30) (ci := 0) (st := []) (F := fun b => fX0_add b x2 h3) [vJ x2] yY_yX0_add rfl mw12 mw13 mw14 (fun b => mX0_add l D aC B b x2 h3) rfl (by decide) (by decide) (by exact Nat.le_of_ble_eq_true rfl) rfl dX0_copy_27 rfl (fun x4 h5 => ?_)
    refine sm_pop (pc' := 31) rfl dX0_copy_30 rfl ?_
    refine sm_iincL (i := 2) (j := 2) (x := a2) (d := (1 : Int32)) (fun x6 => [(2, vI x6), (0, vR (some a0)), (1, vR a1)]) (pc' := 34) dX0_copy_31 rfl rfl (by decide) (by decide) (fun _ => rfl) (fun x6 => ?_)
    refine sm_goto (pc' := 13) dX0_copy_34 (by decide) ?_
    refine sm_lo (lv' := [(0, vR (some a0)), (1, vR a1), (2, vI x6)]) [1, 2, 0] rfl ?_
    exact ih a0 a1 x6 h5
noncomputable def fX0_copy  (a0 : Nat) (a1 : Option Nat) (h : sm_H) : Option (Unit × sm_H) :=
  if a1 = (some a0) then (
    some ((), h)
  ) else
  (sm_put h (some a0) 0 1 (sm_v (vI (0 : Int32)))).bind fun h1 =>
  fX0_copy_13 sm_fuel a0 a1 (0 : Int32) h1
set_option maxRecDepth 100000 in
set_option maxHeartbeats 4000000 in
theorem sX0_copy_0 (l : Launch) (D : va_G) (aC : Nat → ClassId) (B : Nat)   (a0 : Nat) (a1 : Option Nat) (h : sm_H) : zS l D aC B cX0_copy 3 RX0 1 22 none "copy" vlU (fX0_copy a0 a1 h) 0 [(0, vR (some a0)), (1, vR a1)] [] h := by
  unfold fX0_copy
  refine sm_aload_n (i := 1) (j := 1) (pc' := 1) dX0_copy_0 rfl rfl rfl ?_
  refine sm_aload_n (i := 0) (j := 0) (pc' := 2) dX0_copy_1 rfl rfl rfl ?_
  refine sm_acmp_ne (tgt := 6) (pc' := 5) dX0_copy_2 (by decide) rfl ?_ ?_
  · refine sm_aload_n (i := 0) (j := 0) (pc' := 7) dX0_copy_6 rfl rfl rfl ?_
    refine sm_iconst (v := (0 : Int32)) (pc' := 8) dX0_copy_7 rfl (by decide) ?_
    refine sm_putI (k := 1) (pc' := 11) kX0 (by decide) mw9 rfl rfl dX0_copy_8 rfl (fun h1 => ?_)
    refine sm_iconst (v := (0 : Int32)) (pc' := 12) dX0_copy_11 rfl (by decide) ?_
    refine sm_istore_n (i := 2) (lv' := [(2, vI (0 : Int32)), (0, vR (some a0)), (1, vR a1)]) (pc' := 13) dX0_copy_12 rfl rfl (by decide) rfl ?_
    refine sm_lo (lv' := [(0, vR (some a0)), (1, vR a1), (2, vI (0 : Int32))]) [1, 2, 0] rfl ?_
    exact sX0_copy_13 l D aC B   sm_fuel a0 a1 (0 : Int32) h1
  exact sm_vret rfl dX0_copy_5
set_option maxRecDepth 100000 in
theorem mX0_copy (l : Launch) (D : va_G) (aC : Nat → ClassId) (B : Nat) (a0 : Nat) (a1 : Option Nat) (h : sm_H) : sm_M l D vwCl gAts aC B gTs gNs gOs yX0_copy cX0_copy 3 none 1 22 vlU [vR (some a0), vR a1] h (fX0_copy a0 a1 h) := sm_meth [vR (some a0), vR a1] yY_yX0_copy gG gN (Nat.le_of_ble_eq_true rfl) rfl (sX0_copy_0 l D aC B a0 a1 h)
-- M:TreeAgent$Chain.beginsWith(LTreeAgent$Chain;)Z
noncomputable def fX0_beginsWith_15  : Nat → Nat → Option Nat → Int32 → sm_H → Option (Int32 × sm_H)
  | 0 => fun _ _ _ _ => none
  | n + 1 => fun a0 a1 a2 h =>
    (sm_I (sm_get h a1 0 1)).bind fun x1 =>
    if x1 ≤ a2 then (
      some ((1 : Int32), h)
    ) else
    (sm_obj h (some a0) 0).bind fun b8 =>
    sm_cb (fX0_at b8 a2 h) fun x2 h3 =>
    (sm_obj h3 a1 0).bind fun b7 =>
    sm_cb (fX0_at b7 a2 h3) fun x4 h5 =>
    if (lg_cmp x2 x4) = 0 then (
      sm_let (a2 + (1 : Int32)) fun x6 =>
      (fX0_beginsWith_15 n) a0 a1 x6 h5
    ) else
    some ((0 : Int32), h5)
set_option maxRecDepth 100000 in
set_option maxHeartbeats 4000000 in
theorem sX0_beginsWith_15 (l : Launch) (D : va_G) (aC : Nat → ClassId) (B : Nat)   (n : Nat) : ∀ (a0 : Nat) (a1 : Option Nat) (a2 : Int32) (h : sm_H), zS l D aC B cX0_beginsWith 3 RX0 1 21 (some .boolean) "beginsWith" vlI (fX0_beginsWith_15 n a0 a1 a2 h) 15 [(0, vR (some a0)), (1, vR a1), (2, vI a2)] [] h := by
  induction n with
  | zero => intro a0 a1 a2 h; exact sm_none
  | succ n ih =>
    intro a0 a1 a2 h
    show zS l D aC B cX0_beginsWith 3 RX0 1 21 (some .boolean) "beginsWith" vlI (fX0_beginsWith_15 (n + 1) a0 a1 a2 h) 15 [(0, vR (some a0)), (1, vR a1), (2, vI a2)] [] h
    unfold fX0_beginsWith_15
    refine sm_iload_n (i := 2) (j := 2) (pc' := 16) dX0_beginsWith_15 rfl rfl rfl ?_
    refine sm_aload_n (i := 1) (j := 1) (pc' := 17) dX0_beginsWith_16 rfl rfl rfl ?_
    refine sm_getI (k := 1) (pc' := 20) kX0 (by decide) mw9 dX0_beginsWith_17 rfl (fun x1 => ?_)
    refine sm_icmp_ge (tgt := 45) (pc' := 23) dX0_beginsWith_20 (by decide) rfl ?_ ?_
    · refine sm_iconst (v := (1 : Int32)) (pc' := 46) dX0_beginsWith_45 rfl (by decide) ?_
      exact sm_zret1 rfl dX0_beginsWith_46
    refine sm_aload_n (i := 0) (j := 0) (pc' := 24) dX0_beginsWith_23 rfl rfl rfl ?_
    refine sm_iload_n (i := 2) (j := 2) (pc' := 25) dX0_beginsWith_24 rfl rfl rfl ?_
    refine sm_cVJ (pc' := 28) (ci := 0) (st := []) (F := fun b => fX0_at b a2 h) [vI a2] yY_yX0_at rfl mw11 mw15 mw16 (fun b => mX0_at l D aC B b a2 h) rfl (by decide) (by decide) (by exact Nat.le_of_ble_eq_true rfl) rfl dX0_beginsWith_25 rfl (fun x2 h3 => ?_)
    refine sm_aload_n (i := 1) (j := 1) (pc' := 29) dX0_beginsWith_28 rfl rfl rfl ?_
    refine sm_iload_n (i := 2) (j := 2) (pc' := 30) dX0_beginsWith_29 rfl rfl rfl ?_
    refine sm_cVJ (pc' := 33) (ci := 0) (st := [vJ x2]) (F := fun b => fX0_at b a2 h3) [vI a2] yY_yX0_at rfl mw11 mw15 mw16 (fun b => mX0_at l D aC B b a2 h3) rfl (by decide) (by decide) (by exact Nat.le_of_ble_eq_true rfl) rfl dX0_beginsWith_30 rfl (fun x4 h5 => ?_)
    refine sm_lcmp (pc' := 34) dX0_beginsWith_33 rfl ?_
    refine sm_if_eq (tgt := 39) (pc' := 37) dX0_beginsWith_34 (by decide) rfl ?_ ?_
    · refine sm_iincL (i := 2) (j := 2) (x := a2) (d := (1 : Int32)) (fun x6 => [(2, vI x6), (0, vR (some a0)), (1, vR a1)]) (pc' := 42) dX0_beginsWith_39 rfl rfl (by decide) (by decide) (fun _ => rfl) (fun x6 => ?_)
      refine sm_goto (pc' := 15) dX0_beginsWith_42 (by decide) ?_
      refine sm_lo (lv' := [(0, vR (some a0)), (1, vR a1), (2, vI x6)]) [1, 2, 0] rfl ?_
      exact ih a0 a1 x6 h5
    refine sm_iconst (v := (0 : Int32)) (pc' := 38) dX0_beginsWith_37 rfl (by decide) ?_
    exact sm_zret0 rfl dX0_beginsWith_38
noncomputable def fX0_beginsWith  (a0 : Nat) (a1 : Option Nat) (h : sm_H) : Option (Int32 × sm_H) :=
  (sm_I (sm_get h (some a0) 0 1)).bind fun x1 =>
  (sm_I (sm_get h a1 0 1)).bind fun x2 =>
  if x2 ≤ x1 then (
    fX0_beginsWith_15 sm_fuel a0 a1 (0 : Int32) h
  ) else
  some ((0 : Int32), h)
set_option maxRecDepth 100000 in
set_option maxHeartbeats 4000000 in
theorem sX0_beginsWith_0 (l : Launch) (D : va_G) (aC : Nat → ClassId) (B : Nat)   (a0 : Nat) (a1 : Option Nat) (h : sm_H) : zS l D aC B cX0_beginsWith 3 RX0 1 21 (some .boolean) "beginsWith" vlI (fX0_beginsWith a0 a1 h) 0 [(0, vR (some a0)), (1, vR a1)] [] h := by
  unfold fX0_beginsWith
  refine sm_aload_n (i := 0) (j := 0) (pc' := 1) dX0_beginsWith_0 rfl rfl rfl ?_
  refine sm_getI (k := 1) (pc' := 4) kX0 (by decide) mw9 dX0_beginsWith_1 rfl (fun x1 => ?_)
  refine sm_aload_n (i := 1) (j := 1) (pc' := 5) dX0_beginsWith_4 rfl rfl rfl ?_
  refine sm_getI (k := 1) (pc' := 8) kX0 (by decide) mw9 dX0_beginsWith_5 rfl (fun x2 => ?_)
  refine sm_icmp_ge (tgt := 13) (pc' := 11) dX0_beginsWith_8 (by decide) rfl ?_ ?_
  · refine sm_iconst (v := (0 : Int32)) (pc' := 14) dX0_beginsWith_13 rfl (by decide) ?_
    refine sm_istore_n (i := 2) (lv' := [(2, vI (0 : Int32)), (0, vR (some a0)), (1, vR a1)]) (pc' := 15) dX0_beginsWith_14 rfl rfl (by decide) rfl ?_
    refine sm_lo (lv' := [(0, vR (some a0)), (1, vR a1), (2, vI (0 : Int32))]) [1, 2, 0] rfl ?_
    exact sX0_beginsWith_15 l D aC B   sm_fuel a0 a1 (0 : Int32) h
  refine sm_iconst (v := (0 : Int32)) (pc' := 12) dX0_beginsWith_11 rfl (by decide) ?_
  exact sm_zret0 rfl dX0_beginsWith_12
set_option maxRecDepth 100000 in
theorem mX0_beginsWith (l : Launch) (D : va_G) (aC : Nat → ClassId) (B : Nat) (a0 : Nat) (a1 : Option Nat) (h : sm_H) : sm_M l D vwCl gAts aC B gTs gNs gOs yX0_beginsWith cX0_beginsWith 3 (some .boolean) 1 21 vlI [vR (some a0), vR a1] h (fX0_beginsWith a0 a1 h) := sm_meth [vR (some a0), vR a1] yY_yX0_beginsWith gG gN (Nat.le_of_ble_eq_true rfl) rfl (sX0_beginsWith_0 l D aC B a0 a1 h)
-- M:TreeAgent$Chain.isSame(LTreeAgent$Chain;)Z
noncomputable def fX0_isSame  (a0 : Nat) (a1 : Option Nat) (h : sm_H) : Option (Int32 × sm_H) :=
  (sm_I (sm_get h (some a0) 0 1)).bind fun x1 =>
  (sm_I (sm_get h a1 0 1)).bind fun x2 =>
  if x1 = x2 then (
    (sm_obj h (some a0) 0).bind fun b5 =>
    sm_cb (fX0_beginsWith b5 a1 h) fun x3 h4 =>
    if x3 = 0 then (
      some ((0 : Int32), h4)
    ) else
    some ((1 : Int32), h4)
  ) else
  some ((0 : Int32), h)
set_option maxRecDepth 100000 in
set_option maxHeartbeats 4000000 in
theorem sX0_isSame_0 (l : Launch) (D : va_G) (aC : Nat → ClassId) (B : Nat)   (a0 : Nat) (a1 : Option Nat) (h : sm_H) : zS l D aC B cX0_isSame 2 RX0 2 43 (some .boolean) "isSame" vlI (fX0_isSame a0 a1 h) 0 [(0, vR (some a0)), (1, vR a1)] [] h := by
  unfold fX0_isSame
  refine sm_aload_n (i := 0) (j := 0) (pc' := 1) dX0_isSame_0 rfl rfl rfl ?_
  refine sm_getI (k := 1) (pc' := 4) kX0 (by decide) mw9 dX0_isSame_1 rfl (fun x1 => ?_)
  refine sm_aload_n (i := 1) (j := 1) (pc' := 5) dX0_isSame_4 rfl rfl rfl ?_
  refine sm_getI (k := 1) (pc' := 8) kX0 (by decide) mw9 dX0_isSame_5 rfl (fun x2 => ?_)
  refine sm_icmp_ne (tgt := 23) (pc' := 11) dX0_isSame_8 (by decide) rfl ?_ ?_
  · refine sm_iconst (v := (0 : Int32)) (pc' := 24) dX0_isSame_23 rfl (by decide) ?_
    exact sm_zret0 rfl dX0_isSame_24
  refine sm_aload_n (i := 0) (j := 0) (pc' := 12) dX0_isSame_11 rfl rfl rfl ?_
  refine sm_aload_n (i := 1) (j := 1) (pc' := 13) dX0_isSame_12 rfl rfl rfl ?_
  refine sm_cVI (pc' := 16) (ci := 0) (st := []) (F := fun b => fX0_beginsWith b a1 h) [vR a1] yY_yX0_beginsWith rfl mw17 mw18 mw19 (fun b => mX0_beginsWith l D aC B b a1 h) rfl (by decide) (by decide) (by exact Nat.le_of_ble_eq_true rfl) rfl dX0_isSame_13 rfl (fun x3 h4 => ?_)
  refine sm_if_eq (tgt := 23) (pc' := 19) dX0_isSame_16 (by decide) rfl ?_ ?_
  · refine sm_iconst (v := (0 : Int32)) (pc' := 24) dX0_isSame_23 rfl (by decide) ?_
    exact sm_zret0 rfl dX0_isSame_24
  refine sm_iconst (v := (1 : Int32)) (pc' := 20) dX0_isSame_19 rfl (by decide) ?_
  refine sm_goto (pc' := 24) dX0_isSame_20 (by decide) ?_
  exact sm_zret1 rfl dX0_isSame_24
set_option maxRecDepth 100000 in
theorem mX0_isSame (l : Launch) (D : va_G) (aC : Nat → ClassId) (B : Nat) (a0 : Nat) (a1 : Option Nat) (h : sm_H) : sm_M l D vwCl gAts aC B gTs gNs gOs yX0_isSame cX0_isSame 2 (some .boolean) 2 43 vlI [vR (some a0), vR a1] h (fX0_isSame a0 a1 h) := sm_meth [vR (some a0), vR a1] yY_yX0_isSame gG gN (Nat.le_of_ble_eq_true rfl) rfl (sX0_isSame_0 l D aC B a0 a1 h)
-- M:TreeAgent$Chain.isLess(LTreeAgent$Chain;)Z
noncomputable def fX0_isLess_14  : Nat → Nat → Option Nat → Int32 → Int32 → sm_H → Option (Int32 × sm_H)
  | 0 => fun _ _ _ _ _ => none
  | n + 1 => fun a0 a1 a2 a3 h =>
    if a2 ≤ a3 then (
      (sm_I (sm_get h (some a0) 0 1)).bind fun x1 =>
      (sm_I (sm_get h a1 0 1)).bind fun x2 =>
      if x2 ≤ x1 then (
        some ((0 : Int32), h)
      ) else
      some ((1 : Int32), h)
    ) else
    (sm_obj h (some a0) 0).bind fun b15 =>
    sm_cb (fX0_at b15 a3 h) fun x3 h4 =>
    (sm_obj h4 a1 0).bind fun b14 =>
    sm_cb (fX0_at b14 a3 h4) fun x5 h6 =>
    if (lg_cmp x3 x5) = 0 then (
      sm_let (a3 + (1 : Int32)) fun x7 =>
      (fX0_isLess_14 n) a0 a1 a2 x7 h6
    ) else
    (sm_obj h6 (some a0) 0).bind fun b13 =>
    sm_cb (fX0_at b13 a3 h6) fun x8 h9 =>
    (sm_obj h9 a1 0).bind fun b12 =>
    sm_cb (fX0_at b12 a3 h9) fun x10 h11 =>
    if 0 ≤ (lg_cmp x8 x10) then (
      some ((0 : Int32), h11)
    ) else
    some ((1 : Int32), h11)
set_option maxRecDepth 100000 in
set_option maxHeartbeats 4000000 in
theorem sX0_isLess_14 (l : Launch) (D : va_G) (aC : Nat → ClassId) (B : Nat)   (n : Nat) : ∀ (a0 : Nat) (a1 : Option Nat) (a2 : Int32) (a3 : Int32) (h : sm_H), zS l D aC B cX0_isLess 4 RX0 1 21 (some .boolean) "isLess" vlI (fX0_isLess_14 n a0 a1 a2 a3 h) 14 [(0, vR (some a0)), (1, vR a1), (2, vI a2), (3, vI a3)] [] h := by
  induction n with
  | zero => intro a0 a1 a2 a3 h; exact sm_none
  | succ n ih =>
    intro a0 a1 a2 a3 h
    show zS l D aC B cX0_isLess 4 RX0 1 21 (some .boolean) "isLess" vlI (fX0_isLess_14 (n + 1) a0 a1 a2 a3 h) 14 [(0, vR (some a0)), (1, vR a1), (2, vI a2), (3, vI a3)] [] h
    unfold fX0_isLess_14
    refine sm_iload_n (i := 3) (j := 3) (pc' := 15) dX0_isLess_14 rfl rfl rfl ?_
    refine sm_iload_n (i := 2) (j := 2) (pc' := 16) dX0_isLess_15 rfl rfl rfl ?_
    refine sm_icmp_ge (tgt := 59) (pc' := 19) dX0_isLess_16 (by decide) rfl ?_ ?_
    · refine sm_aload_n (i := 0) (j := 0) (pc' := 60) dX0_isLess_59 rfl rfl rfl ?_
      refine sm_getI (k := 1) (pc' := 63) kX0 (by decide) mw9 dX0_isLess_60 rfl (fun x1 => ?_)
      refine sm_aload_n (i := 1) (j := 1) (pc' := 64) dX0_isLess_63 rfl rfl rfl ?_
      refine sm_getI (k := 1) (pc' := 67) kX0 (by decide) mw9 dX0_isLess_64 rfl (fun x2 => ?_)
      refine sm_icmp_ge (tgt := 74) (pc' := 70) dX0_isLess_67 (by decide) rfl ?_ ?_
      · refine sm_iconst (v := (0 : Int32)) (pc' := 75) dX0_isLess_74 rfl (by decide) ?_
        exact sm_zret0 rfl dX0_isLess_75
      refine sm_iconst (v := (1 : Int32)) (pc' := 71) dX0_isLess_70 rfl (by decide) ?_
      refine sm_goto (pc' := 75) dX0_isLess_71 (by decide) ?_
      exact sm_zret1 rfl dX0_isLess_75
    refine sm_aload_n (i := 0) (j := 0) (pc' := 20) dX0_isLess_19 rfl rfl rfl ?_
    refine sm_iload_n (i := 3) (j := 3) (pc' := 21) dX0_isLess_20 rfl rfl rfl ?_
    refine sm_cVJ (pc' := 24) (ci := 0) (st := []) (F := fun b => fX0_at b a3 h) [vI a3] yY_yX0_at rfl mw11 mw15 mw16 (fun b => mX0_at l D aC B b a3 h) rfl (by decide) (by decide) (by exact Nat.le_of_ble_eq_true rfl) rfl dX0_isLess_21 rfl (fun x3 h4 => ?_)
    refine sm_aload_n (i := 1) (j := 1) (pc' := 25) dX0_isLess_24 rfl rfl rfl ?_
    refine sm_iload_n (i := 3) (j := 3) (pc' := 26) dX0_isLess_25 rfl rfl rfl ?_
    refine sm_cVJ (pc' := 29) (ci := 0) (st := [vJ x3]) (F := fun b => fX0_at b a3 h4) [vI a3] yY_yX0_at rfl mw11 mw15 mw16 (fun b => mX0_at l D aC B b a3 h4) rfl (by decide) (by decide) (by exact Nat.le_of_ble_eq_true rfl) rfl dX0_isLess_26 rfl (fun x5 h6 => ?_)
    refine sm_lcmp (pc' := 30) dX0_isLess_29 rfl ?_
    refine sm_if_eq (tgt := 53) (pc' := 33) dX0_isLess_30 (by decide) rfl ?_ ?_
    · refine sm_iincL (i := 3) (j := 3) (x := a3) (d := (1 : Int32)) (fun x7 => [(3, vI x7), (0, vR (some a0)), (1, vR a1), (2, vI a2)]) (pc' := 56) dX0_isLess_53 rfl rfl (by decide) (by decide) (fun _ => rfl) (fun x7 => ?_)
      refine sm_goto (pc' := 14) dX0_isLess_56 (by decide) ?_
      refine sm_lo (lv' := [(0, vR (some a0)), (1, vR a1), (2, vI a2), (3, vI x7)]) [1, 2, 3, 0] rfl ?_
      exact ih a0 a1 a2 x7 h6
    refine sm_aload_n (i := 0) (j := 0) (pc' := 34) dX0_isLess_33 rfl rfl rfl ?_
    refine sm_iload_n (i := 3) (j := 3) (pc' := 35) dX0_isLess_34 rfl rfl rfl ?_
    refine sm_cVJ (pc' := 38) (ci := 0) (st := []) (F := fun b => fX0_at b a3 h6) [vI a3] yY_yX0_at rfl mw11 mw15 mw16 (fun b => mX0_at l D aC B b a3 h6) rfl (by decide) (by decide) (by exact Nat.le_of_ble_eq_true rfl) rfl dX0_isLess_35 rfl (fun x8 h9 => ?_)
    refine sm_aload_n (i := 1) (j := 1) (pc' := 39) dX0_isLess_38 rfl rfl rfl ?_
    refine sm_iload_n (i := 3) (j := 3) (pc' := 40) dX0_isLess_39 rfl rfl rfl ?_
    refine sm_cVJ (pc' := 43) (ci := 0) (st := [vJ x8]) (F := fun b => fX0_at b a3 h9) [vI a3] yY_yX0_at rfl mw11 mw15 mw16 (fun b => mX0_at l D aC B b a3 h9) rfl (by decide) (by decide) (by exact Nat.le_of_ble_eq_true rfl) rfl dX0_isLess_40 rfl (fun x10 h11 => ?_)
    refine sm_lcmp (pc' := 44) dX0_isLess_43 rfl ?_
    refine sm_if_ge (tgt := 51) (pc' := 47) dX0_isLess_44 (by decide) rfl ?_ ?_
    · refine sm_iconst (v := (0 : Int32)) (pc' := 52) dX0_isLess_51 rfl (by decide) ?_
      exact sm_zret0 rfl dX0_isLess_52
    refine sm_iconst (v := (1 : Int32)) (pc' := 48) dX0_isLess_47 rfl (by decide) ?_
    refine sm_goto (pc' := 52) dX0_isLess_48 (by decide) ?_
    exact sm_zret1 rfl dX0_isLess_52
noncomputable def fX0_isLess  (a0 : Nat) (a1 : Option Nat) (h : sm_H) : Option (Int32 × sm_H) :=
  (sm_I (sm_get h (some a0) 0 1)).bind fun x1 =>
  (sm_I (sm_get h a1 0 1)).bind fun x2 =>
  sm_let (if x2 < x1 then x2 else x1) fun x3 =>
  fX0_isLess_14 sm_fuel a0 a1 x3 (0 : Int32) h
set_option maxRecDepth 100000 in
set_option maxHeartbeats 4000000 in
theorem sX0_isLess_0 (l : Launch) (D : va_G) (aC : Nat → ClassId) (B : Nat)   (a0 : Nat) (a1 : Option Nat) (h : sm_H) : zS l D aC B cX0_isLess 4 RX0 1 21 (some .boolean) "isLess" vlI (fX0_isLess a0 a1 h) 0 [(0, vR (some a0)), (1, vR a1)] [] h := by
  unfold fX0_isLess
  refine sm_aload_n (i := 0) (j := 0) (pc' := 1) dX0_isLess_0 rfl rfl rfl ?_
  refine sm_getI (k := 1) (pc' := 4) kX0 (by decide) mw9 dX0_isLess_1 rfl (fun x1 => ?_)
  refine sm_aload_n (i := 1) (j := 1) (pc' := 5) dX0_isLess_4 rfl rfl rfl ?_
  refine sm_getI (k := 1) (pc' := 8) kX0 (by decide) mw9 dX0_isLess_5 rfl (fun x2 => ?_)
  refine sm_mminL (pc' := 11) mw20 mw21 mw7 mw22 (by decide) (Nat.le_of_ble_eq_true rfl) dX0_isLess_8 rfl (fun x3 => ?_)
  refine sm_istore_n (i := 2) (lv' := [(2, vI x3), (0, vR (some a0)), (1, vR a1)]) (pc' := 12) dX0_isLess_11 rfl rfl (by decide) rfl ?_
  refine sm_iconst (v := (0 : Int32)) (pc' := 13) dX0_isLess_12 rfl (by decide) ?_
  refine sm_istore_n (i := 3) (lv' := [(3, vI (0 : Int32)), (2, vI x3), (0, vR (some a0)), (1, vR a1)]) (pc' := 14) dX0_isLess_13 rfl rfl (by decide) rfl ?_
  refine sm_lo (lv' := [(0, vR (some a0)), (1, vR a1), (2, vI x3), (3, vI (0 : Int32))]) [2, 3, 1, 0] rfl ?_
  exact sX0_isLess_14 l D aC B   sm_fuel a0 a1 x3 (0 : Int32) h
set_option maxRecDepth 100000 in
theorem mX0_isLess (l : Launch) (D : va_G) (aC : Nat → ClassId) (B : Nat) (a0 : Nat) (a1 : Option Nat) (h : sm_H) : sm_M l D vwCl gAts aC B gTs gNs gOs yX0_isLess cX0_isLess 4 (some .boolean) 1 21 vlI [vR (some a0), vR a1] h (fX0_isLess a0 a1 h) := sm_meth [vR (some a0), vR a1] yY_yX0_isLess gG gN (Nat.le_of_ble_eq_true rfl) rfl (sX0_isLess_0 l D aC B a0 a1 h)
-- M:TreeAgent$Change.<init>(LTreeAgent$Tree;LTreeAgent$Message;)V
noncomputable def fX1_init  (a0 : Nat) (a1 : Option Nat) (a2 : Option Nat) (h : sm_H) : Option (Unit × sm_H) :=
  (sm_put h (some a0) 1 0 (sm_v (vR a1))).bind fun h1 =>
  (sm_put h1 (some a0) 1 1 (sm_v (vR a2))).bind fun h2 =>
  some ((), h2)
set_option maxRecDepth 100000 in
set_option maxHeartbeats 4000000 in
theorem sX1_init_0 (l : Launch) (D : va_G) (aC : Nat → ClassId) (B : Nat)   (a0 : Nat) (a1 : Option Nat) (a2 : Option Nat) (h : sm_H) : zS l D aC B cX1_init 3 RX1 1 21 none "<init>" vlU (fX1_init a0 a1 a2 h) 0 [(0, vR (some a0)), (1, vR a1), (2, vR a2)] [] h := by
  unfold fX1_init
  refine sm_aload_n (i := 0) (j := 0) (pc' := 1) dX1_init_0 rfl rfl rfl ?_
  refine sm_objI (pc' := 4) mw23 mw1 mw2 dX1_init_1 rfl (by decide) (Nat.le_of_ble_eq_true rfl) ?_
  refine sm_aload_n (i := 0) (j := 0) (pc' := 5) dX1_init_4 rfl rfl rfl ?_
  refine sm_aload_n (i := 1) (j := 1) (pc' := 6) dX1_init_5 rfl rfl rfl ?_
  refine sm_putFR (k := 0) (pc' := 9) kX1 (by decide) mw24 rfl rfl rfl (Or.inl ⟨_, rfl⟩) dX1_init_6 rfl (fun h1 => ?_)
  refine sm_aload_n (i := 0) (j := 0) (pc' := 10) dX1_init_9 rfl rfl rfl ?_
  refine sm_aload_n (i := 2) (j := 2) (pc' := 11) dX1_init_10 rfl rfl rfl ?_
  refine sm_putFR (k := 1) (pc' := 14) kX1 (by decide) mw25 rfl rfl rfl (Or.inl ⟨_, rfl⟩) dX1_init_11 rfl (fun h2 => ?_)
  exact sm_vret rfl dX1_init_14
set_option maxRecDepth 100000 in
theorem mX1_init (l : Launch) (D : va_G) (aC : Nat → ClassId) (B : Nat) (a0 : Nat) (a1 : Option Nat) (a2 : Option Nat) (h : sm_H) : sm_M l D vwCl gAts aC B gTs gNs gOs yX1_init cX1_init 3 none 1 21 vlU [vR (some a0), vR a1, vR a2] h (fX1_init a0 a1 a2 h) := sm_meth [vR (some a0), vR a1, vR a2] yY_yX1_init gG gN (Nat.le_of_ble_eq_true rfl) rfl (sX1_init_0 l D aC B a0 a1 a2 h)
-- M:TreeAgent$Message.pairAt(I)LTreeAgent$Pair;
noncomputable def fX3_pairAt  (a0 : Nat) (a1 : Int32) (h : sm_H) : Option (Option Nat × sm_H) :=
  if a1 < 0 then (
    some (none, h)
  ) else
  (sm_R (sm_get h (some a0) 3 1)).bind fun x1 =>
  (sm_len h x1 7).bind fun x2 =>
  if x2 ≤ a1 then (
    some (none, h)
  ) else
  (sm_R (sm_get h (some a0) 3 1)).bind fun x3 =>
  (sm_aR h x3 7 a1).bind fun x4 =>
  some (x4, h)
set_option maxRecDepth 100000 in
set_option maxHeartbeats 4000000 in
theorem sX3_pairAt_0 (l : Launch) (D : va_G) (aC : Nat → ClassId) (B : Nat)   (a0 : Nat) (a1 : Int32) (h : sm_H) : zS l D aC B cX3_pairAt 2 RX3 0 0 (some (.object "TreeAgent$Pair")) "pairAt" vlR (fX3_pairAt a0 a1 h) 0 [(0, vR (some a0)), (1, vI a1)] [] h := by
  unfold fX3_pairAt
  refine sm_iload_n (i := 1) (j := 1) (pc' := 1) dX3_pairAt_0 rfl rfl rfl ?_
  refine sm_if_lt (tgt := 22) (pc' := 4) dX3_pairAt_1 (by decide) rfl ?_ ?_
  · refine sm_null (pc' := 23) dX3_pairAt_22 rfl ?_
    exact sm_aret rfl dX3_pairAt_23
  refine sm_iload_n (i := 1) (j := 1) (pc' := 5) dX3_pairAt_4 rfl rfl rfl ?_
  refine sm_aload_n (i := 0) (j := 0) (pc' := 6) dX3_pairAt_5 rfl rfl rfl ?_
  refine sm_getR (k := 1) (pc' := 9) kX3 (by decide) mw26 dX3_pairAt_6 rfl (fun x1 => ?_)
  refine sm_alen (t := 7) (pc' := 10) rfl dX3_pairAt_9 rfl (fun x2 => ?_)
  refine sm_icmp_ge (tgt := 22) (pc' := 13) dX3_pairAt_10 (by decide) rfl ?_ ?_
  · refine sm_null (pc' := 23) dX3_pairAt_22 rfl ?_
    exact sm_aret rfl dX3_pairAt_23
  refine sm_aload_n (i := 0) (j := 0) (pc' := 14) dX3_pairAt_13 rfl rfl rfl ?_
  refine sm_getR (k := 1) (pc' := 17) kX3 (by decide) mw26 dX3_pairAt_14 rfl (fun x3 => ?_)
  refine sm_iload_n (i := 1) (j := 1) (pc' := 18) dX3_pairAt_17 rfl rfl rfl ?_
  refine sm_aald (t := 7) (pc' := 19) rfl dX3_pairAt_18 rfl (fun x4 => ?_)
  refine sm_goto (pc' := 23) dX3_pairAt_19 (by decide) ?_
  exact sm_aret rfl dX3_pairAt_23
set_option maxRecDepth 100000 in
theorem mX3_pairAt (l : Launch) (D : va_G) (aC : Nat → ClassId) (B : Nat) (a0 : Nat) (a1 : Int32) (h : sm_H) : sm_M l D vwCl gAts aC B gTs gNs gOs yX3_pairAt cX3_pairAt 2 (some (.object "TreeAgent$Pair")) 0 0 vlR [vR (some a0), vI a1] h (fX3_pairAt a0 a1 h) := sm_meth [vR (some a0), vI a1] yY_yX3_pairAt gG gN (Nat.le_of_ble_eq_true rfl) rfl (sX3_pairAt_0 l D aC B a0 a1 h)
-- M:TreeAgent$Community.shows(LTreeAgent$Chain;)Z
noncomputable def fX2_shows_7  : Nat → Nat → Option Nat → Int32 → Int32 → Int32 → sm_H → Option (Int32 × sm_H)
  | 0 => fun _ _ _ _ _ _ => none
  | n + 1 => fun a0 a1 a2 a3 a4 h =>
    (sm_I (sm_get h (some a0) 2 4)).bind fun x1 =>
    if x1 ≤ a4 then (
      if a2 = 0 ∨ a2 = 1 then some (a2, h) else none
    ) else
    (sm_R (sm_get h (some a0) 2 2)).bind fun x2 =>
    (sm_len h x2 9).bind fun x3 =>
    if x3 ≤ a4 then (
      if a2 = 0 ∨ a2 = 1 then some (a2, h) else none
    ) else
    (sm_R (sm_get h (some a0) 2 3)).bind fun x4 =>
    (sm_len h x4 2).bind fun x5 =>
    if x5 ≤ a4 then (
      if a2 = 0 ∨ a2 = 1 then some (a2, h) else none
    ) else
    (sm_R (sm_get h (some a0) 2 2)).bind fun x6 =>
    (sm_aR h x6 9 a4).bind fun x7 =>
    if x7 = none then (
      sm_let (a4 + (1 : Int32)) fun x8 =>
      (fX2_shows_7 n) a0 a1 a2 a3 x8 h
    ) else
    (sm_obj h x7 0).bind fun b22 =>
    sm_cb (fX0_size b22 h) fun x9 h10 =>
    if x9 < a3 then (
      sm_let (a4 + (1 : Int32)) fun x11 =>
      (fX2_shows_7 n) a0 a1 a2 a3 x11 h10
    ) else
    (sm_obj h10 a1 0).bind fun b21 =>
    sm_cb (fX0_beginsWith b21 x7 h10) fun x12 h13 =>
    if x12 = 0 then (
      sm_let (a4 + (1 : Int32)) fun x14 =>
      (fX2_shows_7 n) a0 a1 a2 a3 x14 h13
    ) else
    (sm_obj h13 x7 0).bind fun b20 =>
    sm_cb (fX0_size b20 h13) fun x15 h16 =>
    (sm_R (sm_get h16 (some a0) 2 3)).bind fun x17 =>
    (sm_aI h16 x17 2 a4).bind fun x18 =>
    sm_let (a4 + (1 : Int32)) fun x19 =>
    (fX2_shows_7 n) a0 a1 x18 x15 x19 h16
set_option maxRecDepth 100000 in
set_option maxHeartbeats 4000000 in
theorem sX2_shows_7 (l : Launch) (D : va_G) (aC : Nat → ClassId) (B : Nat)   (n : Nat) : ∀ (a0 : Nat) (a1 : Option Nat) (a2 : Int32) (a3 : Int32) (a4 : Int32) (h : sm_H), zS l D aC B cX2_shows 6 RX2 2 43 (some .boolean) "shows" vlI (fX2_shows_7 n a0 a1 a2 a3 a4 h) 7 [(0, vR (some a0)), (1, vR a1), (2, vI a2), (3, vI a3), (4, vI a4)] [] h := by
  induction n with
  | zero => intro a0 a1 a2 a3 a4 h; exact sm_none
  | succ n ih =>
    intro a0 a1 a2 a3 a4 h
    show zS l D aC B cX2_shows 6 RX2 2 43 (some .boolean) "shows" vlI (fX2_shows_7 (n + 1) a0 a1 a2 a3 a4 h) 7 [(0, vR (some a0)), (1, vR a1), (2, vI a2), (3, vI a3), (4, vI a4)] [] h
    unfold fX2_shows_7
    refine sm_iload (i := 4) (j := 4) (pc' := 9) dX2_shows_7 rfl rfl ?_
    refine sm_aload_n (i := 0) (j := 0) (pc' := 10) dX2_shows_9 rfl rfl rfl ?_
    refine sm_getI (k := 4) (pc' := 13) kX2 (by decide) mw27 dX2_shows_10 rfl (fun x1 => ?_)
    refine sm_icmp_ge (tgt := 88) (pc' := 16) dX2_shows_13 (by decide) rfl ?_ ?_
    · refine sm_iload_n (i := 2) (j := 2) (pc' := 89) dX2_shows_88 rfl rfl rfl ?_
      exact sm_zret rfl dX2_shows_89
    refine sm_iload (i := 4) (j := 4) (pc' := 18) dX2_shows_16 rfl rfl ?_
    refine sm_aload_n (i := 0) (j := 0) (pc' := 19) dX2_shows_18 rfl rfl rfl ?_
    refine sm_getR (k := 2) (pc' := 22) kX2 (by decide) mw28 dX2_shows_19 rfl (fun x2 => ?_)
    refine sm_alen (t := 9) (pc' := 23) rfl dX2_shows_22 rfl (fun x3 => ?_)
    refine sm_icmp_ge (tgt := 88) (pc' := 26) dX2_shows_23 (by decide) rfl ?_ ?_
    · refine sm_iload_n (i := 2) (j := 2) (pc' := 89) dX2_shows_88 rfl rfl rfl ?_
      exact sm_zret rfl dX2_shows_89
    refine sm_iload (i := 4) (j := 4) (pc' := 28) dX2_shows_26 rfl rfl ?_
    refine sm_aload_n (i := 0) (j := 0) (pc' := 29) dX2_shows_28 rfl rfl rfl ?_
    refine sm_getR (k := 3) (pc' := 32) kX2 (by decide) mw29 dX2_shows_29 rfl (fun x4 => ?_)
    refine sm_alen (t := 2) (pc' := 33) rfl dX2_shows_32 rfl (fun x5 => ?_)
    refine sm_icmp_ge (tgt := 88) (pc' := 36) dX2_shows_33 (by decide) rfl ?_ ?_
    · refine sm_iload_n (i := 2) (j := 2) (pc' := 89) dX2_shows_88 rfl rfl rfl ?_
      exact sm_zret rfl dX2_shows_89
    refine sm_aload_n (i := 0) (j := 0) (pc' := 37) dX2_shows_36 rfl rfl rfl ?_
    refine sm_getR (k := 2) (pc' := 40) kX2 (by decide) mw28 dX2_shows_37 rfl (fun x6 => ?_)
    refine sm_iload (i := 4) (j := 4) (pc' := 42) dX2_shows_40 rfl rfl ?_
    refine sm_aald (t := 9) (pc' := 43) rfl dX2_shows_42 rfl (fun x7 => ?_)
    refine sm_astore (i := 5) (lv' := [(5, vR x7), (0, vR (some a0)), (1, vR a1), (2, vI a2), (3, vI a3), (4, vI a4)]) (pc' := 45) dX2_shows_43 rfl (by decide) rfl ?_
    refine sm_aload (i := 5) (j := 0) (pc' := 47) dX2_shows_45 rfl rfl ?_
    refine sm_ifnull (tgt := 82) (pc' := 50) dX2_shows_47 (by decide) rfl ?_ ?_
    · refine sm_iincL (i := 4) (j := 5) (x := a4) (d := (1 : Int32)) (fun x8 => [(4, vI x8), (5, vR x7), (0, vR (some a0)), (1, vR a1), (2, vI a2), (3, vI a3)]) (pc' := 85) dX2_shows_82 rfl rfl (by decide) (by decide) (fun _ => rfl) (fun x8 => ?_)
      refine sm_goto (pc' := 7) dX2_shows_85 (by decide) ?_
      refine sm_lo (lv' := [(0, vR (some a0)), (1, vR a1), (2, vI a2), (3, vI a3), (4, vI x8)]) [2, 3, 4, 5, 0] rfl ?_
      exact ih a0 a1 a2 a3 x8 h
    refine sm_aload (i := 5) (j := 0) (pc' := 52) dX2_shows_50 rfl rfl ?_
    refine sm_cVI (pc' := 55) (ci := 0) (st := []) (F := fun b => fX0_size b h) [] yY_yX0_size rfl mw30 mw32 mw33 (fun b => mX0_size l D aC B b h) rfl (by decide) (by decide) (by exact Nat.le_of_ble_eq_true rfl) rfl dX2_shows_52 rfl (fun x9 h10 => ?_)
    refine sm_iload_n (i := 3) (j := 4) (pc' := 56) dX2_shows_55 rfl rfl rfl ?_
    refine sm_icmp_lt (tgt := 82) (pc' := 59) dX2_shows_56 (by decide) rfl ?_ ?_
    · refine sm_iincL (i := 4) (j := 5) (x := a4) (d := (1 : Int32)) (fun x11 => [(4, vI x11), (5, vR x7), (0, vR (some a0)), (1, vR a1), (2, vI a2), (3, vI a3)]) (pc' := 85) dX2_shows_82 rfl rfl (by decide) (by decide) (fun _ => rfl) (fun x11 => ?_)
      refine sm_goto (pc' := 7) dX2_shows_85 (by decide) ?_
      refine sm_lo (lv' := [(0, vR (some a0)), (1, vR a1), (2, vI a2), (3, vI a3), (4, vI x11)]) [2, 3, 4, 5, 0] rfl ?_
      exact ih a0 a1 a2 a3 x11 h10
    refine sm_aload_n (i := 1) (j := 2) (pc' := 60) dX2_shows_59 rfl rfl rfl ?_
    refine sm_aload (i := 5) (j := 0) (pc' := 62) dX2_shows_60 rfl rfl ?_
    refine sm_cVI (pc' := 65) (ci := 0) (st := []) (F := fun b => fX0_beginsWith b x7 h10) [vR x7] yY_yX0_beginsWith rfl mw31 mw18 mw19 (fun b => mX0_beginsWith l D aC B b x7 h10) rfl (by decide) (by decide) (by exact Nat.le_of_ble_eq_true rfl) rfl dX2_shows_62 rfl (fun x12 h13 => ?_)
    refine sm_if_eq (tgt := 82) (pc' := 68) dX2_shows_65 (by decide) rfl ?_ ?_
    · refine sm_iincL (i := 4) (j := 5) (x := a4) (d := (1 : Int32)) (fun x14 => [(4, vI x14), (5, vR x7), (0, vR (some a0)), (1, vR a1), (2, vI a2), (3, vI a3)]) (pc' := 85) dX2_shows_82 rfl rfl (by decide) (by decide) (fun _ => rfl) (fun x14 => ?_)
      refine sm_goto (pc' := 7) dX2_shows_85 (by decide) ?_
      refine sm_lo (lv' := [(0, vR (some a0)), (1, vR a1), (2, vI a2), (3, vI a3), (4, vI x14)]) [2, 3, 4, 5, 0] rfl ?_
      exact ih a0 a1 a2 a3 x14 h13
    refine sm_aload (i := 5) (j := 0) (pc' := 70) dX2_shows_68 rfl rfl ?_
    refine sm_cVI (pc' := 73) (ci := 0) (st := []) (F := fun b => fX0_size b h13) [] yY_yX0_size rfl mw30 mw32 mw33 (fun b => mX0_size l D aC B b h13) rfl (by decide) (by decide) (by exact Nat.le_of_ble_eq_true rfl) rfl dX2_shows_70 rfl (fun x15 h16 => ?_)
    refine sm_istore_n (i := 3) (lv' := [(3, vI x15), (5, vR x7), (0, vR (some a0)), (1, vR a1), (2, vI a2), (4, vI a4)]) (pc' := 74) dX2_shows_73 rfl rfl (by decide) rfl ?_
    refine sm_aload_n (i := 0) (j := 2) (pc' := 75) dX2_shows_74 rfl rfl rfl ?_
    refine sm_getR (k := 3) (pc' := 78) kX2 (by decide) mw29 dX2_shows_75 rfl (fun x17 => ?_)
    refine sm_iload (i := 4) (j := 5) (pc' := 80) dX2_shows_78 rfl rfl ?_
    refine sm_zald (t := 2) (pc' := 81) rfl dX2_shows_80 rfl (fun x18 => ?_)
    refine sm_istore_n (i := 2) (lv' := [(2, vI x18), (3, vI x15), (5, vR x7), (0, vR (some a0)), (1, vR a1), (4, vI a4)]) (pc' := 82) dX2_shows_81 rfl rfl (by decide) rfl ?_
    refine sm_iincL (i := 4) (j := 5) (x := a4) (d := (1 : Int32)) (fun x19 => [(4, vI x19), (2, vI x18), (3, vI x15), (5, vR x7), (0, vR (some a0)), (1, vR a1)]) (pc' := 85) dX2_shows_82 rfl rfl (by decide) (by decide) (fun _ => rfl) (fun x19 => ?_)
    refine sm_goto (pc' := 7) dX2_shows_85 (by decide) ?_
    refine sm_lo (lv' := [(0, vR (some a0)), (1, vR a1), (2, vI x18), (3, vI x15), (4, vI x19)]) [4, 5, 1, 2, 0] rfl ?_
    exact ih a0 a1 x18 x15 x19 h16
noncomputable def fX2_shows  (a0 : Nat) (a1 : Option Nat) (h : sm_H) : Option (Int32 × sm_H) :=
  fX2_shows_7 sm_fuel a0 a1 (1 : Int32) (0 : Int32) (0 : Int32) h
set_option maxRecDepth 100000 in
set_option maxHeartbeats 4000000 in
theorem sX2_shows_0 (l : Launch) (D : va_G) (aC : Nat → ClassId) (B : Nat)   (a0 : Nat) (a1 : Option Nat) (h : sm_H) : zS l D aC B cX2_shows 6 RX2 2 43 (some .boolean) "shows" vlI (fX2_shows a0 a1 h) 0 [(0, vR (some a0)), (1, vR a1)] [] h := by
  unfold fX2_shows
  refine sm_iconst (v := (1 : Int32)) (pc' := 1) dX2_shows_0 rfl (by decide) ?_
  refine sm_istore_n (i := 2) (lv' := [(2, vI (1 : Int32)), (0, vR (some a0)), (1, vR a1)]) (pc' := 2) dX2_shows_1 rfl rfl (by decide) rfl ?_
  refine sm_iconst (v := (0 : Int32)) (pc' := 3) dX2_shows_2 rfl (by decide) ?_
  refine sm_istore_n (i := 3) (lv' := [(3, vI (0 : Int32)), (2, vI (1 : Int32)), (0, vR (some a0)), (1, vR a1)]) (pc' := 4) dX2_shows_3 rfl rfl (by decide) rfl ?_
  refine sm_iconst (v := (0 : Int32)) (pc' := 5) dX2_shows_4 rfl (by decide) ?_
  refine sm_istore (i := 4) (lv' := [(4, vI (0 : Int32)), (3, vI (0 : Int32)), (2, vI (1 : Int32)), (0, vR (some a0)), (1, vR a1)]) (pc' := 7) dX2_shows_5 rfl (by decide) rfl ?_
  refine sm_lo (lv' := [(0, vR (some a0)), (1, vR a1), (2, vI (1 : Int32)), (3, vI (0 : Int32)), (4, vI (0 : Int32))]) [3, 4, 2, 1, 0] rfl ?_
  exact sX2_shows_7 l D aC B   sm_fuel a0 a1 (1 : Int32) (0 : Int32) (0 : Int32) h
set_option maxRecDepth 100000 in
theorem mX2_shows (l : Launch) (D : va_G) (aC : Nat → ClassId) (B : Nat) (a0 : Nat) (a1 : Option Nat) (h : sm_H) : sm_M l D vwCl gAts aC B gTs gNs gOs yX2_shows cX2_shows 6 (some .boolean) 2 43 vlI [vR (some a0), vR a1] h (fX2_shows a0 a1 h) := sm_meth [vR (some a0), vR a1] yY_yX2_shows gG gN (Nat.le_of_ble_eq_true rfl) rfl (sX2_shows_0 l D aC B a0 a1 h)
-- M:TreeAgent$Tree.thingAt(I)LTreeAgent$Thing;
noncomputable def fX9_thingAt  (a0 : Nat) (a1 : Int32) (h : sm_H) : Option (Option Nat × sm_H) :=
  if a1 < 0 then (
    some (none, h)
  ) else
  (sm_R (sm_get h (some a0) 9 0)).bind fun x1 =>
  (sm_len h x1 4).bind fun x2 =>
  if x2 ≤ a1 then (
    some (none, h)
  ) else
  (sm_R (sm_get h (some a0) 9 0)).bind fun x3 =>
  (sm_aR h x3 4 a1).bind fun x4 =>
  some (x4, h)
set_option maxRecDepth 100000 in
set_option maxHeartbeats 4000000 in
theorem sX9_thingAt_0 (l : Launch) (D : va_G) (aC : Nat → ClassId) (B : Nat)   (a0 : Nat) (a1 : Int32) (h : sm_H) : zS l D aC B cX9_thingAt 2 RX9 0 0 (some (.object "TreeAgent$Thing")) "thingAt" vlR (fX9_thingAt a0 a1 h) 0 [(0, vR (some a0)), (1, vI a1)] [] h := by
  unfold fX9_thingAt
  refine sm_iload_n (i := 1) (j := 1) (pc' := 1) dX9_thingAt_0 rfl rfl rfl ?_
  refine sm_if_lt (tgt := 22) (pc' := 4) dX9_thingAt_1 (by decide) rfl ?_ ?_
  · refine sm_null (pc' := 23) dX9_thingAt_22 rfl ?_
    exact sm_aret rfl dX9_thingAt_23
  refine sm_iload_n (i := 1) (j := 1) (pc' := 5) dX9_thingAt_4 rfl rfl rfl ?_
  refine sm_aload_n (i := 0) (j := 0) (pc' := 6) dX9_thingAt_5 rfl rfl rfl ?_
  refine sm_getR (k := 0) (pc' := 9) kX9 (by decide) mw34 dX9_thingAt_6 rfl (fun x1 => ?_)
  refine sm_alen (t := 4) (pc' := 10) rfl dX9_thingAt_9 rfl (fun x2 => ?_)
  refine sm_icmp_ge (tgt := 22) (pc' := 13) dX9_thingAt_10 (by decide) rfl ?_ ?_
  · refine sm_null (pc' := 23) dX9_thingAt_22 rfl ?_
    exact sm_aret rfl dX9_thingAt_23
  refine sm_aload_n (i := 0) (j := 0) (pc' := 14) dX9_thingAt_13 rfl rfl rfl ?_
  refine sm_getR (k := 0) (pc' := 17) kX9 (by decide) mw34 dX9_thingAt_14 rfl (fun x3 => ?_)
  refine sm_iload_n (i := 1) (j := 1) (pc' := 18) dX9_thingAt_17 rfl rfl rfl ?_
  refine sm_aald (t := 4) (pc' := 19) rfl dX9_thingAt_18 rfl (fun x4 => ?_)
  refine sm_goto (pc' := 23) dX9_thingAt_19 (by decide) ?_
  exact sm_aret rfl dX9_thingAt_23
set_option maxRecDepth 100000 in
theorem mX9_thingAt (l : Launch) (D : va_G) (aC : Nat → ClassId) (B : Nat) (a0 : Nat) (a1 : Int32) (h : sm_H) : sm_M l D vwCl gAts aC B gTs gNs gOs yX9_thingAt cX9_thingAt 2 (some (.object "TreeAgent$Thing")) 0 0 vlR [vR (some a0), vI a1] h (fX9_thingAt a0 a1 h) := sm_meth [vR (some a0), vI a1] yY_yX9_thingAt gG gN (Nat.le_of_ble_eq_true rfl) rfl (sX9_thingAt_0 l D aC B a0 a1 h)
-- M:TreeAgent$Tree.thingFor(LTreeAgent$Chain;)LTreeAgent$Thing;
noncomputable def fX9_thingFor_2  : Nat → Nat → Option Nat → Int32 → sm_H → Option (Option Nat × sm_H)
  | 0 => fun _ _ _ _ => none
  | n + 1 => fun a0 a1 a2 h =>
    (sm_I (sm_get h (some a0) 9 3)).bind fun x1 =>
    if x1 ≤ a2 then (
      some (none, h)
    ) else
    (sm_obj h (some a0) 9).bind fun b10 =>
    sm_cb (fX9_thingAt b10 a2 h) fun x2 h3 =>
    if x2 = none then (
      sm_let (a2 + (1 : Int32)) fun x4 =>
      (fX9_thingFor_2 n) a0 a1 x4 h3
    ) else
    (sm_R (sm_get h3 x2 8 0)).bind fun x5 =>
    (sm_obj h3 a1 0).bind fun b9 =>
    sm_cb (fX0_beginsWith b9 x5 h3) fun x6 h7 =>
    if x6 = 0 then (
      sm_let (a2 + (1 : Int32)) fun x8 =>
      (fX9_thingFor_2 n) a0 a1 x8 h7
    ) else
    some (x2, h7)
set_option maxRecDepth 100000 in
set_option maxHeartbeats 4000000 in
theorem sX9_thingFor_2 (l : Launch) (D : va_G) (aC : Nat → ClassId) (B : Nat)   (n : Nat) : ∀ (a0 : Nat) (a1 : Option Nat) (a2 : Int32) (h : sm_H), zS l D aC B cX9_thingFor 4 RX9 2 43 (some (.object "TreeAgent$Thing")) "thingFor" vlR (fX9_thingFor_2 n a0 a1 a2 h) 2 [(0, vR (some a0)), (1, vR a1), (2, vI a2)] [] h := by
  induction n with
  | zero => intro a0 a1 a2 h; exact sm_none
  | succ n ih =>
    intro a0 a1 a2 h
    show zS l D aC B cX9_thingFor 4 RX9 2 43 (some (.object "TreeAgent$Thing")) "thingFor" vlR (fX9_thingFor_2 (n + 1) a0 a1 a2 h) 2 [(0, vR (some a0)), (1, vR a1), (2, vI a2)] [] h
    unfold fX9_thingFor_2
    refine sm_iload_n (i := 2) (j := 2) (pc' := 3) dX9_thingFor_2 rfl rfl rfl ?_
    refine sm_aload_n (i := 0) (j := 0) (pc' := 4) dX9_thingFor_3 rfl rfl rfl ?_
    refine sm_getI (k := 3) (pc' := 7) kX9 (by decide) mw35 dX9_thingFor_4 rfl (fun x1 => ?_)
    refine sm_icmp_ge (tgt := 39) (pc' := 10) dX9_thingFor_7 (by decide) rfl ?_ ?_
    · refine sm_null (pc' := 40) dX9_thingFor_39 rfl ?_
      exact sm_aret rfl dX9_thingFor_40
    refine sm_aload_n (i := 0) (j := 0) (pc' := 11) dX9_thingFor_10 rfl rfl rfl ?_
    refine sm_iload_n (i := 2) (j := 2) (pc' := 12) dX9_thingFor_11 rfl rfl rfl ?_
    refine sm_cVR (pc' := 15) (ci := 9) (st := []) (F := fun b => fX9_thingAt b a2 h) [vI a2] yY_yX9_thingAt rfl mw36 mw39 mw40 (fun b => mX9_thingAt l D aC B b a2 h) rfl (by decide) (by decide) (by exact Nat.le_of_ble_eq_true rfl) rfl dX9_thingFor_12 rfl (fun x2 h3 => ?_)
    refine sm_astore_n (i := 3) (lv' := [(3, vR x2), (0, vR (some a0)), (1, vR a1), (2, vI a2)]) (pc' := 16) dX9_thingFor_15 rfl rfl (by decide) rfl ?_
    refine sm_aload_n (i := 3) (j := 0) (pc' := 17) dX9_thingFor_16 rfl rfl rfl ?_
    refine sm_ifnull (tgt := 33) (pc' := 20) dX9_thingFor_17 (by decide) rfl ?_ ?_
    · refine sm_iincL (i := 2) (j := 3) (x := a2) (d := (1 : Int32)) (fun x4 => [(2, vI x4), (3, vR x2), (0, vR (some a0)), (1, vR a1)]) (pc' := 36) dX9_thingFor_33 rfl rfl (by decide) (by decide) (fun _ => rfl) (fun x4 => ?_)
      refine sm_goto (pc' := 2) dX9_thingFor_36 (by decide) ?_
      refine sm_lo (lv' := [(0, vR (some a0)), (1, vR a1), (2, vI x4)]) [2, 3, 0] rfl ?_
      exact ih a0 a1 x4 h3
    refine sm_aload_n (i := 1) (j := 2) (pc' := 21) dX9_thingFor_20 rfl rfl rfl ?_
    refine sm_aload_n (i := 3) (j := 0) (pc' := 22) dX9_thingFor_21 rfl rfl rfl ?_
    refine sm_getRN (k := 0) (pc' := 25) kX8 (by decide) mw37 dX9_thingFor_22 rfl (fun x5 => ?_)
    refine sm_cVI (pc' := 28) (ci := 0) (st := []) (F := fun b => fX0_beginsWith b x5 h3) [vR x5] yY_yX0_beginsWith rfl mw38 mw18 mw19 (fun b => mX0_beginsWith l D aC B b x5 h3) rfl (by decide) (by decide) (by exact Nat.le_of_ble_eq_true rfl) rfl dX9_thingFor_25 rfl (fun x6 h7 => ?_)
    refine sm_if_eq (tgt := 33) (pc' := 31) dX9_thingFor_28 (by decide) rfl ?_ ?_
    · refine sm_iincL (i := 2) (j := 3) (x := a2) (d := (1 : Int32)) (fun x8 => [(2, vI x8), (3, vR x2), (0, vR (some a0)), (1, vR a1)]) (pc' := 36) dX9_thingFor_33 rfl rfl (by decide) (by decide) (fun _ => rfl) (fun x8 => ?_)
      refine sm_goto (pc' := 2) dX9_thingFor_36 (by decide) ?_
      refine sm_lo (lv' := [(0, vR (some a0)), (1, vR a1), (2, vI x8)]) [2, 3, 0] rfl ?_
      exact ih a0 a1 x8 h7
    refine sm_aload_n (i := 3) (j := 0) (pc' := 32) dX9_thingFor_31 rfl rfl rfl ?_
    exact sm_aret rfl dX9_thingFor_32
noncomputable def fX9_thingFor  (a0 : Nat) (a1 : Option Nat) (h : sm_H) : Option (Option Nat × sm_H) :=
  fX9_thingFor_2 sm_fuel a0 a1 (0 : Int32) h
set_option maxRecDepth 100000 in
set_option maxHeartbeats 4000000 in
theorem sX9_thingFor_0 (l : Launch) (D : va_G) (aC : Nat → ClassId) (B : Nat)   (a0 : Nat) (a1 : Option Nat) (h : sm_H) : zS l D aC B cX9_thingFor 4 RX9 2 43 (some (.object "TreeAgent$Thing")) "thingFor" vlR (fX9_thingFor a0 a1 h) 0 [(0, vR (some a0)), (1, vR a1)] [] h := by
  unfold fX9_thingFor
  refine sm_iconst (v := (0 : Int32)) (pc' := 1) dX9_thingFor_0 rfl (by decide) ?_
  refine sm_istore_n (i := 2) (lv' := [(2, vI (0 : Int32)), (0, vR (some a0)), (1, vR a1)]) (pc' := 2) dX9_thingFor_1 rfl rfl (by decide) rfl ?_
  refine sm_lo (lv' := [(0, vR (some a0)), (1, vR a1), (2, vI (0 : Int32))]) [1, 2, 0] rfl ?_
  exact sX9_thingFor_2 l D aC B   sm_fuel a0 a1 (0 : Int32) h
set_option maxRecDepth 100000 in
theorem mX9_thingFor (l : Launch) (D : va_G) (aC : Nat → ClassId) (B : Nat) (a0 : Nat) (a1 : Option Nat) (h : sm_H) : sm_M l D vwCl gAts aC B gTs gNs gOs yX9_thingFor cX9_thingFor 4 (some (.object "TreeAgent$Thing")) 2 43 vlR [vR (some a0), vR a1] h (fX9_thingFor a0 a1 h) := sm_meth [vR (some a0), vR a1] yY_yX9_thingFor gG gN (Nat.le_of_ble_eq_true rfl) rfl (sX9_thingFor_0 l D aC B a0 a1 h)
-- M:TreeAgent$Thing.takesLength(LTreeAgent$Value;)Z
noncomputable def fX8_takesLength  (a0 : Nat) (a1 : Option Nat) (h : sm_H) : Option (Int32 × sm_H) :=
  (sm_I (sm_get h (some a0) 8 1)).bind fun x1 =>
  if x1 = (4 : Int32) then (
    (sm_R (sm_get h a1 10 0)).bind fun x2 =>
    (sm_obj h x2 0).bind fun b11 =>
    sm_cb (fX0_size b11 h) fun x3 h4 =>
    (sm_J (sm_get h4 (some a0) 8 3)).bind fun x5 =>
    if (lg_cmp (x3.toInt64) x5) < 0 then (
      some ((0 : Int32), h4)
    ) else
    (sm_R (sm_get h4 a1 10 0)).bind fun x6 =>
    (sm_obj h4 x6 0).bind fun b10 =>
    sm_cb (fX0_size b10 h4) fun x7 h8 =>
    (sm_J (sm_get h8 (some a0) 8 4)).bind fun x9 =>
    if 0 < (lg_cmp (x7.toInt64) x9) then (
      some ((0 : Int32), h8)
    ) else
    some ((1 : Int32), h8)
  ) else
  some ((1 : Int32), h)
set_option maxRecDepth 100000 in
set_option maxHeartbeats 4000000 in
theorem sX8_takesLength_0 (l : Launch) (D : va_G) (aC : Nat → ClassId) (B : Nat)   (a0 : Nat) (a1 : Option Nat) (h : sm_H) : zS l D aC B cX8_takesLength 2 RX8 1 20 (some .boolean) "takesLength" vlI (fX8_takesLength a0 a1 h) 0 [(0, vR (some a0)), (1, vR a1)] [] h := by
  unfold fX8_takesLength
  refine sm_aload_n (i := 0) (j := 0) (pc' := 1) dX8_takesLength_0 rfl rfl rfl ?_
  refine sm_getI (k := 1) (pc' := 4) kX8 (by decide) mw41 dX8_takesLength_1 rfl (fun x1 => ?_)
  refine sm_iconst (v := (4 : Int32)) (pc' := 5) dX8_takesLength_4 rfl (by decide) ?_
  refine sm_icmp_ne (tgt := 40) (pc' := 8) dX8_takesLength_5 (by decide) rfl ?_ ?_
  · refine sm_iconst (v := (1 : Int32)) (pc' := 41) dX8_takesLength_40 rfl (by decide) ?_
    refine sm_goto (pc' := 45) dX8_takesLength_41 (by decide) ?_
    exact sm_zret1 rfl dX8_takesLength_45
  refine sm_aload_n (i := 1) (j := 1) (pc' := 9) dX8_takesLength_8 rfl rfl rfl ?_
  refine sm_getRN (k := 0) (pc' := 12) kX10 (by decide) mw42 dX8_takesLength_9 rfl (fun x2 => ?_)
  refine sm_cVI (pc' := 15) (ci := 0) (st := []) (F := fun b => fX0_size b h) [] yY_yX0_size rfl mw43 mw32 mw33 (fun b => mX0_size l D aC B b h) rfl (by decide) (by decide) (by exact Nat.le_of_ble_eq_true rfl) rfl dX8_takesLength_12 rfl (fun x3 h4 => ?_)
  refine sm_i2l (pc' := 16) dX8_takesLength_15 rfl ?_
  refine sm_aload_n (i := 0) (j := 0) (pc' := 17) dX8_takesLength_16 rfl rfl rfl ?_
  refine sm_getJ (k := 3) (pc' := 20) kX8 (by decide) mw44 dX8_takesLength_17 rfl (fun x5 => ?_)
  refine sm_lcmp (pc' := 21) dX8_takesLength_20 rfl ?_
  refine sm_if_lt (tgt := 44) (pc' := 24) dX8_takesLength_21 (by decide) rfl ?_ ?_
  · refine sm_iconst (v := (0 : Int32)) (pc' := 45) dX8_takesLength_44 rfl (by decide) ?_
    exact sm_zret0 rfl dX8_takesLength_45
  refine sm_aload_n (i := 1) (j := 1) (pc' := 25) dX8_takesLength_24 rfl rfl rfl ?_
  refine sm_getRN (k := 0) (pc' := 28) kX10 (by decide) mw42 dX8_takesLength_25 rfl (fun x6 => ?_)
  refine sm_cVI (pc' := 31) (ci := 0) (st := []) (F := fun b => fX0_size b h4) [] yY_yX0_size rfl mw43 mw32 mw33 (fun b => mX0_size l D aC B b h4) rfl (by decide) (by decide) (by exact Nat.le_of_ble_eq_true rfl) rfl dX8_takesLength_28 rfl (fun x7 h8 => ?_)
  refine sm_i2l (pc' := 32) dX8_takesLength_31 rfl ?_
  refine sm_aload_n (i := 0) (j := 0) (pc' := 33) dX8_takesLength_32 rfl rfl rfl ?_
  refine sm_getJ (k := 4) (pc' := 36) kX8 (by decide) mw45 dX8_takesLength_33 rfl (fun x9 => ?_)
  refine sm_lcmp (pc' := 37) dX8_takesLength_36 rfl ?_
  refine sm_if_gt (tgt := 44) (pc' := 40) dX8_takesLength_37 (by decide) rfl ?_ ?_
  · refine sm_iconst (v := (0 : Int32)) (pc' := 45) dX8_takesLength_44 rfl (by decide) ?_
    exact sm_zret0 rfl dX8_takesLength_45
  refine sm_iconst (v := (1 : Int32)) (pc' := 41) dX8_takesLength_40 rfl (by decide) ?_
  refine sm_goto (pc' := 45) dX8_takesLength_41 (by decide) ?_
  exact sm_zret1 rfl dX8_takesLength_45
set_option maxRecDepth 100000 in
theorem mX8_takesLength (l : Launch) (D : va_G) (aC : Nat → ClassId) (B : Nat) (a0 : Nat) (a1 : Option Nat) (h : sm_H) : sm_M l D vwCl gAts aC B gTs gNs gOs yX8_takesLength cX8_takesLength 2 (some .boolean) 1 20 vlI [vR (some a0), vR a1] h (fX8_takesLength a0 a1 h) := sm_meth [vR (some a0), vR a1] yY_yX8_takesLength gG gN (Nat.le_of_ble_eq_true rfl) rfl (sX8_takesLength_0 l D aC B a0 a1 h)
-- M:TreeAgent$Thing.isStatus()Z
noncomputable def fX8_isStatus  (a0 : Nat) (h : sm_H) : Option (Int32 × sm_H) :=
  (sm_R (sm_get h (some a0) 8 5)).bind fun x1 =>
  if x1 = none then (
    some ((0 : Int32), h)
  ) else
  (sm_R (sm_get h (some a0) 8 5)).bind fun x2 =>
  (sm_R (sm_get h x2 7 3)).bind fun x3 =>
  if x3 = (some a0) then (
    some ((1 : Int32), h)
  ) else
  some ((0 : Int32), h)
set_option maxRecDepth 100000 in
set_option maxHeartbeats 4000000 in
theorem sX8_isStatus_0 (l : Launch) (D : va_G) (aC : Nat → ClassId) (B : Nat)   (a0 : Nat) (h : sm_H) : zS l D aC B cX8_isStatus 1 RX8 0 0 (some .boolean) "isStatus" vlI (fX8_isStatus a0 h) 0 [(0, vR (some a0))] [] h := by
  unfold fX8_isStatus
  refine sm_aload_n (i := 0) (j := 0) (pc' := 1) dX8_isStatus_0 rfl rfl rfl ?_
  refine sm_getR (k := 5) (pc' := 4) kX8 (by decide) mw46 dX8_isStatus_1 rfl (fun x1 => ?_)
  refine sm_ifnull (tgt := 22) (pc' := 7) dX8_isStatus_4 (by decide) rfl ?_ ?_
  · refine sm_iconst (v := (0 : Int32)) (pc' := 23) dX8_isStatus_22 rfl (by decide) ?_
    exact sm_zret0 rfl dX8_isStatus_23
  refine sm_aload_n (i := 0) (j := 0) (pc' := 8) dX8_isStatus_7 rfl rfl rfl ?_
  refine sm_getR (k := 5) (pc' := 11) kX8 (by decide) mw46 dX8_isStatus_8 rfl (fun x2 => ?_)
  refine sm_getRN (k := 3) (pc' := 14) kX7 (by decide) mw47 dX8_isStatus_11 rfl (fun x3 => ?_)
  refine sm_aload_n (i := 0) (j := 0) (pc' := 15) dX8_isStatus_14 rfl rfl rfl ?_
  refine sm_acmp_ne (tgt := 22) (pc' := 18) dX8_isStatus_15 (by decide) rfl ?_ ?_
  · refine sm_iconst (v := (0 : Int32)) (pc' := 23) dX8_isStatus_22 rfl (by decide) ?_
    exact sm_zret0 rfl dX8_isStatus_23
  refine sm_iconst (v := (1 : Int32)) (pc' := 19) dX8_isStatus_18 rfl (by decide) ?_
  refine sm_goto (pc' := 23) dX8_isStatus_19 (by decide) ?_
  exact sm_zret1 rfl dX8_isStatus_23
set_option maxRecDepth 100000 in
theorem mX8_isStatus (l : Launch) (D : va_G) (aC : Nat → ClassId) (B : Nat) (a0 : Nat) (h : sm_H) : sm_M l D vwCl gAts aC B gTs gNs gOs yX8_isStatus cX8_isStatus 1 (some .boolean) 0 0 vlI [vR (some a0)] h (fX8_isStatus a0 h) := sm_meth [vR (some a0)] yY_yX8_isStatus gG gN (Nat.le_of_ble_eq_true rfl) rfl (sX8_isStatus_0 l D aC B a0 h)
-- M:TreeAgent$Thing.takesNumber(LTreeAgent$Value;)Z
noncomputable def fX8_takesNumber_51  (a0 : Nat) (a1 : Option Nat) (s0 : Int32) (h : sm_H) : Option (Int32 × sm_H) :=
  if s0 = 0 then (
    some ((1 : Int32), h)
  ) else
  (sm_J (sm_get h a1 10 2)).bind fun x1 =>
  (sm_J (sm_get h (some a0) 8 3)).bind fun x2 =>
  if (lg_cmp x1 x2) < 0 then (
    some ((0 : Int32), h)
  ) else
  (sm_J (sm_get h a1 10 2)).bind fun x3 =>
  (sm_J (sm_get h (some a0) 8 4)).bind fun x4 =>
  if 0 < (lg_cmp x3 x4) then (
    some ((0 : Int32), h)
  ) else
  some ((1 : Int32), h)
set_option maxRecDepth 100000 in
set_option maxHeartbeats 4000000 in
theorem sX8_takesNumber_51 (l : Launch) (D : va_G) (aC : Nat → ClassId) (B : Nat)   (a0 : Nat) (a1 : Option Nat) (s0 : Int32) (h : sm_H) : zS l D aC B cX8_takesNumber 3 RX8 1 20 (some .boolean) "takesNumber" vlI (fX8_takesNumber_51 a0 a1 s0 h) 51 [(0, vR (some a0)), (1, vR a1)] [vI s0] h := by
  unfold fX8_takesNumber_51
  refine sm_istore_n (i := 2) (lv' := [(2, vI s0), (0, vR (some a0)), (1, vR a1)]) (pc' := 52) dX8_takesNumber_51 rfl rfl (by decide) rfl ?_
  refine sm_iload_n (i := 2) (j := 0) (pc' := 53) dX8_takesNumber_52 rfl rfl rfl ?_
  refine sm_if_eq (tgt := 80) (pc' := 56) dX8_takesNumber_53 (by decide) rfl ?_ ?_
  · refine sm_iconst (v := (1 : Int32)) (pc' := 81) dX8_takesNumber_80 rfl (by decide) ?_
    refine sm_goto (pc' := 85) dX8_takesNumber_81 (by decide) ?_
    exact sm_zret1 rfl dX8_takesNumber_85
  refine sm_aload_n (i := 1) (j := 2) (pc' := 57) dX8_takesNumber_56 rfl rfl rfl ?_
  refine sm_getJN (k := 2) (pc' := 60) kX10 (by decide) mw48 dX8_takesNumber_57 rfl (fun x1 => ?_)
  refine sm_aload_n (i := 0) (j := 1) (pc' := 61) dX8_takesNumber_60 rfl rfl rfl ?_
  refine sm_getJ (k := 3) (pc' := 64) kX8 (by decide) mw44 dX8_takesNumber_61 rfl (fun x2 => ?_)
  refine sm_lcmp (pc' := 65) dX8_takesNumber_64 rfl ?_
  refine sm_if_lt (tgt := 84) (pc' := 68) dX8_takesNumber_65 (by decide) rfl ?_ ?_
  · refine sm_iconst (v := (0 : Int32)) (pc' := 85) dX8_takesNumber_84 rfl (by decide) ?_
    exact sm_zret0 rfl dX8_takesNumber_85
  refine sm_aload_n (i := 1) (j := 2) (pc' := 69) dX8_takesNumber_68 rfl rfl rfl ?_
  refine sm_getJN (k := 2) (pc' := 72) kX10 (by decide) mw48 dX8_takesNumber_69 rfl (fun x3 => ?_)
  refine sm_aload_n (i := 0) (j := 1) (pc' := 73) dX8_takesNumber_72 rfl rfl rfl ?_
  refine sm_getJ (k := 4) (pc' := 76) kX8 (by decide) mw45 dX8_takesNumber_73 rfl (fun x4 => ?_)
  refine sm_lcmp (pc' := 77) dX8_takesNumber_76 rfl ?_
  refine sm_if_gt (tgt := 84) (pc' := 80) dX8_takesNumber_77 (by decide) rfl ?_ ?_
  · refine sm_iconst (v := (0 : Int32)) (pc' := 85) dX8_takesNumber_84 rfl (by decide) ?_
    exact sm_zret0 rfl dX8_takesNumber_85
  refine sm_iconst (v := (1 : Int32)) (pc' := 81) dX8_takesNumber_80 rfl (by decide) ?_
  refine sm_goto (pc' := 85) dX8_takesNumber_81 (by decide) ?_
  exact sm_zret1 rfl dX8_takesNumber_85
noncomputable def fX8_takesNumber_20  (a0 : Nat) (a1 : Option Nat) (h : sm_H) : Option (Int32 × sm_H) :=
  (sm_I (sm_get h (some a0) 8 1)).bind fun x1 =>
  if x1 = (2 : Int32) then (
    fX8_takesNumber_51 a0 a1 (1 : Int32) h
  ) else
  (sm_I (sm_get h (some a0) 8 1)).bind fun x2 =>
  if x2 = (66 : Int32) then (
    fX8_takesNumber_51 a0 a1 (1 : Int32) h
  ) else
  (sm_I (sm_get h (some a0) 8 1)).bind fun x3 =>
  if x3 = (67 : Int32) then (
    fX8_takesNumber_51 a0 a1 (1 : Int32) h
  ) else
  fX8_takesNumber_51 a0 a1 (0 : Int32) h
set_option maxRecDepth 100000 in
set_option maxHeartbeats 4000000 in
theorem sX8_takesNumber_20 (l : Launch) (D : va_G) (aC : Nat → ClassId) (B : Nat)   (a0 : Nat) (a1 : Option Nat) (h : sm_H) : zS l D aC B cX8_takesNumber 3 RX8 1 20 (some .boolean) "takesNumber" vlI (fX8_takesNumber_20 a0 a1 h) 20 [(0, vR (some a0)), (1, vR a1)] [] h := by
  unfold fX8_takesNumber_20
  refine sm_aload_n (i := 0) (j := 0) (pc' := 21) dX8_takesNumber_20 rfl rfl rfl ?_
  refine sm_getI (k := 1) (pc' := 24) kX8 (by decide) mw41 dX8_takesNumber_21 rfl (fun x1 => ?_)
  refine sm_iconst (v := (2 : Int32)) (pc' := 25) dX8_takesNumber_24 rfl (by decide) ?_
  refine sm_icmp_eq (tgt := 46) (pc' := 28) dX8_takesNumber_25 (by decide) rfl ?_ ?_
  · refine sm_iconst (v := (1 : Int32)) (pc' := 47) dX8_takesNumber_46 rfl (by decide) ?_
    refine sm_goto (pc' := 51) dX8_takesNumber_47 (by decide) ?_
    exact sX8_takesNumber_51 l D aC B  a0 a1 (1 : Int32) h
  refine sm_aload_n (i := 0) (j := 0) (pc' := 29) dX8_takesNumber_28 rfl rfl rfl ?_
  refine sm_getI (k := 1) (pc' := 32) kX8 (by decide) mw41 dX8_takesNumber_29 rfl (fun x2 => ?_)
  refine sm_bipush (v := (66 : Int32)) (pc' := 34) dX8_takesNumber_32 rfl (by decide) ?_
  refine sm_icmp_eq (tgt := 46) (pc' := 37) dX8_takesNumber_34 (by decide) rfl ?_ ?_
  · refine sm_iconst (v := (1 : Int32)) (pc' := 47) dX8_takesNumber_46 rfl (by decide) ?_
    refine sm_goto (pc' := 51) dX8_takesNumber_47 (by decide) ?_
    exact sX8_takesNumber_51 l D aC B  a0 a1 (1 : Int32) h
  refine sm_aload_n (i := 0) (j := 0) (pc' := 38) dX8_takesNumber_37 rfl rfl rfl ?_
  refine sm_getI (k := 1) (pc' := 41) kX8 (by decide) mw41 dX8_takesNumber_38 rfl (fun x3 => ?_)
  refine sm_bipush (v := (67 : Int32)) (pc' := 43) dX8_takesNumber_41 rfl (by decide) ?_
  refine sm_icmp_ne (tgt := 50) (pc' := 46) dX8_takesNumber_43 (by decide) rfl ?_ ?_
  · refine sm_iconst (v := (0 : Int32)) (pc' := 51) dX8_takesNumber_50 rfl (by decide) ?_
    exact sX8_takesNumber_51 l D aC B  a0 a1 (0 : Int32) h
  refine sm_iconst (v := (1 : Int32)) (pc' := 47) dX8_takesNumber_46 rfl (by decide) ?_
  refine sm_goto (pc' := 51) dX8_takesNumber_47 (by decide) ?_
  exact sX8_takesNumber_51 l D aC B  a0 a1 (1 : Int32) h
noncomputable def fX8_takesNumber  (a0 : Nat) (a1 : Option Nat) (h : sm_H) : Option (Int32 × sm_H) :=
  (sm_obj h (some a0) 8).bind fun b4 =>
  sm_cb (fX8_isStatus b4 h) fun x1 h2 =>
  if x1 = 0 then (
    fX8_takesNumber_20 a0 a1 h2
  ) else
  (sm_J (sm_get h2 a1 10 2)).bind fun x3 =>
  if (lg_cmp x3 (3 : Int64)) = 0 then (
    some ((0 : Int32), h2)
  ) else
  fX8_takesNumber_20 a0 a1 h2
set_option maxRecDepth 100000 in
set_option maxHeartbeats 4000000 in
theorem sX8_takesNumber_0 (l : Launch) (D : va_G) (aC : Nat → ClassId) (B : Nat)   (a0 : Nat) (a1 : Option Nat) (h : sm_H) : zS l D aC B cX8_takesNumber 3 RX8 1 20 (some .boolean) "takesNumber" vlI (fX8_takesNumber a0 a1 h) 0 [(0, vR (some a0)), (1, vR a1)] [] h := by
  unfold fX8_takesNumber
  refine sm_aload_n (i := 0) (j := 0) (pc' := 1) dX8_takesNumber_0 rfl rfl rfl ?_
  refine sm_cVI (pc' := 4) (ci := 8) (st := []) (F := fun b => fX8_isStatus b h) [] yY_yX8_isStatus rfl mw49 mw51 mw52 (fun b => mX8_isStatus l D aC B b h) rfl (by decide) (by decide) (by exact Nat.le_of_ble_eq_true rfl) rfl dX8_takesNumber_1 rfl (fun x1 h2 => ?_)
  refine sm_if_eq (tgt := 20) (pc' := 7) dX8_takesNumber_4 (by decide) rfl ?_ ?_
  · exact sX8_takesNumber_20 l D aC B  a0 a1 h2
  refine sm_aload_n (i := 1) (j := 1) (pc' := 8) dX8_takesNumber_7 rfl rfl rfl ?_
  refine sm_getJN (k := 2) (pc' := 11) kX10 (by decide) mw48 dX8_takesNumber_8 rfl (fun x3 => ?_)
  refine sm_ldc2 (v := (3 : Int64)) (pc' := 14) dX8_takesNumber_11 rfl mw50 ?_
  refine sm_lcmp (pc' := 15) dX8_takesNumber_14 rfl ?_
  refine sm_if_ne (tgt := 20) (pc' := 18) dX8_takesNumber_15 (by decide) rfl ?_ ?_
  · exact sX8_takesNumber_20 l D aC B  a0 a1 h2
  refine sm_iconst (v := (0 : Int32)) (pc' := 19) dX8_takesNumber_18 rfl (by decide) ?_
  exact sm_zret0 rfl dX8_takesNumber_19
set_option maxRecDepth 100000 in
theorem mX8_takesNumber (l : Launch) (D : va_G) (aC : Nat → ClassId) (B : Nat) (a0 : Nat) (a1 : Option Nat) (h : sm_H) : sm_M l D vwCl gAts aC B gTs gNs gOs yX8_takesNumber cX8_takesNumber 3 (some .boolean) 1 20 vlI [vR (some a0), vR a1] h (fX8_takesNumber a0 a1 h) := sm_meth [vR (some a0), vR a1] yY_yX8_takesNumber gG gN (Nat.le_of_ble_eq_true rfl) rfl (sX8_takesNumber_0 l D aC B a0 a1 h)
-- M:TreeAgent$Thing.takesIndex(LTreeAgent$Chain;)Z
noncomputable def fX8_takesIndex  (a0 : Nat) (a1 : Option Nat) (h : sm_H) : Option (Int32 × sm_H) :=
  (sm_obj h a1 0).bind fun b15 =>
  sm_cb (fX0_size b15 h) fun x1 h2 =>
  (sm_R (sm_get h2 (some a0) 8 0)).bind fun x3 =>
  (sm_obj h2 x3 0).bind fun b14 =>
  sm_cb (fX0_size b14 h2) fun x4 h5 =>
  if x1 = (x4 + (1 : Int32)) then (
    (sm_R (sm_get h5 (some a0) 8 0)).bind fun x6 =>
    (sm_obj h5 x6 0).bind fun b13 =>
    sm_cb (fX0_size b13 h5) fun x7 h8 =>
    (sm_obj h8 a1 0).bind fun b12 =>
    sm_cb (fX0_at b12 x7 h8) fun x9 h10 =>
    (sm_R (sm_get h10 (some a0) 8 5)).bind fun x11 =>
    if x11 = none then (
      if (lg_cmp x9 (0 : Int64)) = 0 then (
        some ((1 : Int32), h10)
      ) else
      some ((0 : Int32), h10)
    ) else
    if (lg_cmp x9 (1 : Int64)) < 0 then (
      some ((0 : Int32), h10)
    ) else
    if 0 < (lg_cmp x9 (2147483647 : Int64)) then (
      some ((0 : Int32), h10)
    ) else
    some ((1 : Int32), h10)
  ) else
  some ((0 : Int32), h5)
set_option maxRecDepth 100000 in
set_option maxHeartbeats 4000000 in
theorem sX8_takesIndex_0 (l : Launch) (D : va_G) (aC : Nat → ClassId) (B : Nat)   (a0 : Nat) (a1 : Option Nat) (h : sm_H) : zS l D aC B cX8_takesIndex 4 RX8 1 21 (some .boolean) "takesIndex" vlI (fX8_takesIndex a0 a1 h) 0 [(0, vR (some a0)), (1, vR a1)] [] h := by
  unfold fX8_takesIndex
  refine sm_aload_n (i := 1) (j := 1) (pc' := 1) dX8_takesIndex_0 rfl rfl rfl ?_
  refine sm_cVI (pc' := 4) (ci := 0) (st := []) (F := fun b => fX0_size b h) [] yY_yX0_size rfl mw43 mw32 mw33 (fun b => mX0_size l D aC B b h) rfl (by decide) (by decide) (by exact Nat.le_of_ble_eq_true rfl) rfl dX8_takesIndex_1 rfl (fun x1 h2 => ?_)
  refine sm_aload_n (i := 0) (j := 0) (pc' := 5) dX8_takesIndex_4 rfl rfl rfl ?_
  refine sm_getR (k := 0) (pc' := 8) kX8 (by decide) mw53 dX8_takesIndex_5 rfl (fun x3 => ?_)
  refine sm_cVI (pc' := 11) (ci := 0) (st := [vI x1]) (F := fun b => fX0_size b h2) [] yY_yX0_size rfl mw43 mw32 mw33 (fun b => mX0_size l D aC B b h2) rfl (by decide) (by decide) (by exact Nat.le_of_ble_eq_true rfl) rfl dX8_takesIndex_8 rfl (fun x4 h5 => ?_)
  refine sm_iconst (v := (1 : Int32)) (pc' := 12) dX8_takesIndex_11 rfl (by decide) ?_
  refine sm_iadd (pc' := 13) dX8_takesIndex_12 rfl ?_
  refine sm_icmp_eq (tgt := 18) (pc' := 16) dX8_takesIndex_13 (by decide) rfl ?_ ?_
  · refine sm_aload_n (i := 1) (j := 1) (pc' := 19) dX8_takesIndex_18 rfl rfl rfl ?_
    refine sm_aload_n (i := 0) (j := 0) (pc' := 20) dX8_takesIndex_19 rfl rfl rfl ?_
    refine sm_getR (k := 0) (pc' := 23) kX8 (by decide) mw53 dX8_takesIndex_20 rfl (fun x6 => ?_)
    refine sm_cVI (pc' := 26) (ci := 0) (st := [vR a1]) (F := fun b => fX0_size b h5) [] yY_yX0_size rfl mw43 mw32 mw33 (fun b => mX0_size l D aC B b h5) rfl (by decide) (by decide) (by exact Nat.le_of_ble_eq_true rfl) rfl dX8_takesIndex_23 rfl (fun x7 h8 => ?_)
    refine sm_cVJ (pc' := 29) (ci := 0) (st := []) (F := fun b => fX0_at b x7 h8) [vI x7] yY_yX0_at rfl mw54 mw15 mw16 (fun b => mX0_at l D aC B b x7 h8) rfl (by decide) (by decide) (by exact Nat.le_of_ble_eq_true rfl) rfl dX8_takesIndex_26 rfl (fun x9 h10 => ?_)
    refine sm_lstore_n (i := 2) (lv' := [(2, vJ x9), (0, vR (some a0)), (1, vR a1)]) (pc' := 30) dX8_takesIndex_29 rfl rfl (by decide) rfl ?_
    refine sm_aload_n (i := 0) (j := 1) (pc' := 31) dX8_takesIndex_30 rfl rfl rfl ?_
    refine sm_getR (k := 5) (pc' := 34) kX8 (by decide) mw46 dX8_takesIndex_31 rfl (fun x11 => ?_)
    refine sm_ifnonnull (tgt := 51) (pc' := 37) dX8_takesIndex_34 (by decide) rfl ?_ ?_
    · refine sm_lload_n (i := 2) (j := 0) (pc' := 52) dX8_takesIndex_51 rfl rfl rfl ?_
      refine sm_lconst (v := (1 : Int64)) (pc' := 53) dX8_takesIndex_52 rfl (by decide) ?_
      refine sm_lcmp (pc' := 54) dX8_takesIndex_53 rfl ?_
      refine sm_if_lt (tgt := 69) (pc' := 57) dX8_takesIndex_54 (by decide) rfl ?_ ?_
      · refine sm_iconst (v := (0 : Int32)) (pc' := 70) dX8_takesIndex_69 rfl (by decide) ?_
        exact sm_zret0 rfl dX8_takesIndex_70
      refine sm_lload_n (i := 2) (j := 0) (pc' := 58) dX8_takesIndex_57 rfl rfl rfl ?_
      refine sm_ldc2 (v := (2147483647 : Int64)) (pc' := 61) dX8_takesIndex_58 rfl mw55 ?_
      refine sm_lcmp (pc' := 62) dX8_takesIndex_61 rfl ?_
      refine sm_if_gt (tgt := 69) (pc' := 65) dX8_takesIndex_62 (by decide) rfl ?_ ?_
      · refine sm_iconst (v := (0 : Int32)) (pc' := 70) dX8_takesIndex_69 rfl (by decide) ?_
        exact sm_zret0 rfl dX8_takesIndex_70
      refine sm_iconst (v := (1 : Int32)) (pc' := 66) dX8_takesIndex_65 rfl (by decide) ?_
      refine sm_goto (pc' := 70) dX8_takesIndex_66 (by decide) ?_
      exact sm_zret1 rfl dX8_takesIndex_70
    refine sm_lload_n (i := 2) (j := 0) (pc' := 38) dX8_takesIndex_37 rfl rfl rfl ?_
    refine sm_lconst (v := (0 : Int64)) (pc' := 39) dX8_takesIndex_38 rfl (by decide) ?_
    refine sm_lcmp (pc' := 40) dX8_takesIndex_39 rfl ?_
    refine sm_if_ne (tgt := 47) (pc' := 43) dX8_takesIndex_40 (by decide) rfl ?_ ?_
    · refine sm_iconst (v := (0 : Int32)) (pc' := 48) dX8_takesIndex_47 rfl (by decide) ?_
      refine sm_goto (pc' := 70) dX8_takesIndex_48 (by decide) ?_
      exact sm_zret0 rfl dX8_takesIndex_70
    refine sm_iconst (v := (1 : Int32)) (pc' := 44) dX8_takesIndex_43 rfl (by decide) ?_
    refine sm_goto (pc' := 70) dX8_takesIndex_44 (by decide) ?_
    exact sm_zret1 rfl dX8_takesIndex_70
  refine sm_iconst (v := (0 : Int32)) (pc' := 17) dX8_takesIndex_16 rfl (by decide) ?_
  exact sm_zret0 rfl dX8_takesIndex_17
set_option maxRecDepth 100000 in
theorem mX8_takesIndex (l : Launch) (D : va_G) (aC : Nat → ClassId) (B : Nat) (a0 : Nat) (a1 : Option Nat) (h : sm_H) : sm_M l D vwCl gAts aC B gTs gNs gOs yX8_takesIndex cX8_takesIndex 4 (some .boolean) 1 21 vlI [vR (some a0), vR a1] h (fX8_takesIndex a0 a1 h) := sm_meth [vR (some a0), vR a1] yY_yX8_takesIndex gG gN (Nat.le_of_ble_eq_true rfl) rfl (sX8_takesIndex_0 l D aC B a0 a1 h)
