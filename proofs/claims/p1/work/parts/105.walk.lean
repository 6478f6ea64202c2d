-- M:TreeAgent$Reply.pairContent(LTreeAgent$Chain;LTreeAgent$Value;)I
noncomputable def fX6_pairContent  (a0 : Option Nat) (a1 : Option Nat) (h : sm_H) : Option (Int32 × sm_H) :=
  sm_cb (fX6_nameContent a0 h) fun x1 h2 =>
  sm_cb (fX6_fieldSize x1 h2) fun x3 h4 =>
  sm_cb (fX6_valueContent a1 h4) fun x5 h6 =>
  sm_cb (fX6_fieldSize x5 h6) fun x7 h8 =>
  some (x3 + x7, h8)
set_option maxRecDepth 100000 in
set_option maxHeartbeats 4000000 in
theorem sX6_pairContent_0 (l : Launch) (D : va_G) (aC : Nat → ClassId) (B : Nat)   (a0 : Option Nat) (a1 : Option Nat) (h : sm_H) : zS l D aC B cX6_pairContent 2 RX6 3 64 (some .int) "pairContent" vlI (fX6_pairContent a0 a1 h) 0 [(0, vR a0), (1, vR a1)] [] h := by
  unfold fX6_pairContent
  refine sm_aload_n (i := 0) (j := 0) (pc' := 1) dX6_pairContent_0 rfl rfl rfl ?_
  refine sm_cSI (pc' := 4) (st := []) [vR a0] yY_yX6_nameContent mw292 mw293 (mX6_nameContent l D aC B a0 h) rfl (by decide) (by decide) (by exact Nat.le_of_ble_eq_true rfl) rfl dX6_pairContent_1 rfl (fun x1 h2 => ?_)
  refine sm_cSI (pc' := 7) (st := []) [vI x1] yY_yX6_fieldSize mw294 mw296 (mX6_fieldSize l D aC B x1 h2) rfl (by decide) (by decide) (by exact Nat.le_of_ble_eq_true rfl) rfl dX6_pairContent_4 rfl (fun x3 h4 => ?_)
  refine sm_aload_n (i := 1) (j := 1) (pc' := 8) dX6_pairContent_7 rfl rfl rfl ?_
  refine sm_cSI (pc' := 11) (st := [vI x3]) [vR a1] yY_yX6_valueContent mw295 mw297 (mX6_valueContent l D aC B a1 h4) rfl (by decide) (by decide) (by exact Nat.le_of_ble_eq_true rfl) rfl dX6_pairContent_8 rfl (fun x5 h6 => ?_)
  refine sm_cSI (pc' := 14) (st := [vI x3]) [vI x5] yY_yX6_fieldSize mw294 mw296 (mX6_fieldSize l D aC B x5 h6) rfl (by decide) (by decide) (by exact Nat.le_of_ble_eq_true rfl) rfl dX6_pairContent_11 rfl (fun x7 h8 => ?_)
  refine sm_iadd (pc' := 15) dX6_pairContent_14 rfl ?_
  exact sm_iret rfl dX6_pairContent_15
set_option maxRecDepth 100000 in
theorem mX6_pairContent (l : Launch) (D : va_G) (aC : Nat → ClassId) (B : Nat) (a0 : Option Nat) (a1 : Option Nat) (h : sm_H) : sm_M l D vwCl gAts aC B gTs gNs gOs yX6_pairContent cX6_pairContent 2 (some .int) 3 64 vlI [vR a0, vR a1] h (fX6_pairContent a0 a1 h) := sm_meth [vR a0, vR a1] yY_yX6_pairContent gG gN (Nat.le_of_ble_eq_true rfl) rfl (sX6_pairContent_0 l D aC B a0 a1 h)
-- M:TreeAgent$Reply.tell(LTreeAgent$Chain;LTreeAgent$Value;)V
noncomputable def fX6_tell_32  (a0 : Nat) (a1 : Option Nat) (a2 : Option Nat) (s0 : Option Nat) (h : sm_H) : Option (Unit × sm_H) :=
  if s0 = none then (
    some ((), h)
  ) else
  (sm_R (sm_get h s0 4 0)).bind fun x1 =>
  (sm_obj h x1 0).bind fun b12 =>
  sm_cb (fX0_copy b12 a1 h) fun _ h2 =>
  (sm_put h2 s0 4 1 (sm_v (vR a2))).bind fun h3 =>
  (sm_I (sm_get h3 (some a0) 6 2)).bind fun x4 =>
  (sm_put h3 (some a0) 6 2 (sm_v (vI (x4 + (1 : Int32))))).bind fun h5 =>
  (sm_I (sm_get h5 (some a0) 6 3)).bind fun x6 =>
  sm_cb (fX6_pairContent a1 a2 h5) fun x7 h8 =>
  sm_cb (fX6_fieldSize x7 h8) fun x9 h10 =>
  (sm_put h10 (some a0) 6 3 (sm_v (vI (x6 + x9)))).bind fun h11 =>
  some ((), h11)
set_option maxRecDepth 100000 in
set_option maxHeartbeats 4000000 in
theorem sX6_tell_32 (l : Launch) (D : va_G) (aC : Nat → ClassId) (B : Nat)   (a0 : Nat) (a1 : Option Nat) (a2 : Option Nat) (s0 : Option Nat) (h : sm_H) : zS l D aC B cX6_tell 4 RX6 4 85 none "tell" vlU (fX6_tell_32 a0 a1 a2 s0 h) 32 [(0, vR (some a0)), (1, vR a1), (2, vR a2)] [vR s0] h := by
  unfold fX6_tell_32
  refine sm_astore_n (i := 3) (lv' := [(3, vR s0), (0, vR (some a0)), (1, vR a1), (2, vR a2)]) (pc' := 33) dX6_tell_32 rfl rfl (by decide) rfl ?_
  refine sm_aload_n (i := 3) (j := 0) (pc' := 34) dX6_tell_33 rfl rfl rfl ?_
  refine sm_ifnull (tgt := 77) (pc' := 37) dX6_tell_34 (by decide) rfl ?_ ?_
  · exact sm_vret rfl dX6_tell_77
  refine sm_aload_n (i := 3) (j := 0) (pc' := 38) dX6_tell_37 rfl rfl rfl ?_
  refine sm_getRN (k := 0) (pc' := 41) kX4 (by decide) mw298 dX6_tell_38 rfl (fun x1 => ?_)
  refine sm_aload_n (i := 1) (j := 2) (pc' := 42) dX6_tell_41 rfl rfl rfl ?_
  refine sm_cVU (pc' := 45) (ci := 0) (st := []) (F := fun b => fX0_copy b a1 h) [vR a1] yY_yX0_copy rfl mw299 mw142 mw143 (fun b => mX0_copy l D aC B b a1 h) rfl (by decide) (by decide) (by exact Nat.le_of_ble_eq_true rfl) rfl dX6_tell_42 rfl (fun _ h2 => ?_)
  refine sm_aload_n (i := 3) (j := 0) (pc' := 46) dX6_tell_45 rfl rfl rfl ?_
  refine sm_aload_n (i := 2) (j := 3) (pc' := 47) dX6_tell_46 rfl rfl rfl ?_
  refine sm_putNR (k := 1) (pc' := 50) kX4 (by decide) mw300 rfl (Or.inl ⟨_, rfl⟩) dX6_tell_47 rfl (fun h3 => ?_)
  refine sm_aload_n (i := 0) (j := 1) (pc' := 51) dX6_tell_50 rfl rfl rfl ?_
  refine sm_dup (pc' := 52) rfl dX6_tell_51 rfl ?_
  refine sm_getI (k := 2) (pc' := 55) kX6 (by decide) mw275 dX6_tell_52 rfl (fun x4 => ?_)
  refine sm_iconst (v := (1 : Int32)) (pc' := 56) dX6_tell_55 rfl (by decide) ?_
  refine sm_iadd (pc' := 57) dX6_tell_56 rfl ?_
  refine sm_putI (k := 2) (pc' := 60) kX6 (by decide) mw275 rfl rfl dX6_tell_57 rfl (fun h5 => ?_)
  refine sm_aload_n (i := 0) (j := 1) (pc' := 61) dX6_tell_60 rfl rfl rfl ?_
  refine sm_dup (pc' := 62) rfl dX6_tell_61 rfl ?_
  refine sm_getI (k := 3) (pc' := 65) kX6 (by decide) mw276 dX6_tell_62 rfl (fun x6 => ?_)
  refine sm_aload_n (i := 1) (j := 2) (pc' := 66) dX6_tell_65 rfl rfl rfl ?_
  refine sm_aload_n (i := 2) (j := 3) (pc' := 67) dX6_tell_66 rfl rfl rfl ?_
  refine sm_cSI (pc' := 70) (st := [vI x6, vR (some a0)]) [vR a1, vR a2] yY_yX6_pairContent mw301 mw302 (mX6_pairContent l D aC B a1 a2 h5) rfl (by decide) (by decide) (by exact Nat.le_of_ble_eq_true rfl) rfl dX6_tell_67 rfl (fun x7 h8 => ?_)
  refine sm_cSI (pc' := 73) (st := [vI x6, vR (some a0)]) [vI x7] yY_yX6_fieldSize mw294 mw296 (mX6_fieldSize l D aC B x7 h8) rfl (by decide) (by decide) (by exact Nat.le_of_ble_eq_true rfl) rfl dX6_tell_70 rfl (fun x9 h10 => ?_)
  refine sm_iadd (pc' := 74) dX6_tell_73 rfl ?_
  refine sm_putI (k := 3) (pc' := 77) kX6 (by decide) mw276 rfl rfl dX6_tell_74 rfl (fun h11 => ?_)
  exact sm_vret rfl dX6_tell_77
noncomputable def fX6_tell  (a0 : Nat) (a1 : Option Nat) (a2 : Option Nat) (h : sm_H) : Option (Unit × sm_H) :=
  (sm_I (sm_get h (some a0) 6 2)).bind fun x1 =>
  if x1 < 0 then (
    fX6_tell_32 a0 a1 a2 none h
  ) else
  (sm_I (sm_get h (some a0) 6 2)).bind fun x2 =>
  (sm_R (sm_get h (some a0) 6 1)).bind fun x3 =>
  (sm_len h x3 7).bind fun x4 =>
  if x4 ≤ x2 then (
    fX6_tell_32 a0 a1 a2 none h
  ) else
  (sm_R (sm_get h (some a0) 6 1)).bind fun x5 =>
  (sm_I (sm_get h (some a0) 6 2)).bind fun x6 =>
  (sm_aR h x5 7 x6).bind fun x7 =>
  fX6_tell_32 a0 a1 a2 x7 h
set_option maxRecDepth 100000 in
set_option maxHeartbeats 4000000 in
theorem sX6_tell_0 (l : Launch) (D : va_G) (aC : Nat → ClassId) (B : Nat)   (a0 : Nat) (a1 : Option Nat) (a2 : Option Nat) (h : sm_H) : zS l D aC B cX6_tell 4 RX6 4 85 none "tell" vlU (fX6_tell a0 a1 a2 h) 0 [(0, vR (some a0)), (1, vR a1), (2, vR a2)] [] h := by
  unfold fX6_tell
  refine sm_aload_n (i := 0) (j := 0) (pc' := 1) dX6_tell_0 rfl rfl rfl ?_
  refine sm_getI (k := 2) (pc' := 4) kX6 (by decide) mw275 dX6_tell_1 rfl (fun x1 => ?_)
  refine sm_if_lt (tgt := 31) (pc' := 7) dX6_tell_4 (by decide) rfl ?_ ?_
  · refine sm_null (pc' := 32) dX6_tell_31 rfl ?_
    exact sX6_tell_32 l D aC B  a0 a1 a2 none h
  refine sm_aload_n (i := 0) (j := 0) (pc' := 8) dX6_tell_7 rfl rfl rfl ?_
  refine sm_getI (k := 2) (pc' := 11) kX6 (by decide) mw275 dX6_tell_8 rfl (fun x2 => ?_)
  refine sm_aload_n (i := 0) (j := 0) (pc' := 12) dX6_tell_11 rfl rfl rfl ?_
  refine sm_getR (k := 1) (pc' := 15) kX6 (by decide) mw265 dX6_tell_12 rfl (fun x3 => ?_)
  refine sm_alen (t := 7) (pc' := 16) rfl dX6_tell_15 rfl (fun x4 => ?_)
  refine sm_icmp_ge (tgt := 31) (pc' := 19) dX6_tell_16 (by decide) rfl ?_ ?_
  · refine sm_null (pc' := 32) dX6_tell_31 rfl ?_
    exact sX6_tell_32 l D aC B  a0 a1 a2 none h
  refine sm_aload_n (i := 0) (j := 0) (pc' := 20) dX6_tell_19 rfl rfl rfl ?_
  refine sm_getR (k := 1) (pc' := 23) kX6 (by decide) mw265 dX6_tell_20 rfl (fun x5 => ?_)
  refine sm_aload_n (i := 0) (j := 0) (pc' := 24) dX6_tell_23 rfl rfl rfl ?_
  refine sm_getI (k := 2) (pc' := 27) kX6 (by decide) mw275 dX6_tell_24 rfl (fun x6 => ?_)
  refine sm_aald (t := 7) (pc' := 28) rfl dX6_tell_27 rfl (fun x7 => ?_)
  refine sm_goto (pc' := 32) dX6_tell_28 (by decide) ?_
  exact sX6_tell_32 l D aC B  a0 a1 a2 x7 h
set_option maxRecDepth 100000 in
theorem mX6_tell (l : Launch) (D : va_G) (aC : Nat → ClassId) (B : Nat) (a0 : Nat) (a1 : Option Nat) (a2 : Option Nat) (h : sm_H) : sm_M l D vwCl gAts aC B gTs gNs gOs yX6_tell cX6_tell 4 none 4 85 vlU [vR (some a0), vR a1, vR a2] h (fX6_tell a0 a1 a2 h) := sm_meth [vR (some a0), vR a1, vR a2] yY_yX6_tell gG gN (Nat.le_of_ble_eq_true rfl) rfl (sX6_tell_0 l D aC B a0 a1 a2 h)
-- M:TreeAgent$Reply.tellAsked(LTreeAgent$Message;)V
noncomputable def fX6_tellAsked_2  : Nat → Nat → Option Nat → Int32 → sm_H → Option (Unit × sm_H)
  | 0 => fun _ _ _ _ => none
  | n + 1 => fun a0 a1 a2 h =>
    (sm_I (sm_get h a1 3 8)).bind fun x1 =>
    if x1 ≤ a2 then (
      some ((), h)
    ) else
    (sm_obj h a1 3).bind fun b10 =>
    sm_cb (fX3_pairAt b10 a2 h) fun x2 h3 =>
    if x2 = none then (
      sm_let (a2 + (1 : Int32)) fun x4 =>
      (fX6_tellAsked_2 n) a0 a1 x4 h3
    ) else
    (sm_R (sm_get h3 x2 4 0)).bind fun x5 =>
    (sm_R (sm_get h3 x2 4 1)).bind fun x6 =>
    (sm_obj h3 (some a0) 6).bind fun b9 =>
    sm_cb (fX6_tell b9 x5 x6 h3) fun _ h7 =>
    sm_let (a2 + (1 : Int32)) fun x8 =>
    (fX6_tellAsked_2 n) a0 a1 x8 h7
set_option maxRecDepth 100000 in
set_option maxHeartbeats 4000000 in
theorem sX6_tellAsked_2 (l : Launch) (D : va_G) (aC : Nat → ClassId) (B : Nat)   (n : Nat) : ∀ (a0 : Nat) (a1 : Option Nat) (a2 : Int32) (h : sm_H), zS l D aC B cX6_tellAsked 4 RX6 5 108 none "tellAsked" vlU (fX6_tellAsked_2 n a0 a1 a2 h) 2 [(0, vR (some a0)), (1, vR a1), (2, vI a2)] [] h := by
  induction n with
  | zero => intro a0 a1 a2 h; exact sm_none
  | succ n ih =>
    intro a0 a1 a2 h
    show zS l D aC B cX6_tellAsked 4 RX6 5 108 none "tellAsked" vlU (fX6_tellAsked_2 (n + 1) a0 a1 a2 h) 2 [(0, vR (some a0)), (1, vR a1), (2, vI a2)] [] h
    unfold fX6_tellAsked_2
    refine sm_iload_n (i := 2) (j := 2) (pc' := 3) dX6_tellAsked_2 rfl rfl rfl ?_
    refine sm_aload_n (i := 1) (j := 1) (pc' := 4) dX6_tellAsked_3 rfl rfl rfl ?_
    refine sm_getIN (k := 8) (pc' := 7) kX3 (by decide) mw303 dX6_tellAsked_4 rfl (fun x1 => ?_)
    refine sm_icmp_ge (tgt := 38) (pc' := 10) dX6_tellAsked_7 (by decide) rfl ?_ ?_
    · exact sm_vret rfl dX6_tellAsked_38
    refine sm_aload_n (i := 1) (j := 1) (pc' := 11) dX6_tellAsked_10 rfl rfl rfl ?_
    refine sm_iload_n (i := 2) (j := 2) (pc' := 12) dX6_tellAsked_11 rfl rfl rfl ?_
    refine sm_cVR (pc' := 15) (ci := 3) (st := []) (F := fun b => fX3_pairAt b a2 h) [vI a2] yY_yX3_pairAt rfl mw304 mw78 mw79 (fun b => mX3_pairAt l D aC B b a2 h) rfl (by decide) (by decide) (by exact Nat.le_of_ble_eq_true rfl) rfl dX6_tellAsked_12 rfl (fun x2 h3 => ?_)
    refine sm_astore_n (i := 3) (lv' := [(3, vR x2), (0, vR (some a0)), (1, vR a1), (2, vI a2)]) (pc' := 16) dX6_tellAsked_15 rfl rfl (by decide) rfl ?_
    refine sm_aload_n (i := 3) (j := 0) (pc' := 17) dX6_tellAsked_16 rfl rfl rfl ?_
    refine sm_ifnull (tgt := 32) (pc' := 20) dX6_tellAsked_17 (by decide) rfl ?_ ?_
    · refine sm_iincL (i := 2) (j := 3) (x := a2) (d := (1 : Int32)) (fun x4 => [(2, vI x4), (3, vR x2), (0, vR (some a0)), (1, vR a1)]) (pc' := 35) dX6_tellAsked_32 rfl rfl (by decide) (by decide) (fun _ => rfl) (fun x4 => ?_)
      refine sm_goto (pc' := 2) dX6_tellAsked_35 (by decide) ?_
      refine sm_lo (lv' := [(0, vR (some a0)), (1, vR a1), (2, vI x4)]) [2, 3, 0] rfl ?_
      exact ih a0 a1 x4 h3
    refine sm_aload_n (i := 0) (j := 1) (pc' := 21) dX6_tellAsked_20 rfl rfl rfl ?_
    refine sm_aload_n (i := 3) (j := 0) (pc' := 22) dX6_tellAsked_21 rfl rfl rfl ?_
    refine sm_getRN (k := 0) (pc' := 25) kX4 (by decide) mw298 dX6_tellAsked_22 rfl (fun x5 => ?_)
    refine sm_aload_n (i := 3) (j := 0) (pc' := 26) dX6_tellAsked_25 rfl rfl rfl ?_
    refine sm_getRN (k := 1) (pc' := 29) kX4 (by decide) mw300 dX6_tellAsked_26 rfl (fun x6 => ?_)
    refine sm_cVU (pc' := 32) (ci := 6) (st := []) (F := fun b => fX6_tell b x5 x6 h3) [vR x5, vR x6] yY_yX6_tell rfl mw305 mw306 mw307 (fun b => mX6_tell l D aC B b x5 x6 h3) rfl (by decide) (by decide) (by exact Nat.le_of_ble_eq_true rfl) rfl dX6_tellAsked_29 rfl (fun _ h7 => ?_)
    refine sm_iincL (i := 2) (j := 3) (x := a2) (d := (1 : Int32)) (fun x8 => [(2, vI x8), (3, vR x2), (0, vR (some a0)), (1, vR a1)]) (pc' := 35) dX6_tellAsked_32 rfl rfl (by decide) (by decide) (fun _ => rfl) (fun x8 => ?_)
    refine sm_goto (pc' := 2) dX6_tellAsked_35 (by decide) ?_
    refine sm_lo (lv' := [(0, vR (some a0)), (1, vR a1), (2, vI x8)]) [2, 3, 0] rfl ?_
    exact ih a0 a1 x8 h7
noncomputable def fX6_tellAsked  (a0 : Nat) (a1 : Option Nat) (h : sm_H) : Option (Unit × sm_H) :=
  fX6_tellAsked_2 sm_fuel a0 a1 (0 : Int32) h
set_option maxRecDepth 100000 in
set_option maxHeartbeats 4000000 in
theorem sX6_tellAsked_0 (l : Launch) (D : va_G) (aC : Nat → ClassId) (B : Nat)   (a0 : Nat) (a1 : Option Nat) (h : sm_H) : zS l D aC B cX6_tellAsked 4 RX6 5 108 none "tellAsked" vlU (fX6_tellAsked a0 a1 h) 0 [(0, vR (some a0)), (1, vR a1)] [] h := by
  unfold fX6_tellAsked
  refine sm_iconst (v := (0 : Int32)) (pc' := 1) dX6_tellAsked_0 rfl (by decide) ?_
  refine sm_istore_n (i := 2) (lv' := [(2, vI (0 : Int32)), (0, vR (some a0)), (1, vR a1)]) (pc' := 2) dX6_tellAsked_1 rfl rfl (by decide) rfl ?_
  refine sm_lo (lv' := [(0, vR (some a0)), (1, vR a1), (2, vI (0 : Int32))]) [1, 2, 0] rfl ?_
  exact sX6_tellAsked_2 l D aC B   sm_fuel a0 a1 (0 : Int32) h
set_option maxRecDepth 100000 in
theorem mX6_tellAsked (l : Launch) (D : va_G) (aC : Nat → ClassId) (B : Nat) (a0 : Nat) (a1 : Option Nat) (h : sm_H) : sm_M l D vwCl gAts aC B gTs gNs gOs yX6_tellAsked cX6_tellAsked 4 none 5 108 vlU [vR (some a0), vR a1] h (fX6_tellAsked a0 a1 h) := sm_meth [vR (some a0), vR a1] yY_yX6_tellAsked gG gN (Nat.le_of_ble_eq_true rfl) rfl (sX6_tellAsked_0 l D aC B a0 a1 h)
-- M:TreeAgent$Reply.integerSize(I)I
noncomputable def fX6_integerSize  (a0 : Int32) (h : sm_H) : Option (Int32 × sm_H) :=
  sm_cb (fX6_numberContent (a0.toInt64) h) fun x1 h2 =>
  sm_cb (fX6_fieldSize x1 h2) fun x3 h4 =>
  some (x3, h4)
set_option maxRecDepth 100000 in
set_option maxHeartbeats 4000000 in
theorem sX6_integerSize_0 (l : Launch) (D : va_G) (aC : Nat → ClassId) (B : Nat)   (a0 : Int32) (h : sm_H) : zS l D aC B cX6_integerSize 1 RX6 1 24 (some .int) "integerSize" vlI (fX6_integerSize a0 h) 0 [(0, vI a0)] [] h := by
  unfold fX6_integerSize
  refine sm_iload_n (i := 0) (j := 0) (pc' := 1) dX6_integerSize_0 rfl rfl rfl ?_
  refine sm_i2l (pc' := 2) dX6_integerSize_1 rfl ?_
  refine sm_cSI (pc' := 5) (st := []) [vJ (a0.toInt64)] yY_yX6_numberContent mw289 mw290 (mX6_numberContent l D aC B (a0.toInt64) h) rfl (by decide) (by decide) (by exact Nat.le_of_ble_eq_true rfl) rfl dX6_integerSize_2 rfl (fun x1 h2 => ?_)
  refine sm_cSI (pc' := 8) (st := []) [vI x1] yY_yX6_fieldSize mw294 mw296 (mX6_fieldSize l D aC B x1 h2) rfl (by decide) (by decide) (by exact Nat.le_of_ble_eq_true rfl) rfl dX6_integerSize_5 rfl (fun x3 h4 => ?_)
  exact sm_iret rfl dX6_integerSize_8
set_option maxRecDepth 100000 in
theorem mX6_integerSize (l : Launch) (D : va_G) (aC : Nat → ClassId) (B : Nat) (a0 : Int32) (h : sm_H) : sm_M l D vwCl gAts aC B gTs gNs gOs yX6_integerSize cX6_integerSize 1 (some .int) 1 24 vlI [vI a0] h (fX6_integerSize a0 h) := sm_meth [vI a0] yY_yX6_integerSize gG gN (Nat.le_of_ble_eq_true rfl) rfl (sX6_integerSize_0 l D aC B a0 h)
-- M:TreeAgent$Reply.innerContent(LTreeAgent$Message;I)I
noncomputable def fX6_innerContent  (a0 : Nat) (a1 : Option Nat) (a2 : Int32) (h : sm_H) : Option (Int32 × sm_H) :=
  (sm_I (sm_get h a1 3 5)).bind fun x1 =>
  sm_cb (fX6_integerSize x1 h) fun x2 h3 =>
  (sm_I (sm_get h3 (some a0) 6 4)).bind fun x4 =>
  sm_cb (fX6_integerSize x4 h3) fun x5 h6 =>
  (sm_I (sm_get h6 (some a0) 6 5)).bind fun x7 =>
  sm_cb (fX6_integerSize x7 h6) fun x8 h9 =>
  sm_let ((x2 + x5) + x8) fun x10 =>
  sm_cb (fX6_fieldSize a2 h9) fun x11 h12 =>
  some (x10 + x11, h12)
set_option maxRecDepth 100000 in
set_option maxHeartbeats 4000000 in
theorem sX6_innerContent_0 (l : Launch) (D : va_G) (aC : Nat → ClassId) (B : Nat)   (a0 : Nat) (a1 : Option Nat) (a2 : Int32) (h : sm_H) : zS l D aC B cX6_innerContent 4 RX6 2 44 (some .int) "innerContent" vlI (fX6_innerContent a0 a1 a2 h) 0 [(0, vR (some a0)), (1, vR a1), (2, vI a2)] [] h := by
  unfold fX6_innerContent
  refine sm_aload_n (i := 1) (j := 1) (pc' := 1) dX6_innerContent_0 rfl rfl rfl ?_
  refine sm_getIN (k := 5) (pc' := 4) kX3 (by decide) mw308 dX6_innerContent_1 rfl (fun x1 => ?_)
  refine sm_cSI (pc' := 7) (st := []) [vI x1] yY_yX6_integerSize mw309 mw310 (mX6_integerSize l D aC B x1 h) rfl (by decide) (by decide) (by exact Nat.le_of_ble_eq_true rfl) rfl dX6_innerContent_4 rfl (fun x2 h3 => ?_)
  refine sm_aload_n (i := 0) (j := 0) (pc' := 8) dX6_innerContent_7 rfl rfl rfl ?_
  refine sm_getI (k := 4) (pc' := 11) kX6 (by decide) mw274 dX6_innerContent_8 rfl (fun x4 => ?_)
  refine sm_cSI (pc' := 14) (st := [vI x2]) [vI x4] yY_yX6_integerSize mw309 mw310 (mX6_integerSize l D aC B x4 h3) rfl (by decide) (by decide) (by exact Nat.le_of_ble_eq_true rfl) rfl dX6_innerContent_11 rfl (fun x5 h6 => ?_)
  refine sm_iadd (pc' := 15) dX6_innerContent_14 rfl ?_
  refine sm_aload_n (i := 0) (j := 0) (pc' := 16) dX6_innerContent_15 rfl rfl rfl ?_
  refine sm_getI (k := 5) (pc' := 19) kX6 (by decide) mw277 dX6_innerContent_16 rfl (fun x7 => ?_)
  refine sm_cSI (pc' := 22) (st := [vI (x2 + x5)]) [vI x7] yY_yX6_integerSize mw309 mw310 (mX6_integerSize l D aC B x7 h6) rfl (by decide) (by decide) (by exact Nat.le_of_ble_eq_true rfl) rfl dX6_innerContent_19 rfl (fun x8 h9 => ?_)
  refine sm_iadd (pc' := 23) dX6_innerContent_22 rfl ?_
  refine sm_letIv (fun x10 => ?_)
  refine sm_istore_n (i := 3) (lv' := [(3, vI x10), (0, vR (some a0)), (1, vR a1), (2, vI a2)]) (pc' := 24) dX6_innerContent_23 rfl rfl (by decide) rfl ?_
  refine sm_iload_n (i := 3) (j := 0) (pc' := 25) dX6_innerContent_24 rfl rfl rfl ?_
  refine sm_iload_n (i := 2) (j := 3) (pc' := 26) dX6_innerContent_25 rfl rfl rfl ?_
  refine sm_cSI (pc' := 29) (st := [vI x10]) [vI a2] yY_yX6_fieldSize mw294 mw296 (mX6_fieldSize l D aC B a2 h9) rfl (by decide) (by decide) (by exact Nat.le_of_ble_eq_true rfl) rfl dX6_innerContent_26 rfl (fun x11 h12 => ?_)
  refine sm_iadd (pc' := 30) dX6_innerContent_29 rfl ?_
  exact sm_iret rfl dX6_innerContent_30
set_option maxRecDepth 100000 in
theorem mX6_innerContent (l : Launch) (D : va_G) (aC : Nat → ClassId) (B : Nat) (a0 : Nat) (a1 : Option Nat) (a2 : Int32) (h : sm_H) : sm_M l D vwCl gAts aC B gTs gNs gOs yX6_innerContent cX6_innerContent 4 (some .int) 2 44 vlI [vR (some a0), vR a1, vI a2] h (fX6_innerContent a0 a1 a2 h) := sm_meth [vR (some a0), vR a1, vI a2] yY_yX6_innerContent gG gN (Nat.le_of_ble_eq_true rfl) rfl (sX6_innerContent_0 l D aC B a0 a1 a2 h)
-- M:TreeAgent$Reply.outerContent(LTreeAgent$Message;I)I
noncomputable def fX6_outerContent  (a0 : Nat) (a1 : Option Nat) (a2 : Int32) (h : sm_H) : Option (Int32 × sm_H) :=
  (sm_I (sm_get h a1 3 3)).bind fun x1 =>
  sm_cb (fX6_integerSize x1 h) fun x2 h3 =>
  (sm_R (sm_get h3 a1 3 0)).bind fun x4 =>
  (sm_obj h3 x4 0).bind fun b15 =>
  sm_cb (fX0_size b15 h3) fun x5 h6 =>
  sm_cb (fX6_fieldSize x5 h6) fun x7 h8 =>
  sm_let (x2 + x7) fun x9 =>
  (sm_obj h8 (some a0) 6).bind fun b14 =>
  sm_cb (fX6_innerContent b14 a1 a2 h8) fun x10 h11 =>
  sm_cb (fX6_fieldSize x10 h11) fun x12 h13 =>
  some (x9 + x12, h13)
set_option maxRecDepth 100000 in
set_option maxHeartbeats 4000000 in
theorem sX6_outerContent_0 (l : Launch) (D : va_G) (aC : Nat → ClassId) (B : Nat)   (a0 : Nat) (a1 : Option Nat) (a2 : Int32) (h : sm_H) : zS l D aC B cX6_outerContent 4 RX6 3 67 (some .int) "outerContent" vlI (fX6_outerContent a0 a1 a2 h) 0 [(0, vR (some a0)), (1, vR a1), (2, vI a2)] [] h := by
  unfold fX6_outerContent
  refine sm_aload_n (i := 1) (j := 1) (pc' := 1) dX6_outerContent_0 rfl rfl rfl ?_
  refine sm_getIN (k := 3) (pc' := 4) kX3 (by decide) mw311 dX6_outerContent_1 rfl (fun x1 => ?_)
  refine sm_cSI (pc' := 7) (st := []) [vI x1] yY_yX6_integerSize mw309 mw310 (mX6_integerSize l D aC B x1 h) rfl (by decide) (by decide) (by exact Nat.le_of_ble_eq_true rfl) rfl dX6_outerContent_4 rfl (fun x2 h3 => ?_)
  refine sm_aload_n (i := 1) (j := 1) (pc' := 8) dX6_outerContent_7 rfl rfl rfl ?_
  refine sm_getRN (k := 0) (pc' := 11) kX3 (by decide) mw312 dX6_outerContent_8 rfl (fun x4 => ?_)
  refine sm_cVI (pc' := 14) (ci := 0) (st := [vI x2]) (F := fun b => fX0_size b h3) [] yY_yX0_size rfl mw282 mw32 mw33 (fun b => mX0_size l D aC B b h3) rfl (by decide) (by decide) (by exact Nat.le_of_ble_eq_true rfl) rfl dX6_outerContent_11 rfl (fun x5 h6 => ?_)
  refine sm_cSI (pc' := 17) (st := [vI x2]) [vI x5] yY_yX6_fieldSize mw294 mw296 (mX6_fieldSize l D aC B x5 h6) rfl (by decide) (by decide) (by exact Nat.le_of_ble_eq_true rfl) rfl dX6_outerContent_14 rfl (fun x7 h8 => ?_)
  refine sm_iadd (pc' := 18) dX6_outerContent_17 rfl ?_
  refine sm_letIv (fun x9 => ?_)
  refine sm_istore_n (i := 3) (lv' := [(3, vI x9), (0, vR (some a0)), (1, vR a1), (2, vI a2)]) (pc' := 19) dX6_outerContent_18 rfl rfl (by decide) rfl ?_
  refine sm_iload_n (i := 3) (j := 0) (pc' := 20) dX6_outerContent_19 rfl rfl rfl ?_
  refine sm_aload_n (i := 0) (j := 1) (pc' := 21) dX6_outerContent_20 rfl rfl rfl ?_
  refine sm_aload_n (i := 1) (j := 2) (pc' := 22) dX6_outerContent_21 rfl rfl rfl ?_
  refine sm_iload_n (i := 2) (j := 3) (pc' := 23) dX6_outerContent_22 rfl rfl rfl ?_
  refine sm_cVI (pc' := 26) (ci := 6) (st := [vI x9]) (F := fun b => fX6_innerContent b a1 a2 h8) [vR a1, vI a2] yY_yX6_innerContent rfl mw313 mw314 mw315 (fun b => mX6_innerContent l D aC B b a1 a2 h8) rfl (by decide) (by decide) (by exact Nat.le_of_ble_eq_true rfl) rfl dX6_outerContent_23 rfl (fun x10 h11 => ?_)
  refine sm_cSI (pc' := 29) (st := [vI x9]) [vI x10] yY_yX6_fieldSize mw294 mw296 (mX6_fieldSize l D aC B x10 h11) rfl (by decide) (by decide) (by exact Nat.le_of_ble_eq_true rfl) rfl dX6_outerContent_26 rfl (fun x12 h13 => ?_)
  refine sm_iadd (pc' := 30) dX6_outerContent_29 rfl ?_
  exact sm_iret rfl dX6_outerContent_30
set_option maxRecDepth 100000 in
theorem mX6_outerContent (l : Launch) (D : va_G) (aC : Nat → ClassId) (B : Nat) (a0 : Nat) (a1 : Option Nat) (a2 : Int32) (h : sm_H) : sm_M l D vwCl gAts aC B gTs gNs gOs yX6_outerContent cX6_outerContent 4 (some .int) 3 67 vlI [vR (some a0), vR a1, vI a2] h (fX6_outerContent a0 a1 a2 h) := sm_meth [vR (some a0), vR a1, vI a2] yY_yX6_outerContent gG gN (Nat.le_of_ble_eq_true rfl) rfl (sX6_outerContent_0 l D aC B a0 a1 a2 h)
-- M:TreeAgent$Reply.sizeFor(LTreeAgent$Message;)I
noncomputable def fX6_sizeFor  (a0 : Nat) (a1 : Option Nat) (h : sm_H) : Option (Int32 × sm_H) :=
  (sm_I (sm_get h (some a0) 6 3)).bind fun x1 =>
  (sm_obj h (some a0) 6).bind fun b6 =>
  sm_cb (fX6_outerContent b6 a1 x1 h) fun x2 h3 =>
  sm_cb (fX6_fieldSize x2 h3) fun x4 h5 =>
  some (x4, h5)
set_option maxRecDepth 100000 in
set_option maxHeartbeats 4000000 in
theorem sX6_sizeFor_0 (l : Launch) (D : va_G) (aC : Nat → ClassId) (B : Nat)   (a0 : Nat) (a1 : Option Nat) (h : sm_H) : zS l D aC B cX6_sizeFor 2 RX6 4 90 (some .int) "sizeFor" vlI (fX6_sizeFor a0 a1 h) 0 [(0, vR (some a0)), (1, vR a1)] [] h := by
  unfold fX6_sizeFor
  refine sm_aload_n (i := 0) (j := 0) (pc' := 1) dX6_sizeFor_0 rfl rfl rfl ?_
  refine sm_aload_n (i := 1) (j := 1) (pc' := 2) dX6_sizeFor_1 rfl rfl rfl ?_
  refine sm_aload_n (i := 0) (j := 0) (pc' := 3) dX6_sizeFor_2 rfl rfl rfl ?_
  refine sm_getI (k := 3) (pc' := 6) kX6 (by decide) mw276 dX6_sizeFor_3 rfl (fun x1 => ?_)
  refine sm_cVI (pc' := 9) (ci := 6) (st := []) (F := fun b => fX6_outerContent b a1 x1 h) [vR a1, vI x1] yY_yX6_outerContent rfl mw316 mw317 mw318 (fun b => mX6_outerContent l D aC B b a1 x1 h) rfl (by decide) (by decide) (by exact Nat.le_of_ble_eq_true rfl) rfl dX6_sizeFor_6 rfl (fun x2 h3 => ?_)
  refine sm_cSI (pc' := 12) (st := []) [vI x2] yY_yX6_fieldSize mw294 mw296 (mX6_fieldSize l D aC B x2 h3) rfl (by decide) (by decide) (by exact Nat.le_of_ble_eq_true rfl) rfl dX6_sizeFor_9 rfl (fun x4 h5 => ?_)
  exact sm_iret rfl dX6_sizeFor_12
set_option maxRecDepth 100000 in
theorem mX6_sizeFor (l : Launch) (D : va_G) (aC : Nat → ClassId) (B : Nat) (a0 : Nat) (a1 : Option Nat) (h : sm_H) : sm_M l D vwCl gAts aC B gTs gNs gOs yX6_sizeFor cX6_sizeFor 2 (some .int) 4 90 vlI [vR (some a0), vR a1] h (fX6_sizeFor a0 a1 h) := sm_meth [vR (some a0), vR a1] yY_yX6_sizeFor gG gN (Nat.le_of_ble_eq_true rfl) rfl (sX6_sizeFor_0 l D aC B a0 a1 h)
-- M:TreeAgent$Reply.sizeWith(LTreeAgent$Message;LTreeAgent$Chain;LTreeAgent$Value;)I
noncomputable def fX6_sizeWith  (a0 : Nat) (a1 : Option Nat) (a2 : Option Nat) (a3 : Option Nat) (h : sm_H) : Option (Int32 × sm_H) :=
  (sm_I (sm_get h (some a0) 6 3)).bind fun x1 =>
  sm_cb (fX6_pairContent a2 a3 h) fun x2 h3 =>
  sm_cb (fX6_fieldSize x2 h3) fun x4 h5 =>
  (sm_obj h5 (some a0) 6).bind fun b10 =>
  sm_cb (fX6_outerContent b10 a1 (x1 + x4) h5) fun x6 h7 =>
  sm_cb (fX6_fieldSize x6 h7) fun x8 h9 =>
  some (x8, h9)
set_option maxRecDepth 100000 in
set_option maxHeartbeats 4000000 in
theorem sX6_sizeWith_0 (l : Launch) (D : va_G) (aC : Nat → ClassId) (B : Nat)   (a0 : Nat) (a1 : Option Nat) (a2 : Option Nat) (a3 : Option Nat) (h : sm_H) : zS l D aC B cX6_sizeWith 4 RX6 4 90 (some .int) "sizeWith" vlI (fX6_sizeWith a0 a1 a2 a3 h) 0 [(0, vR (some a0)), (1, vR a1), (2, vR a2), (3, vR a3)] [] h := by
  unfold fX6_sizeWith
  refine sm_aload_n (i := 0) (j := 0) (pc' := 1) dX6_sizeWith_0 rfl rfl rfl ?_
  refine sm_aload_n (i := 1) (j := 1) (pc' := 2) dX6_sizeWith_1 rfl rfl rfl ?_
  refine sm_aload_n (i := 0) (j := 0) (pc' := 3) dX6_sizeWith_2 rfl rfl rfl ?_
  refine sm_getI (k := 3) (pc' := 6) kX6 (by decide) mw276 dX6_sizeWith_3 rfl (fun x1 => ?_)
  refine sm_aload_n (i := 2) (j := 2) (pc' := 7) dX6_sizeWith_6 rfl rfl rfl ?_
  refine sm_aload_n (i := 3) (j := 3) (pc' := 8) dX6_sizeWith_7 rfl rfl rfl ?_
  refine sm_cSI (pc' := 11) (st := [vI x1, vR a1, vR (some a0)]) [vR a2, vR a3] yY_yX6_pairContent mw301 mw302 (mX6_pairContent l D aC B a2 a3 h) rfl (by decide) (by decide) (by exact Nat.le_of_ble_eq_true rfl) rfl dX6_sizeWith_8 rfl (fun x2 h3 => ?_)
  refine sm_cSI (pc' := 14) (st := [vI x1, vR a1, vR (some a0)]) [vI x2] yY_yX6_fieldSize mw294 mw296 (mX6_fieldSize l D aC B x2 h3) rfl (by decide) (by decide) (by exact Nat.le_of_ble_eq_true rfl) rfl dX6_sizeWith_11 rfl (fun x4 h5 => ?_)
  refine sm_iadd (pc' := 15) dX6_sizeWith_14 rfl ?_
  refine sm_cVI (pc' := 18) (ci := 6) (st := []) (F := fun b => fX6_outerContent b a1 (x1 + x4) h5) [vR a1, vI (x1 + x4)] yY_yX6_outerContent rfl mw316 mw317 mw318 (fun b => mX6_outerContent l D aC B b a1 (x1 + x4) h5) rfl (by decide) (by decide) (by exact Nat.le_of_ble_eq_true rfl) rfl dX6_sizeWith_15 rfl (fun x6 h7 => ?_)
  refine sm_cSI (pc' := 21) (st := []) [vI x6] yY_yX6_fieldSize mw294 mw296 (mX6_fieldSize l D aC B x6 h7) rfl (by decide) (by decide) (by exact Nat.le_of_ble_eq_true rfl) rfl dX6_sizeWith_18 rfl (fun x8 h9 => ?_)
  exact sm_iret rfl dX6_sizeWith_21
set_option maxRecDepth 100000 in
theorem mX6_sizeWith (l : Launch) (D : va_G) (aC : Nat → ClassId) (B : Nat) (a0 : Nat) (a1 : Option Nat) (a2 : Option Nat) (a3 : Option Nat) (h : sm_H) : sm_M l D vwCl gAts aC B gTs gNs gOs yX6_sizeWith cX6_sizeWith 4 (some .int) 4 90 vlI [vR (some a0), vR a1, vR a2, vR a3] h (fX6_sizeWith a0 a1 a2 a3 h) := sm_meth [vR (some a0), vR a1, vR a2, vR a3] yY_yX6_sizeWith gG gN (Nat.le_of_ble_eq_true rfl) rfl (sX6_sizeWith_0 l D aC B a0 a1 a2 a3 h)
-- M:TreeAgent$Reply.putHead(II)V
noncomputable def fX6_putHead_65  (a0 : Nat) (a2 : Int32) (h : sm_H) : Option (Unit × sm_H) :=
  (sm_R (sm_get h (some a0) 6 0)).bind fun x1 =>
  (sm_obj h x1 0).bind fun b4 =>
  sm_cb (fX0_add b4 ((a2.toInt64) &&& (255 : Int64)) h) fun x2 h3 =>
  some ((), h3)
set_option maxRecDepth 100000 in
set_option maxHeartbeats 4000000 in
theorem sX6_putHead_65 (l : Launch) (D : va_G) (aC : Nat → ClassId) (B : Nat)   (a0 : Nat) (a2 : Int32) (h : sm_H) : zS l D aC B cX6_putHead 3 RX6 1 22 none "putHead" vlU (fX6_putHead_65 a0 a2 h) 65 [(0, vR (some a0)), (2, vI a2)] [] h := by
  unfold fX6_putHead_65
  refine sm_aload_n (i := 0) (j := 0) (pc' := 66) dX6_putHead_65 rfl rfl rfl ?_
  refine sm_getR (k := 0) (pc' := 69) kX6 (by decide) mw270 dX6_putHead_66 rfl (fun x1 => ?_)
  refine sm_iload_n (i := 2) (j := 1) (pc' := 70) dX6_putHead_69 rfl rfl rfl ?_
  refine sm_i2l (pc' := 71) dX6_putHead_70 rfl ?_
  refine sm_ldc2 (v := (255 : Int64)) (pc' := 74) dX6_putHead_71 rfl mw319 ?_
  refine sm_land (pc' := 75) dX6_putHead_74 rfl ?_
  refine sm_cVI (pc' := 78) (ci := 0) (st := []) (F := fun b => fX0_add b ((a2.toInt64) &&& (255 : Int64)) h) [vJ ((a2.toInt64) &&& (255 : Int64))] yY_yX0_add rfl mw320 mw13 mw14 (fun b => mX0_add l D aC B b ((a2.toInt64) &&& (255 : Int64)) h) rfl (by decide) (by decide) (by exact Nat.le_of_ble_eq_true rfl) rfl dX6_putHead_75 rfl (fun x2 h3 => ?_)
  refine sm_pop (pc' := 79) rfl dX6_putHead_78 rfl ?_
  exact sm_vret rfl dX6_putHead_79
noncomputable def fX6_putHead_41  (a0 : Nat) (a2 : Int32) (h : sm_H) : Option (Unit × sm_H) :=
  if a2 < (256 : Int32) then (
    fX6_putHead_65 a0 a2 h
  ) else
  (sm_R (sm_get h (some a0) 6 0)).bind fun x1 =>
  (sm_obj h x1 0).bind fun b4 =>
  sm_cb (fX0_add b4 ((((a2.toUInt32 >>> ((8 : Int32).toUInt32 &&& Int32.toUInt32 31)).toInt32).toInt64) &&& (255 : Int64)) h) fun x2 h3 =>
  fX6_putHead_65 a0 a2 h3
set_option maxRecDepth 100000 in
set_option maxHeartbeats 4000000 in
theorem sX6_putHead_41 (l : Launch) (D : va_G) (aC : Nat → ClassId) (B : Nat)   (a0 : Nat) (a2 : Int32) (h : sm_H) : zS l D aC B cX6_putHead 3 RX6 1 22 none "putHead" vlU (fX6_putHead_41 a0 a2 h) 41 [(0, vR (some a0)), (2, vI a2)] [] h := by
  unfold fX6_putHead_41
  refine sm_iload_n (i := 2) (j := 1) (pc' := 42) dX6_putHead_41 rfl rfl rfl ?_
  refine sm_sipush (v := (256 : Int32)) (pc' := 45) dX6_putHead_42 rfl (by decide) ?_
  refine sm_icmp_lt (tgt := 65) (pc' := 48) dX6_putHead_45 (by decide) rfl ?_ ?_
  · exact sX6_putHead_65 l D aC B  a0 a2 h
  refine sm_aload_n (i := 0) (j := 0) (pc' := 49) dX6_putHead_48 rfl rfl rfl ?_
  refine sm_getR (k := 0) (pc' := 52) kX6 (by decide) mw270 dX6_putHead_49 rfl (fun x1 => ?_)
  refine sm_iload_n (i := 2) (j := 1) (pc' := 53) dX6_putHead_52 rfl rfl rfl ?_
  refine sm_bipush (v := (8 : Int32)) (pc' := 55) dX6_putHead_53 rfl (by decide) ?_
  refine sm_iushr (pc' := 56) dX6_putHead_55 rfl ?_
  refine sm_i2l (pc' := 57) dX6_putHead_56 rfl ?_
  refine sm_ldc2 (v := (255 : Int64)) (pc' := 60) dX6_putHead_57 rfl mw319 ?_
  refine sm_land (pc' := 61) dX6_putHead_60 rfl ?_
  refine sm_cVI (pc' := 64) (ci := 0) (st := []) (F := fun b => fX0_add b ((((a2.toUInt32 >>> ((8 : Int32).toUInt32 &&& Int32.toUInt32 31)).toInt32).toInt64) &&& (255 : Int64)) h) [vJ ((((a2.toUInt32 >>> ((8 : Int32).toUInt32 &&& Int32.toUInt32 31)).toInt32).toInt64) &&& (255 : Int64))] yY_yX0_add rfl mw320 mw13 mw14 (fun b => mX0_add l D aC B b ((((a2.toUInt32 >>> ((8 : Int32).toUInt32 &&& Int32.toUInt32 31)).toInt32).toInt64) &&& (255 : Int64)) h) rfl (by decide) (by decide) (by exact Nat.le_of_ble_eq_true rfl) rfl dX6_putHead_61 rfl (fun x2 h3 => ?_)
  refine sm_pop (pc' := 65) rfl dX6_putHead_64 rfl ?_
  exact sX6_putHead_65 l D aC B  a0 a2 h3
noncomputable def fX6_putHead  (a0 : Nat) (a1 : Int32) (a2 : Int32) (h : sm_H) : Option (Unit × sm_H) :=
  (sm_R (sm_get h (some a0) 6 0)).bind fun x1 =>
  (sm_obj h x1 0).bind fun b11 =>
  sm_cb (fX0_add b11 (a1.toInt64) h) fun x2 h3 =>
  if a2 < (128 : Int32) then (
    fX6_putHead_41 a0 a2 h3
  ) else
  (sm_R (sm_get h3 (some a0) 6 0)).bind fun x4 =>
  if (256 : Int32) ≤ a2 then (
    (sm_obj h3 x4 0).bind fun b7 =>
    sm_cb (fX0_add b7 (130 : Int64) h3) fun x5 h6 =>
    fX6_putHead_41 a0 a2 h6
  ) else
  (sm_obj h3 x4 0).bind fun b10 =>
  sm_cb (fX0_add b10 (129 : Int64) h3) fun x8 h9 =>
  fX6_putHead_41 a0 a2 h9
set_option maxRecDepth 100000 in
set_option maxHeartbeats 4000000 in
theorem sX6_putHead_0 (l : Launch) (D : va_G) (aC : Nat → ClassId) (B : Nat)   (a0 : Nat) (a1 : Int32) (a2 : Int32) (h : sm_H) : zS l D aC B cX6_putHead 3 RX6 1 22 none "putHead" vlU (fX6_putHead a0 a1 a2 h) 0 [(0, vR (some a0)), (1, vI a1), (2, vI a2)] [] h := by
  unfold fX6_putHead
  refine sm_aload_n (i := 0) (j := 0) (pc' := 1) dX6_putHead_0 rfl rfl rfl ?_
  refine sm_getR (k := 0) (pc' := 4) kX6 (by decide) mw270 dX6_putHead_1 rfl (fun x1 => ?_)
  refine sm_iload_n (i := 1) (j := 1) (pc' := 5) dX6_putHead_4 rfl rfl rfl ?_
  refine sm_i2l (pc' := 6) dX6_putHead_5 rfl ?_
  refine sm_cVI (pc' := 9) (ci := 0) (st := []) (F := fun b => fX0_add b (a1.toInt64) h) [vJ (a1.toInt64)] yY_yX0_add rfl mw320 mw13 mw14 (fun b => mX0_add l D aC B b (a1.toInt64) h) rfl (by decide) (by decide) (by exact Nat.le_of_ble_eq_true rfl) rfl dX6_putHead_6 rfl (fun x2 h3 => ?_)
  refine sm_pop (pc' := 10) rfl dX6_putHead_9 rfl ?_
  refine sm_iload_n (i := 2) (j := 2) (pc' := 11) dX6_putHead_10 rfl rfl rfl ?_
  refine sm_sipush (v := (128 : Int32)) (pc' := 14) dX6_putHead_11 rfl (by decide) ?_
  refine sm_icmp_lt (tgt := 41) (pc' := 17) dX6_putHead_14 (by decide) rfl ?_ ?_
  · refine sm_lo (lv' := [(0, vR (some a0)), (2, vI a2)]) [0, 2] rfl ?_
    exact sX6_putHead_41 l D aC B  a0 a2 h3
  refine sm_aload_n (i := 0) (j := 0) (pc' := 18) dX6_putHead_17 rfl rfl rfl ?_
  refine sm_getR (k := 0) (pc' := 21) kX6 (by decide) mw270 dX6_putHead_18 rfl (fun x4 => ?_)
  refine sm_iload_n (i := 2) (j := 2) (pc' := 22) dX6_putHead_21 rfl rfl rfl ?_
  refine sm_sipush (v := (256 : Int32)) (pc' := 25) dX6_putHead_22 rfl (by decide) ?_
  refine sm_icmp_ge (tgt := 34) (pc' := 28) dX6_putHead_25 (by decide) rfl ?_ ?_
  · refine sm_ldc2 (v := (130 : Int64)) (pc' := 37) dX6_putHead_34 rfl mw321 ?_
    refine sm_cVI (pc' := 40) (ci := 0) (st := []) (F := fun b => fX0_add b (130 : Int64) h3) [vJ (130 : Int64)] yY_yX0_add rfl mw320 mw13 mw14 (fun b => mX0_add l D aC B b (130 : Int64) h3) rfl (by decide) (by decide) (by exact Nat.le_of_ble_eq_true rfl) rfl dX6_putHead_37 rfl (fun x5 h6 => ?_)
    refine sm_pop (pc' := 41) rfl dX6_putHead_40 rfl ?_
    refine sm_lo (lv' := [(0, vR (some a0)), (2, vI a2)]) [0, 2] rfl ?_
    exact sX6_putHead_41 l D aC B  a0 a2 h6
  refine sm_ldc2 (v := (129 : Int64)) (pc' := 31) dX6_putHead_28 rfl mw322 ?_
  refine sm_goto (pc' := 37) dX6_putHead_31 (by decide) ?_
  refine sm_cVI (pc' := 40) (ci := 0) (st := []) (F := fun b => fX0_add b (129 : Int64) h3) [vJ (129 : Int64)] yY_yX0_add rfl mw320 mw13 mw14 (fun b => mX0_add l D aC B b (129 : Int64) h3) rfl (by decide) (by decide) (by exact Nat.le_of_ble_eq_true rfl) rfl dX6_putHead_37 rfl (fun x8 h9 => ?_)
  refine sm_pop (pc' := 41) rfl dX6_putHead_40 rfl ?_
  refine sm_lo (lv' := [(0, vR (some a0)), (2, vI a2)]) [0, 2] rfl ?_
  exact sX6_putHead_41 l D aC B  a0 a2 h9
set_option maxRecDepth 100000 in
theorem mX6_putHead (l : Launch) (D : va_G) (aC : Nat → ClassId) (B : Nat) (a0 : Nat) (a1 : Int32) (a2 : Int32) (h : sm_H) : sm_M l D vwCl gAts aC B gTs gNs gOs yX6_putHead cX6_putHead 3 none 1 22 vlU [vR (some a0), vI a1, vI a2] h (fX6_putHead a0 a1 a2 h) := sm_meth [vR (some a0), vI a1, vI a2] yY_yX6_putHead gG gN (Nat.le_of_ble_eq_true rfl) rfl (sX6_putHead_0 l D aC B a0 a1 a2 h)
-- M:TreeAgent$Reply.putNumber(JI)V
noncomputable def fX6_putNumber_5  : Nat → Nat → Int64 → Int32 → sm_H → Option (Unit × sm_H)
  | 0 => fun _ _ _ _ => none
  | n + 1 => fun a0 a1 a4 h =>
    if a4 < 0 then (
      some ((), h)
    ) else
    (sm_R (sm_get h (some a0) 6 0)).bind fun x1 =>
    if a4 < (8 : Int32) then (
      (sm_obj h x1 0).bind fun b5 =>
      sm_cb (fX0_add b5 (((a1.toUInt64 >>> (((8 : Int32) * a4).toInt64.toUInt64 &&& Int64.toUInt64 63)).toInt64) &&& (255 : Int64)) h) fun x2 h3 =>
      sm_let (a4 + (-1 : Int32)) fun x4 =>
      (fX6_putNumber_5 n) a0 a1 x4 h3
    ) else
    (sm_obj h x1 0).bind fun b9 =>
    sm_cb (fX0_add b9 (0 : Int64) h) fun x6 h7 =>
    sm_let (a4 + (-1 : Int32)) fun x8 =>
    (fX6_putNumber_5 n) a0 a1 x8 h7
set_option maxRecDepth 100000 in
set_option maxHeartbeats 4000000 in
theorem sX6_putNumber_5 (l : Launch) (D : va_G) (aC : Nat → ClassId) (B : Nat)   (n : Nat) : ∀ (a0 : Nat) (a1 : Int64) (a4 : Int32) (h : sm_H), zS l D aC B cX6_putNumber 5 RX6 1 22 none "putNumber" vlU (fX6_putNumber_5 n a0 a1 a4 h) 5 [(0, vR (some a0)), (1, vJ a1), (4, vI a4)] [] h := by
  induction n with
  | zero => intro a0 a1 a4 h; exact sm_none
  | succ n ih =>
    intro a0 a1 a4 h
    show zS l D aC B cX6_putNumber 5 RX6 1 22 none "putNumber" vlU (fX6_putNumber_5 (n + 1) a0 a1 a4 h) 5 [(0, vR (some a0)), (1, vJ a1), (4, vI a4)] [] h
    unfold fX6_putNumber_5
    refine sm_iload (i := 4) (j := 2) (pc' := 7) dX6_putNumber_5 rfl rfl ?_
    refine sm_if_lt (tgt := 46) (pc' := 10) dX6_putNumber_7 (by decide) rfl ?_ ?_
    · exact sm_vret rfl dX6_putNumber_46
    refine sm_aload_n (i := 0) (j := 0) (pc' := 11) dX6_putNumber_10 rfl rfl rfl ?_
    refine sm_getR (k := 0) (pc' := 14) kX6 (by decide) mw270 dX6_putNumber_11 rfl (fun x1 => ?_)
    refine sm_iload (i := 4) (j := 2) (pc' := 16) dX6_putNumber_14 rfl rfl ?_
    refine sm_bipush (v := (8 : Int32)) (pc' := 18) dX6_putNumber_16 rfl (by decide) ?_
    refine sm_icmp_lt (tgt := 25) (pc' := 21) dX6_putNumber_18 (by decide) rfl ?_ ?_
    · refine sm_lload_n (i := 1) (j := 1) (pc' := 26) dX6_putNumber_25 rfl rfl rfl ?_
      refine sm_bipush (v := (8 : Int32)) (pc' := 28) dX6_putNumber_26 rfl (by decide) ?_
      refine sm_iload (i := 4) (j := 2) (pc' := 30) dX6_putNumber_28 rfl rfl ?_
      refine sm_imul (pc' := 31) dX6_putNumber_30 rfl ?_
      refine sm_lushr (pc' := 32) dX6_putNumber_31 rfl ?_
      refine sm_ldc2 (v := (255 : Int64)) (pc' := 35) dX6_putNumber_32 rfl mw319 ?_
      refine sm_land (pc' := 36) dX6_putNumber_35 rfl ?_
      refine sm_cVI (pc' := 39) (ci := 0) (st := []) (F := fun b => fX0_add b (((a1.toUInt64 >>> (((8 : Int32) * a4).toInt64.toUInt64 &&& Int64.toUInt64 63)).toInt64) &&& (255 : Int64)) h) [vJ (((a1.toUInt64 >>> (((8 : Int32) * a4).toInt64.toUInt64 &&& Int64.toUInt64 63)).toInt64) &&& (255 : Int64))] yY_yX0_add rfl mw320 mw13 mw14 (fun b => mX0_add l D aC B b (((a1.toUInt64 >>> (((8 : Int32) * a4).toInt64.toUInt64 &&& Int64.toUInt64 63)).toInt64) &&& (255 : Int64)) h) rfl (by decide) (by decide) (by exact Nat.le_of_ble_eq_true rfl) rfl dX6_putNumber_36 rfl (fun x2 h3 => ?_)
      refine sm_pop (pc' := 40) rfl dX6_putNumber_39 rfl ?_
      refine sm_iincL (i := 4) (j := 2) (x := a4) (d := (-1 : Int32)) (fun x4 => [(4, vI x4), (0, vR (some a0)), (1, vJ a1)]) (pc' := 43) dX6_putNumber_40 rfl rfl (by decide) (by decide) (fun _ => rfl) (fun x4 => ?_)
      refine sm_goto (pc' := 5) dX6_putNumber_43 (by decide) ?_
      refine sm_lo (lv' := [(0, vR (some a0)), (1, vJ a1), (4, vI x4)]) [1, 2, 0] rfl ?_
      exact ih a0 a1 x4 h3
    refine sm_lconst (v := (0 : Int64)) (pc' := 22) dX6_putNumber_21 rfl (by decide) ?_
    refine sm_goto (pc' := 36) dX6_putNumber_22 (by decide) ?_
    refine sm_cVI (pc' := 39) (ci := 0) (st := []) (F := fun b => fX0_add b (0 : Int64) h) [vJ (0 : Int64)] yY_yX0_add rfl mw320 mw13 mw14 (fun b => mX0_add l D aC B b (0 : Int64) h) rfl (by decide) (by decide) (by exact Nat.le_of_ble_eq_true rfl) rfl dX6_putNumber_36 rfl (fun x6 h7 => ?_)
    refine sm_pop (pc' := 40) rfl dX6_putNumber_39 rfl ?_
    refine sm_iincL (i := 4) (j := 2) (x := a4) (d := (-1 : Int32)) (fun x8 => [(4, vI x8), (0, vR (some a0)), (1, vJ a1)]) (pc' := 43) dX6_putNumber_40 rfl rfl (by decide) (by decide) (fun _ => rfl) (fun x8 => ?_)
    refine sm_goto (pc' := 5) dX6_putNumber_43 (by decide) ?_
    refine sm_lo (lv' := [(0, vR (some a0)), (1, vJ a1), (4, vI x8)]) [1, 2, 0] rfl ?_
    exact ih a0 a1 x8 h7
noncomputable def fX6_putNumber  (a0 : Nat) (a1 : Int64) (a3 : Int32) (h : sm_H) : Option (Unit × sm_H) :=
  sm_let (a3 - (1 : Int32)) fun x1 =>
  fX6_putNumber_5 sm_fuel a0 a1 x1 h
set_option maxRecDepth 100000 in
set_option maxHeartbeats 4000000 in
theorem sX6_putNumber_0 (l : Launch) (D : va_G) (aC : Nat → ClassId) (B : Nat)   (a0 : Nat) (a1 : Int64) (a3 : Int32) (h : sm_H) : zS l D aC B cX6_putNumber 5 RX6 1 22 none "putNumber" vlU (fX6_putNumber a0 a1 a3 h) 0 [(0, vR (some a0)), (1, vJ a1), (3, vI a3)] [] h := by
  unfold fX6_putNumber
  refine sm_iload_n (i := 3) (j := 2) (pc' := 1) dX6_putNumber_0 rfl rfl rfl ?_
  refine sm_iconst (v := (1 : Int32)) (pc' := 2) dX6_putNumber_1 rfl (by decide) ?_
  refine sm_isub (pc' := 3) dX6_putNumber_2 rfl ?_
  refine sm_letIv (fun x1 => ?_)
  refine sm_istore (i := 4) (lv' := [(4, vI x1), (0, vR (some a0)), (1, vJ a1), (3, vI a3)]) (pc' := 5) dX6_putNumber_3 rfl (by decide) rfl ?_
  refine sm_lo (lv' := [(0, vR (some a0)), (1, vJ a1), (4, vI x1)]) [1, 2, 0] rfl ?_
  exact sX6_putNumber_5 l D aC B   sm_fuel a0 a1 x1 h
set_option maxRecDepth 100000 in
theorem mX6_putNumber (l : Launch) (D : va_G) (aC : Nat → ClassId) (B : Nat) (a0 : Nat) (a1 : Int64) (a3 : Int32) (h : sm_H) : sm_M l D vwCl gAts aC B gTs gNs gOs yX6_putNumber cX6_putNumber 5 none 1 22 vlU [vR (some a0), vJ a1, vI a3] h (fX6_putNumber a0 a1 a3 h) := sm_meth [vR (some a0), vJ a1, vI a3] yY_yX6_putNumber gG gN (Nat.le_of_ble_eq_true rfl) rfl (sX6_putNumber_0 l D aC B a0 a1 a3 h)
-- M:TreeAgent$Reply.putInteger(I)V
noncomputable def fX6_putInteger  (a0 : Nat) (a1 : Int32) (h : sm_H) : Option (Unit × sm_H) :=
  sm_cb (fX6_numberContent (a1.toInt64) h) fun x1 h2 =>
  (sm_obj h2 (some a0) 6).bind fun b6 =>
  sm_cb (fX6_putHead b6 (2 : Int32) x1 h2) fun _ h3 =>
  (sm_obj h3 (some a0) 6).bind fun b5 =>
  sm_cb (fX6_putNumber b5 (a1.toInt64) x1 h3) fun _ h4 =>
  some ((), h4)
set_option maxRecDepth 100000 in
set_option maxHeartbeats 4000000 in
theorem sX6_putInteger_0 (l : Launch) (D : va_G) (aC : Nat → ClassId) (B : Nat)   (a0 : Nat) (a1 : Int32) (h : sm_H) : zS l D aC B cX6_putInteger 3 RX6 2 46 none "putInteger" vlU (fX6_putInteger a0 a1 h) 0 [(0, vR (some a0)), (1, vI a1)] [] h := by
  unfold fX6_putInteger
  refine sm_iload_n (i := 1) (j := 1) (pc' := 1) dX6_putInteger_0 rfl rfl rfl ?_
  refine sm_i2l (pc' := 2) dX6_putInteger_1 rfl ?_
  refine sm_cSI (pc' := 5) (st := []) [vJ (a1.toInt64)] yY_yX6_numberContent mw289 mw290 (mX6_numberContent l D aC B (a1.toInt64) h) rfl (by decide) (by decide) (by exact Nat.le_of_ble_eq_true rfl) rfl dX6_putInteger_2 rfl (fun x1 h2 => ?_)
  refine sm_istore_n (i := 2) (lv' := [(2, vI x1), (0, vR (some a0)), (1, vI a1)]) (pc' := 6) dX6_putInteger_5 rfl rfl (by decide) rfl ?_
  refine sm_aload_n (i := 0) (j := 1) (pc' := 7) dX6_putInteger_6 rfl rfl rfl ?_
  refine sm_iconst (v := (2 : Int32)) (pc' := 8) dX6_putInteger_7 rfl (by decide) ?_
  refine sm_iload_n (i := 2) (j := 0) (pc' := 9) dX6_putInteger_8 rfl rfl rfl ?_
  refine sm_cVU (pc' := 12) (ci := 6) (st := []) (F := fun b => fX6_putHead b (2 : Int32) x1 h2) [vI (2 : Int32), vI x1] yY_yX6_putHead rfl mw323 mw327 mw328 (fun b => mX6_putHead l D aC B b (2 : Int32) x1 h2) rfl (by decide) (by decide) (by exact Nat.le_of_ble_eq_true rfl) rfl dX6_putInteger_9 rfl (fun _ h3 => ?_)
  refine sm_aload_n (i := 0) (j := 1) (pc' := 13) dX6_putInteger_12 rfl rfl rfl ?_
  refine sm_iload_n (i := 1) (j := 2) (pc' := 14) dX6_putInteger_13 rfl rfl rfl ?_
  refine sm_i2l (pc' := 15) dX6_putInteger_14 rfl ?_
  refine sm_iload_n (i := 2) (j := 0) (pc' := 16) dX6_putInteger_15 rfl rfl rfl ?_
  refine sm_cVU (pc' := 19) (ci := 6) (st := []) (F := fun b => fX6_putNumber b (a1.toInt64) x1 h3) [vJ (a1.toInt64), vI x1] yY_yX6_putNumber rfl mw324 mw325 mw326 (fun b => mX6_putNumber l D aC B b (a1.toInt64) x1 h3) rfl (by decide) (by decide) (by exact Nat.le_of_ble_eq_true rfl) rfl dX6_putInteger_16 rfl (fun _ h4 => ?_)
  exact sm_vret rfl dX6_putInteger_19
set_option maxRecDepth 100000 in
theorem mX6_putInteger (l : Launch) (D : va_G) (aC : Nat → ClassId) (B : Nat) (a0 : Nat) (a1 : Int32) (h : sm_H) : sm_M l D vwCl gAts aC B gTs gNs gOs yX6_putInteger cX6_putInteger 3 none 2 46 vlU [vR (some a0), vI a1] h (fX6_putInteger a0 a1 h) := sm_meth [vR (some a0), vI a1] yY_yX6_putInteger gG gN (Nat.le_of_ble_eq_true rfl) rfl (sX6_putInteger_0 l D aC B a0 a1 h)
-- M:TreeAgent$Reply.putParts(LTreeAgent$Chain;)V
noncomputable def fX6_putParts_2  : Nat → Nat → Option Nat → Int32 → sm_H → Option (Unit × sm_H)
  | 0 => fun _ _ _ _ => none
  | n + 1 => fun a0 a1 a2 h =>
    (sm_obj h a1 0).bind fun b11 =>
    sm_cb (fX0_size b11 h) fun x1 h2 =>
    if x1 ≤ a2 then (
      some ((), h2)
    ) else
    (sm_R (sm_get h2 (some a0) 6 0)).bind fun x3 =>
    (sm_obj h2 a1 0).bind fun b10 =>
    sm_cb (fX0_at b10 a2 h2) fun x4 h5 =>
    (sm_obj h5 x3 0).bind fun b9 =>
    sm_cb (fX0_add b9 x4 h5) fun x6 h7 =>
    sm_let (a2 + (1 : Int32)) fun x8 =>
    (fX6_putParts_2 n) a0 a1 x8 h7
set_option maxRecDepth 100000 in
set_option maxHeartbeats 4000000 in
theorem sX6_putParts_2 (l : Launch) (D : va_G) (aC : Nat → ClassId) (B : Nat)   (n : Nat) : ∀ (a0 : Nat) (a1 : Option Nat) (a2 : Int32) (h : sm_H), zS l D aC B cX6_putParts 3 RX6 1 22 none "putParts" vlU (fX6_putParts_2 n a0 a1 a2 h) 2 [(0, vR (some a0)), (1, vR a1), (2, vI a2)] [] h := by
  induction n with
  | zero => intro a0 a1 a2 h; exact sm_none
  | succ n ih =>
    intro a0 a1 a2 h
    show zS l D aC B cX6_putParts 3 RX6 1 22 none "putParts" vlU (fX6_putParts_2 (n + 1) a0 a1 a2 h) 2 [(0, vR (some a0)), (1, vR a1), (2, vI a2)] [] h
    unfold fX6_putParts_2
    refine sm_iload_n (i := 2) (j := 2) (pc' := 3) dX6_putParts_2 rfl rfl rfl ?_
    refine sm_aload_n (i := 1) (j := 1) (pc' := 4) dX6_putParts_3 rfl rfl rfl ?_
    refine sm_cVI (pc' := 7) (ci := 0) (st := [vI a2]) (F := fun b => fX0_size b h) [] yY_yX0_size rfl mw282 mw32 mw33 (fun b => mX0_size l D aC B b h) rfl (by decide) (by decide) (by exact Nat.le_of_ble_eq_true rfl) rfl dX6_putParts_4 rfl (fun x1 h2 => ?_)
    refine sm_icmp_ge (tgt := 29) (pc' := 10) dX6_putParts_7 (by decide) rfl ?_ ?_
    · exact sm_vret rfl dX6_putParts_29
    refine sm_aload_n (i := 0) (j := 0) (pc' := 11) dX6_putParts_10 rfl rfl rfl ?_
    refine sm_getR (k := 0) (pc' := 14) kX6 (by decide) mw270 dX6_putParts_11 rfl (fun x3 => ?_)
    refine sm_aload_n (i := 1) (j := 1) (pc' := 15) dX6_putParts_14 rfl rfl rfl ?_
    refine sm_iload_n (i := 2) (j := 2) (pc' := 16) dX6_putParts_15 rfl rfl rfl ?_
    refine sm_cVJ (pc' := 19) (ci := 0) (st := [vR x3]) (F := fun b => fX0_at b a2 h2) [vI a2] yY_yX0_at rfl mw283 mw15 mw16 (fun b => mX0_at l D aC B b a2 h2) rfl (by decide) (by decide) (by exact Nat.le_of_ble_eq_true rfl) rfl dX6_putParts_16 rfl (fun x4 h5 => ?_)
    refine sm_cVI (pc' := 22) (ci := 0) (st := []) (F := fun b => fX0_add b x4 h5) [vJ x4] yY_yX0_add rfl mw320 mw13 mw14 (fun b => mX0_add l D aC B b x4 h5) rfl (by decide) (by decide) (by exact Nat.le_of_ble_eq_true rfl) rfl dX6_putParts_19 rfl (fun x6 h7 => ?_)
    refine sm_pop (pc' := 23) rfl dX6_putParts_22 rfl ?_
    refine sm_iincL (i := 2) (j := 2) (x := a2) (d := (1 : Int32)) (fun x8 => [(2, vI x8), (0, vR (some a0)), (1, vR a1)]) (pc' := 26) dX6_putParts_23 rfl rfl (by decide) (by decide) (fun _ => rfl) (fun x8 => ?_)
    refine sm_goto (pc' := 2) dX6_putParts_26 (by decide) ?_
    refine sm_lo (lv' := [(0, vR (some a0)), (1, vR a1), (2, vI x8)]) [1, 2, 0] rfl ?_
    exact ih a0 a1 x8 h7
noncomputable def fX6_putParts  (a0 : Nat) (a1 : Option Nat) (h : sm_H) : Option (Unit × sm_H) :=
  fX6_putParts_2 sm_fuel a0 a1 (0 : Int32) h
set_option maxRecDepth 100000 in
set_option maxHeartbeats 4000000 in
theorem sX6_putParts_0 (l : Launch) (D : va_G) (aC : Nat → ClassId) (B : Nat)   (a0 : Nat) (a1 : Option Nat) (h : sm_H) : zS l D aC B cX6_putParts 3 RX6 1 22 none "putParts" vlU (fX6_putParts a0 a1 h) 0 [(0, vR (some a0)), (1, vR a1)] [] h := by
  unfold fX6_putParts
  refine sm_iconst (v := (0 : Int32)) (pc' := 1) dX6_putParts_0 rfl (by decide) ?_
  refine sm_istore_n (i := 2) (lv' := [(2, vI (0 : Int32)), (0, vR (some a0)), (1, vR a1)]) (pc' := 2) dX6_putParts_1 rfl rfl (by decide) rfl ?_
  refine sm_lo (lv' := [(0, vR (some a0)), (1, vR a1), (2, vI (0 : Int32))]) [1, 2, 0] rfl ?_
  exact sX6_putParts_2 l D aC B   sm_fuel a0 a1 (0 : Int32) h
set_option maxRecDepth 100000 in
theorem mX6_putParts (l : Launch) (D : va_G) (aC : Nat → ClassId) (B : Nat) (a0 : Nat) (a1 : Option Nat) (h : sm_H) : sm_M l D vwCl gAts aC B gTs gNs gOs yX6_putParts cX6_putParts 3 none 1 22 vlU [vR (some a0), vR a1] h (fX6_putParts a0 a1 h) := sm_meth [vR (some a0), vR a1] yY_yX6_putParts gG gN (Nat.le_of_ble_eq_true rfl) rfl (sX6_putParts_0 l D aC B a0 a1 h)
-- M:TreeAgent$Reply.putName(LTreeAgent$Chain;)V
noncomputable def fX6_putName_47 (K25 : Nat → Option Nat → Int32 → sm_H → Option (Unit × sm_H)) : Nat → Nat → Option Nat → Int32 → Int64 → Int32 → sm_H → Option (Unit × sm_H)
  | 0 => fun _ _ _ _ _ _ => none
  | n + 1 => fun a0 a1 a2 a3 a5 h =>
    if a5 < 0 then (
      sm_let (a2 + (1 : Int32)) fun x1 =>
      K25 a0 a1 x1 h
    ) else
    (sm_R (sm_get h (some a0) 6 0)).bind fun x2 =>
    if a5 ≤ 0 then (
      (sm_obj h x2 0).bind fun b6 =>
      sm_cb (fX0_add b6 ((((a3.toUInt64 >>> (((7 : Int32) * a5).toInt64.toUInt64 &&& Int64.toUInt64 63)).toInt64) &&& (127 : Int64)) ||| (0 : Int64)) h) fun x3 h4 =>
      sm_let (a5 + (-1 : Int32)) fun x5 =>
      (fX6_putName_47 K25 n) a0 a1 a2 a3 x5 h4
    ) else
    (sm_obj h x2 0).bind fun b10 =>
    sm_cb (fX0_add b10 ((((a3.toUInt64 >>> (((7 : Int32) * a5).toInt64.toUInt64 &&& Int64.toUInt64 63)).toInt64) &&& (127 : Int64)) ||| (128 : Int64)) h) fun x7 h8 =>
    sm_let (a5 + (-1 : Int32)) fun x9 =>
    (fX6_putName_47 K25 n) a0 a1 a2 a3 x9 h8
set_option maxRecDepth 100000 in
set_option maxHeartbeats 4000000 in
theorem sX6_putName_47 (l : Launch) (D : va_G) (aC : Nat → ClassId) (B : Nat) (K25 : Nat → Option Nat → Int32 → sm_H → Option (Unit × sm_H)) (hK25 : ∀ (a0 : Nat) (a1 : Option Nat) (a2 : Int32) (h : sm_H), zS l D aC B cX6_putName 6 RX6 1 22 none "putName" vlU (K25 a0 a1 a2 h) 25 [(0, vR (some a0)), (1, vR a1), (2, vI a2)] [] h) (n : Nat) : ∀ (a0 : Nat) (a1 : Option Nat) (a2 : Int32) (a3 : Int64) (a5 : Int32) (h : sm_H), zS l D aC B cX6_putName 6 RX6 1 22 none "putName" vlU (fX6_putName_47 K25 n a0 a1 a2 a3 a5 h) 47 [(0, vR (some a0)), (1, vR a1), (2, vI a2), (3, vJ a3), (5, vI a5)] [] h := by
  induction n with
  | zero => intro a0 a1 a2 a3 a5 h; exact sm_none
  | succ n ih =>
    intro a0 a1 a2 a3 a5 h
    show zS l D aC B cX6_putName 6 RX6 1 22 none "putName" vlU (fX6_putName_47 K25 (n + 1) a0 a1 a2 a3 a5 h) 47 [(0, vR (some a0)), (1, vR a1), (2, vI a2), (3, vJ a3), (5, vI a5)] [] h
    unfold fX6_putName_47
    refine sm_iload (i := 5) (j := 4) (pc' := 49) dX6_putName_47 rfl rfl ?_
    refine sm_if_lt (tgt := 90) (pc' := 52) dX6_putName_49 (by decide) rfl ?_ ?_
    · refine sm_iincL (i := 2) (j := 2) (x := a2) (d := (1 : Int32)) (fun x1 => [(2, vI x1), (0, vR (some a0)), (1, vR a1), (3, vJ a3), (5, vI a5)]) (pc' := 93) dX6_putName_90 rfl rfl (by decide) (by decide) (fun _ => rfl) (fun x1 => ?_)
      refine sm_goto (pc' := 25) dX6_putName_93 (by decide) ?_
      refine sm_lo (lv' := [(0, vR (some a0)), (1, vR a1), (2, vI x1)]) [1, 2, 0] rfl ?_
      exact hK25 a0 a1 x1 h
    refine sm_aload_n (i := 0) (j := 0) (pc' := 53) dX6_putName_52 rfl rfl rfl ?_
    refine sm_getR (k := 0) (pc' := 56) kX6 (by decide) mw270 dX6_putName_53 rfl (fun x2 => ?_)
    refine sm_lload_n (i := 3) (j := 3) (pc' := 57) dX6_putName_56 rfl rfl rfl ?_
    refine sm_bipush (v := (7 : Int32)) (pc' := 59) dX6_putName_57 rfl (by decide) ?_
    refine sm_iload (i := 5) (j := 4) (pc' := 61) dX6_putName_59 rfl rfl ?_
    refine sm_imul (pc' := 62) dX6_putName_61 rfl ?_
    refine sm_lushr (pc' := 63) dX6_putName_62 rfl ?_
    refine sm_ldc2 (v := (127 : Int64)) (pc' := 66) dX6_putName_63 rfl mw329 ?_
    refine sm_land (pc' := 67) dX6_putName_66 rfl ?_
    refine sm_iload (i := 5) (j := 4) (pc' := 69) dX6_putName_67 rfl rfl ?_
    refine sm_if_le (tgt := 78) (pc' := 72) dX6_putName_69 (by decide) rfl ?_ ?_
    · refine sm_lconst (v := (0 : Int64)) (pc' := 79) dX6_putName_78 rfl (by decide) ?_
      refine sm_lor (pc' := 80) dX6_putName_79 rfl ?_
      refine sm_cVI (pc' := 83) (ci := 0) (st := []) (F := fun b => fX0_add b ((((a3.toUInt64 >>> (((7 : Int32) * a5).toInt64.toUInt64 &&& Int64.toUInt64 63)).toInt64) &&& (127 : Int64)) ||| (0 : Int64)) h) [vJ ((((a3.toUInt64 >>> (((7 : Int32) * a5).toInt64.toUInt64 &&& Int64.toUInt64 63)).toInt64) &&& (127 : Int64)) ||| (0 : Int64))] yY_yX0_add rfl mw320 mw13 mw14 (fun b => mX0_add l D aC B b ((((a3.toUInt64 >>> (((7 : Int32) * a5).toInt64.toUInt64 &&& Int64.toUInt64 63)).toInt64) &&& (127 : Int64)) ||| (0 : Int64)) h) rfl (by decide) (by decide) (by exact Nat.le_of_ble_eq_true rfl) rfl dX6_putName_80 rfl (fun x3 h4 => ?_)
      refine sm_pop (pc' := 84) rfl dX6_putName_83 rfl ?_
      refine sm_iincL (i := 5) (j := 4) (x := a5) (d := (-1 : Int32)) (fun x5 => [(5, vI x5), (0, vR (some a0)), (1, vR a1), (2, vI a2), (3, vJ a3)]) (pc' := 87) dX6_putName_84 rfl rfl (by decide) (by decide) (fun _ => rfl) (fun x5 => ?_)
      refine sm_goto (pc' := 47) dX6_putName_87 (by decide) ?_
      refine sm_lo (lv' := [(0, vR (some a0)), (1, vR a1), (2, vI a2), (3, vJ a3), (5, vI x5)]) [1, 2, 3, 4, 0] rfl ?_
      exact ih a0 a1 a2 a3 x5 h4
    refine sm_ldc2 (v := (128 : Int64)) (pc' := 75) dX6_putName_72 rfl mw330 ?_
    refine sm_goto (pc' := 79) dX6_putName_75 (by decide) ?_
    refine sm_lor (pc' := 80) dX6_putName_79 rfl ?_
    refine sm_cVI (pc' := 83) (ci := 0) (st := []) (F := fun b => fX0_add b ((((a3.toUInt64 >>> (((7 : Int32) * a5).toInt64.toUInt64 &&& Int64.toUInt64 63)).toInt64) &&& (127 : Int64)) ||| (128 : Int64)) h) [vJ ((((a3.toUInt64 >>> (((7 : Int32) * a5).toInt64.toUInt64 &&& Int64.toUInt64 63)).toInt64) &&& (127 : Int64)) ||| (128 : Int64))] yY_yX0_add rfl mw320 mw13 mw14 (fun b => mX0_add l D aC B b ((((a3.toUInt64 >>> (((7 : Int32) * a5).toInt64.toUInt64 &&& Int64.toUInt64 63)).toInt64) &&& (127 : Int64)) ||| (128 : Int64)) h) rfl (by decide) (by decide) (by exact Nat.le_of_ble_eq_true rfl) rfl dX6_putName_80 rfl (fun x7 h8 => ?_)
    refine sm_pop (pc' := 84) rfl dX6_putName_83 rfl ?_
    refine sm_iincL (i := 5) (j := 4) (x := a5) (d := (-1 : Int32)) (fun x9 => [(5, vI x9), (0, vR (some a0)), (1, vR a1), (2, vI a2), (3, vJ a3)]) (pc' := 87) dX6_putName_84 rfl rfl (by decide) (by decide) (fun _ => rfl) (fun x9 => ?_)
    refine sm_goto (pc' := 47) dX6_putName_87 (by decide) ?_
    refine sm_lo (lv' := [(0, vR (some a0)), (1, vR a1), (2, vI a2), (3, vJ a3), (5, vI x9)]) [1, 2, 3, 4, 0] rfl ?_
    exact ih a0 a1 a2 a3 x9 h8
noncomputable def fX6_putName_25  : Nat → Nat → Option Nat → Int32 → sm_H → Option (Unit × sm_H)
  | 0 => fun _ _ _ _ => none
  | n + 1 => fun a0 a1 a2 h =>
    (sm_obj h a1 0).bind fun b9 =>
    sm_cb (fX0_size b9 h) fun x1 h2 =>
    if x1 ≤ a2 then (
      some ((), h2)
    ) else
    (sm_obj h2 a1 0).bind fun b8 =>
    sm_cb (fX0_at b8 a2 h2) fun x3 h4 =>
    sm_cb (fX6_sevens x3 h4) fun x5 h6 =>
    sm_let (x5 - (1 : Int32)) fun x7 =>
    fX6_putName_47 (fX6_putName_25 n) sm_fuel a0 a1 a2 x3 x7 h6
set_option maxRecDepth 100000 in
set_option maxHeartbeats 4000000 in
theorem sX6_putName_25 (l : Launch) (D : va_G) (aC : Nat → ClassId) (B : Nat)   (n : Nat) : ∀ (a0 : Nat) (a1 : Option Nat) (a2 : Int32) (h : sm_H), zS l D aC B cX6_putName 6 RX6 1 22 none "putName" vlU (fX6_putName_25 n a0 a1 a2 h) 25 [(0, vR (some a0)), (1, vR a1), (2, vI a2)] [] h := by
  induction n with
  | zero => intro a0 a1 a2 h; exact sm_none
  | succ n ih =>
    intro a0 a1 a2 h
    show zS l D aC B cX6_putName 6 RX6 1 22 none "putName" vlU (fX6_putName_25 (n + 1) a0 a1 a2 h) 25 [(0, vR (some a0)), (1, vR a1), (2, vI a2)] [] h
    unfold fX6_putName_25
    refine sm_iload_n (i := 2) (j := 2) (pc' := 26) dX6_putName_25 rfl rfl rfl ?_
    refine sm_aload_n (i := 1) (j := 1) (pc' := 27) dX6_putName_26 rfl rfl rfl ?_
    refine sm_cVI (pc' := 30) (ci := 0) (st := [vI a2]) (F := fun b => fX0_size b h) [] yY_yX0_size rfl mw282 mw32 mw33 (fun b => mX0_size l D aC B b h) rfl (by decide) (by decide) (by exact Nat.le_of_ble_eq_true rfl) rfl dX6_putName_27 rfl (fun x1 h2 => ?_)
    refine sm_icmp_ge (tgt := 96) (pc' := 33) dX6_putName_30 (by decide) rfl ?_ ?_
    · exact sm_vret rfl dX6_putName_96
    refine sm_aload_n (i := 1) (j := 1) (pc' := 34) dX6_putName_33 rfl rfl rfl ?_
    refine sm_iload_n (i := 2) (j := 2) (pc' := 35) dX6_putName_34 rfl rfl rfl ?_
    refine sm_cVJ (pc' := 38) (ci := 0) (st := []) (F := fun b => fX0_at b a2 h2) [vI a2] yY_yX0_at rfl mw283 mw15 mw16 (fun b => mX0_at l D aC B b a2 h2) rfl (by decide) (by decide) (by exact Nat.le_of_ble_eq_true rfl) rfl dX6_putName_35 rfl (fun x3 h4 => ?_)
    refine sm_lstore_n (i := 3) (lv' := [(3, vJ x3), (0, vR (some a0)), (1, vR a1), (2, vI a2)]) (pc' := 39) dX6_putName_38 rfl rfl (by decide) rfl ?_
    refine sm_lload_n (i := 3) (j := 0) (pc' := 40) dX6_putName_39 rfl rfl rfl ?_
    refine sm_cSI (pc' := 43) (st := []) [vJ x3] yY_yX6_sevens mw284 mw285 (mX6_sevens l D aC B x3 h4) rfl (by decide) (by decide) (by exact Nat.le_of_ble_eq_true rfl) rfl dX6_putName_40 rfl (fun x5 h6 => ?_)
    refine sm_iconst (v := (1 : Int32)) (pc' := 44) dX6_putName_43 rfl (by decide) ?_
    refine sm_isub (pc' := 45) dX6_putName_44 rfl ?_
    refine sm_letIv (fun x7 => ?_)
    refine sm_istore (i := 5) (lv' := [(5, vI x7), (3, vJ x3), (0, vR (some a0)), (1, vR a1), (2, vI a2)]) (pc' := 47) dX6_putName_45 rfl (by decide) rfl ?_
    refine sm_lo (lv' := [(0, vR (some a0)), (1, vR a1), (2, vI a2), (3, vJ x3), (5, vI x7)]) [2, 3, 4, 1, 0] rfl ?_
    exact sX6_putName_47 l D aC B  (fX6_putName_25 n) ih sm_fuel a0 a1 a2 x3 x7 h6
noncomputable def fX6_putName  (a0 : Nat) (a1 : Option Nat) (h : sm_H) : Option (Unit × sm_H) :=
  (sm_R (sm_get h (some a0) 6 0)).bind fun x1 =>
  (sm_obj h a1 0).bind fun b10 =>
  sm_cb (fX0_at b10 (0 : Int32) h) fun x2 h3 =>
  (sm_obj h3 a1 0).bind fun b9 =>
  sm_cb (fX0_at b9 (1 : Int32) h3) fun x4 h5 =>
  (sm_obj h5 x1 0).bind fun b8 =>
  sm_cb (fX0_add b8 (((40 : Int64) * x2) + x4) h5) fun x6 h7 =>
  fX6_putName_25 sm_fuel a0 a1 (2 : Int32) h7
set_option maxRecDepth 100000 in
set_option maxHeartbeats 4000000 in
theorem sX6_putName_0 (l : Launch) (D : va_G) (aC : Nat → ClassId) (B : Nat)   (a0 : Nat) (a1 : Option Nat) (h : sm_H) : zS l D aC B cX6_putName 6 RX6 1 22 none "putName" vlU (fX6_putName a0 a1 h) 0 [(0, vR (some a0)), (1, vR a1)] [] h := by
  unfold fX6_putName
  refine sm_aload_n (i := 0) (j := 0) (pc' := 1) dX6_putName_0 rfl rfl rfl ?_
  refine sm_getR (k := 0) (pc' := 4) kX6 (by decide) mw270 dX6_putName_1 rfl (fun x1 => ?_)
  refine sm_ldc2 (v := (40 : Int64)) (pc' := 7) dX6_putName_4 rfl mw331 ?_
  refine sm_aload_n (i := 1) (j := 1) (pc' := 8) dX6_putName_7 rfl rfl rfl ?_
  refine sm_iconst (v := (0 : Int32)) (pc' := 9) dX6_putName_8 rfl (by decide) ?_
  refine sm_cVJ (pc' := 12) (ci := 0) (st := [vJ (40 : Int64), vR x1]) (F := fun b => fX0_at b (0 : Int32) h) [vI (0 : Int32)] yY_yX0_at rfl mw283 mw15 mw16 (fun b => mX0_at l D aC B b (0 : Int32) h) rfl (by decide) (by decide) (by exact Nat.le_of_ble_eq_true rfl) rfl dX6_putName_9 rfl (fun x2 h3 => ?_)
  refine sm_lmul (pc' := 13) dX6_putName_12 rfl ?_
  refine sm_aload_n (i := 1) (j := 1) (pc' := 14) dX6_putName_13 rfl rfl rfl ?_
  refine sm_iconst (v := (1 : Int32)) (pc' := 15) dX6_putName_14 rfl (by decide) ?_
  refine sm_cVJ (pc' := 18) (ci := 0) (st := [vJ ((40 : Int64) * x2), vR x1]) (F := fun b => fX0_at b (1 : Int32) h3) [vI (1 : Int32)] yY_yX0_at rfl mw283 mw15 mw16 (fun b => mX0_at l D aC B b (1 : Int32) h3) rfl (by decide) (by decide) (by exact Nat.le_of_ble_eq_true rfl) rfl dX6_putName_15 rfl (fun x4 h5 => ?_)
  refine sm_ladd (pc' := 19) dX6_putName_18 rfl ?_
  refine sm_cVI (pc' := 22) (ci := 0) (st := []) (F := fun b => fX0_add b (((40 : Int64) * x2) + x4) h5) [vJ (((40 : Int64) * x2) + x4)] yY_yX0_add rfl mw320 mw13 mw14 (fun b => mX0_add l D aC B b (((40 : Int64) * x2) + x4) h5) rfl (by decide) (by decide) (by exact Nat.le_of_ble_eq_true rfl) rfl dX6_putName_19 rfl (fun x6 h7 => ?_)
  refine sm_pop (pc' := 23) rfl dX6_putName_22 rfl ?_
  refine sm_iconst (v := (2 : Int32)) (pc' := 24) dX6_putName_23 rfl (by decide) ?_
  refine sm_istore_n (i := 2) (lv' := [(2, vI (2 : Int32)), (0, vR (some a0)), (1, vR a1)]) (pc' := 25) dX6_putName_24 rfl rfl (by decide) rfl ?_
  refine sm_lo (lv' := [(0, vR (some a0)), (1, vR a1), (2, vI (2 : Int32))]) [1, 2, 0] rfl ?_
  exact sX6_putName_25 l D aC B   sm_fuel a0 a1 (2 : Int32) h7
set_option maxRecDepth 100000 in
theorem mX6_putName (l : Launch) (D : va_G) (aC : Nat → ClassId) (B : Nat) (a0 : Nat) (a1 : Option Nat) (h : sm_H) : sm_M l D vwCl gAts aC B gTs gNs gOs yX6_putName cX6_putName 6 none 1 22 vlU [vR (some a0), vR a1] h (fX6_putName a0 a1 h) := sm_meth [vR (some a0), vR a1] yY_yX6_putName gG gN (Nat.le_of_ble_eq_true rfl) rfl (sX6_putName_0 l D aC B a0 a1 h)
-- M:TreeAgent$Reply.putPair(LTreeAgent$Pair;)V
noncomputable def fX6_putPair  (a0 : Nat) (a1 : Option Nat) (h : sm_H) : Option (Unit × sm_H) :=
  (sm_R (sm_get h a1 4 0)).bind fun x1 =>
  (sm_R (sm_get h a1 4 1)).bind fun x2 =>
  sm_cb (fX6_pairContent x1 x2 h) fun x3 h4 =>
  (sm_obj h4 (some a0) 6).bind fun b37 =>
  sm_cb (fX6_putHead b37 (48 : Int32) x3 h4) fun _ h5 =>
  (sm_R (sm_get h5 a1 4 0)).bind fun x6 =>
  sm_cb (fX6_nameContent x6 h5) fun x7 h8 =>
  (sm_obj h8 (some a0) 6).bind fun b36 =>
  sm_cb (fX6_putHead b36 (6 : Int32) x7 h8) fun _ h9 =>
  (sm_R (sm_get h9 a1 4 0)).bind fun x10 =>
  (sm_obj h9 (some a0) 6).bind fun b35 =>
  sm_cb (fX6_putName b35 x10 h9) fun _ h11 =>
  (sm_R (sm_get h11 a1 4 1)).bind fun x12 =>
  sm_cb (fX6_valueContent x12 h11) fun x13 h14 =>
  (sm_R (sm_get h14 a1 4 1)).bind fun x15 =>
  (sm_I (sm_get h14 x15 10 1)).bind fun x16 =>
  (sm_obj h14 (some a0) 6).bind fun b34 =>
  sm_cb (fX6_putHead b34 x16 x13 h14) fun _ h17 =>
  (sm_R (sm_get h17 a1 4 1)).bind fun x18 =>
  (sm_I (sm_get h17 x18 10 1)).bind fun x19 =>
  if x19 = (6 : Int32) then (
    (sm_R (sm_get h17 a1 4 1)).bind fun x30 =>
    (sm_R (sm_get h17 x30 10 0)).bind fun x31 =>
    (sm_obj h17 (some a0) 6).bind fun b33 =>
    sm_cb (fX6_putName b33 x31 h17) fun _ h32 =>
    some ((), h32)
  ) else
  (sm_R (sm_get h17 a1 4 1)).bind fun x20 =>
  (sm_I (sm_get h17 x20 10 1)).bind fun x21 =>
  if x21 = (4 : Int32) then (
    (sm_R (sm_get h17 a1 4 1)).bind fun x26 =>
    (sm_R (sm_get h17 x26 10 0)).bind fun x27 =>
    (sm_obj h17 (some a0) 6).bind fun b29 =>
    sm_cb (fX6_putParts b29 x27 h17) fun _ h28 =>
    some ((), h28)
  ) else
  (sm_R (sm_get h17 a1 4 1)).bind fun x22 =>
  (sm_J (sm_get h17 x22 10 2)).bind fun x23 =>
  (sm_obj h17 (some a0) 6).bind fun b25 =>
  sm_cb (fX6_putNumber b25 x23 x13 h17) fun _ h24 =>
  some ((), h24)
set_option maxRecDepth 100000 in
set_option maxHeartbeats 4000000 in
theorem sX6_putPair_0 (l : Launch) (D : va_G) (aC : Nat → ClassId) (B : Nat)   (a0 : Nat) (a1 : Option Nat) (h : sm_H) : zS l D aC B cX6_putPair 3 RX6 4 85 none "putPair" vlU (fX6_putPair a0 a1 h) 0 [(0, vR (some a0)), (1, vR a1)] [] h := by
  unfold fX6_putPair
  refine sm_aload_n (i := 0) (j := 0) (pc' := 1) dX6_putPair_0 rfl rfl rfl ?_
  refine sm_bipush (v := (48 : Int32)) (pc' := 3) dX6_putPair_1 rfl (by decide) ?_
  refine sm_aload_n (i := 1) (j := 1) (pc' := 4) dX6_putPair_3 rfl rfl rfl ?_
  refine sm_getRN (k := 0) (pc' := 7) kX4 (by decide) mw298 dX6_putPair_4 rfl (fun x1 => ?_)
  refine sm_aload_n (i := 1) (j := 1) (pc' := 8) dX6_putPair_7 rfl rfl rfl ?_
  refine sm_getRN (k := 1) (pc' := 11) kX4 (by decide) mw300 dX6_putPair_8 rfl (fun x2 => ?_)
  refine sm_cSI (pc' := 14) (st := [vI (48 : Int32), vR (some a0)]) [vR x1, vR x2] yY_yX6_pairContent mw301 mw302 (mX6_pairContent l D aC B x1 x2 h) rfl (by decide) (by decide) (by exact Nat.le_of_ble_eq_true rfl) rfl dX6_putPair_11 rfl (fun x3 h4 => ?_)
  refine sm_cVU (pc' := 17) (ci := 6) (st := []) (F := fun b => fX6_putHead b (48 : Int32) x3 h4) [vI (48 : Int32), vI x3] yY_yX6_putHead rfl mw323 mw327 mw328 (fun b => mX6_putHead l D aC B b (48 : Int32) x3 h4) rfl (by decide) (by decide) (by exact Nat.le_of_ble_eq_true rfl) rfl dX6_putPair_14 rfl (fun _ h5 => ?_)
  refine sm_aload_n (i := 0) (j := 0) (pc' := 18) dX6_putPair_17 rfl rfl rfl ?_
  refine sm_bipush (v := (6 : Int32)) (pc' := 20) dX6_putPair_18 rfl (by decide) ?_
  refine sm_aload_n (i := 1) (j := 1) (pc' := 21) dX6_putPair_20 rfl rfl rfl ?_
  refine sm_getRN (k := 0) (pc' := 24) kX4 (by decide) mw298 dX6_putPair_21 rfl (fun x6 => ?_)
  refine sm_cSI (pc' := 27) (st := [vI (6 : Int32), vR (some a0)]) [vR x6] yY_yX6_nameContent mw292 mw293 (mX6_nameContent l D aC B x6 h5) rfl (by decide) (by decide) (by exact Nat.le_of_ble_eq_true rfl) rfl dX6_putPair_24 rfl (fun x7 h8 => ?_)
  refine sm_cVU (pc' := 30) (ci := 6) (st := []) (F := fun b => fX6_putHead b (6 : Int32) x7 h8) [vI (6 : Int32), vI x7] yY_yX6_putHead rfl mw323 mw327 mw328 (fun b => mX6_putHead l D aC B b (6 : Int32) x7 h8) rfl (by decide) (by decide) (by exact Nat.le_of_ble_eq_true rfl) rfl dX6_putPair_27 rfl (fun _ h9 => ?_)
  refine sm_aload_n (i := 0) (j := 0) (pc' := 31) dX6_putPair_30 rfl rfl rfl ?_
  refine sm_aload_n (i := 1) (j := 1) (pc' := 32) dX6_putPair_31 rfl rfl rfl ?_
  refine sm_getRN (k := 0) (pc' := 35) kX4 (by decide) mw298 dX6_putPair_32 rfl (fun x10 => ?_)
  refine sm_cVU (pc' := 38) (ci := 6) (st := []) (F := fun b => fX6_putName b x10 h9) [vR x10] yY_yX6_putName rfl mw332 mw336 mw337 (fun b => mX6_putName l D aC B b x10 h9) rfl (by decide) (by decide) (by exact Nat.le_of_ble_eq_true rfl) rfl dX6_putPair_35 rfl (fun _ h11 => ?_)
  refine sm_aload_n (i := 1) (j := 1) (pc' := 39) dX6_putPair_38 rfl rfl rfl ?_
  refine sm_getRN (k := 1) (pc' := 42) kX4 (by decide) mw300 dX6_putPair_39 rfl (fun x12 => ?_)
  refine sm_cSI (pc' := 45) (st := []) [vR x12] yY_yX6_valueContent mw295 mw297 (mX6_valueContent l D aC B x12 h11) rfl (by decide) (by decide) (by exact Nat.le_of_ble_eq_true rfl) rfl dX6_putPair_42 rfl (fun x13 h14 => ?_)
  refine sm_istore_n (i := 2) (lv' := [(2, vI x13), (0, vR (some a0)), (1, vR a1)]) (pc' := 46) dX6_putPair_45 rfl rfl (by decide) rfl ?_
  refine sm_aload_n (i := 0) (j := 1) (pc' := 47) dX6_putPair_46 rfl rfl rfl ?_
  refine sm_aload_n (i := 1) (j := 2) (pc' := 48) dX6_putPair_47 rfl rfl rfl ?_
  refine sm_getRN (k := 1) (pc' := 51) kX4 (by decide) mw300 dX6_putPair_48 rfl (fun x15 => ?_)
  refine sm_getIN (k := 1) (pc' := 54) kX10 (by decide) mw287 dX6_putPair_51 rfl (fun x16 => ?_)
  refine sm_iload_n (i := 2) (j := 0) (pc' := 55) dX6_putPair_54 rfl rfl rfl ?_
  refine sm_cVU (pc' := 58) (ci := 6) (st := []) (F := fun b => fX6_putHead b x16 x13 h14) [vI x16, vI x13] yY_yX6_putHead rfl mw323 mw327 mw328 (fun b => mX6_putHead l D aC B b x16 x13 h14) rfl (by decide) (by decide) (by exact Nat.le_of_ble_eq_true rfl) rfl dX6_putPair_55 rfl (fun _ h17 => ?_)
  refine sm_aload_n (i := 1) (j := 2) (pc' := 59) dX6_putPair_58 rfl rfl rfl ?_
  refine sm_getRN (k := 1) (pc' := 62) kX4 (by decide) mw300 dX6_putPair_59 rfl (fun x18 => ?_)
  refine sm_getIN (k := 1) (pc' := 65) kX10 (by decide) mw287 dX6_putPair_62 rfl (fun x19 => ?_)
  refine sm_bipush (v := (6 : Int32)) (pc' := 67) dX6_putPair_65 rfl (by decide) ?_
  refine sm_icmp_ne (tgt := 84) (pc' := 70) dX6_putPair_67 (by decide) rfl ?_ ?_
  · refine sm_aload_n (i := 1) (j := 2) (pc' := 85) dX6_putPair_84 rfl rfl rfl ?_
    refine sm_getRN (k := 1) (pc' := 88) kX4 (by decide) mw300 dX6_putPair_85 rfl (fun x20 => ?_)
    refine sm_getIN (k := 1) (pc' := 91) kX10 (by decide) mw287 dX6_putPair_88 rfl (fun x21 => ?_)
    refine sm_iconst (v := (4 : Int32)) (pc' := 92) dX6_putPair_91 rfl (by decide) ?_
    refine sm_icmp_ne (tgt := 109) (pc' := 95) dX6_putPair_92 (by decide) rfl ?_ ?_
    · refine sm_aload_n (i := 0) (j := 1) (pc' := 110) dX6_putPair_109 rfl rfl rfl ?_
      refine sm_aload_n (i := 1) (j := 2) (pc' := 111) dX6_putPair_110 rfl rfl rfl ?_
      refine sm_getRN (k := 1) (pc' := 114) kX4 (by decide) mw300 dX6_putPair_111 rfl (fun x22 => ?_)
      refine sm_getJN (k := 2) (pc' := 117) kX10 (by decide) mw288 dX6_putPair_114 rfl (fun x23 => ?_)
      refine sm_iload_n (i := 2) (j := 0) (pc' := 118) dX6_putPair_117 rfl rfl rfl ?_
      refine sm_cVU (pc' := 121) (ci := 6) (st := []) (F := fun b => fX6_putNumber b x23 x13 h17) [vJ x23, vI x13] yY_yX6_putNumber rfl mw324 mw325 mw326 (fun b => mX6_putNumber l D aC B b x23 x13 h17) rfl (by decide) (by decide) (by exact Nat.le_of_ble_eq_true rfl) rfl dX6_putPair_118 rfl (fun _ h24 => ?_)
      exact sm_vret rfl dX6_putPair_121
    refine sm_aload_n (i := 0) (j := 1) (pc' := 96) dX6_putPair_95 rfl rfl rfl ?_
    refine sm_aload_n (i := 1) (j := 2) (pc' := 97) dX6_putPair_96 rfl rfl rfl ?_
    refine sm_getRN (k := 1) (pc' := 100) kX4 (by decide) mw300 dX6_putPair_97 rfl (fun x26 => ?_)
    refine sm_getRN (k := 0) (pc' := 103) kX10 (by decide) mw291 dX6_putPair_100 rfl (fun x27 => ?_)
    refine sm_cVU (pc' := 106) (ci := 6) (st := []) (F := fun b => fX6_putParts b x27 h17) [vR x27] yY_yX6_putParts rfl mw333 mw334 mw335 (fun b => mX6_putParts l D aC B b x27 h17) rfl (by decide) (by decide) (by exact Nat.le_of_ble_eq_true rfl) rfl dX6_putPair_103 rfl (fun _ h28 => ?_)
    refine sm_goto (pc' := 121) dX6_putPair_106 (by decide) ?_
    exact sm_vret rfl dX6_putPair_121
  refine sm_aload_n (i := 0) (j := 1) (pc' := 71) dX6_putPair_70 rfl rfl rfl ?_
  refine sm_aload_n (i := 1) (j := 2) (pc' := 72) dX6_putPair_71 rfl rfl rfl ?_
  refine sm_getRN (k := 1) (pc' := 75) kX4 (by decide) mw300 dX6_putPair_72 rfl (fun x30 => ?_)
  refine sm_getRN (k := 0) (pc' := 78) kX10 (by decide) mw291 dX6_putPair_75 rfl (fun x31 => ?_)
  refine sm_cVU (pc' := 81) (ci := 6) (st := []) (F := fun b => fX6_putName b x31 h17) [vR x31] yY_yX6_putName rfl mw332 mw336 mw337 (fun b => mX6_putName l D aC B b x31 h17) rfl (by decide) (by decide) (by exact Nat.le_of_ble_eq_true rfl) rfl dX6_putPair_78 rfl (fun _ h32 => ?_)
  refine sm_goto (pc' := 121) dX6_putPair_81 (by decide) ?_
  exact sm_vret rfl dX6_putPair_121
set_option maxRecDepth 100000 in
theorem mX6_putPair (l : Launch) (D : va_G) (aC : Nat → ClassId) (B : Nat) (a0 : Nat) (a1 : Option Nat) (h : sm_H) : sm_M l D vwCl gAts aC B gTs gNs gOs yX6_putPair cX6_putPair 3 none 4 85 vlU [vR (some a0), vR a1] h (fX6_putPair a0 a1 h) := sm_meth [vR (some a0), vR a1] yY_yX6_putPair gG gN (Nat.le_of_ble_eq_true rfl) rfl (sX6_putPair_0 l D aC B a0 a1 h)
-- M:TreeAgent$Reply.write(LTreeAgent$Message;)V
noncomputable def fX6_write_102  : Nat → Nat → Int32 → sm_H → Option (Unit × sm_H)
  | 0 => fun _ _ _ => none
  | n + 1 => fun a0 a2 h =>
    (sm_I (sm_get h (some a0) 6 2)).bind fun x1 =>
    if x1 ≤ a2 then (
      some ((), h)
    ) else
    (sm_obj h (some a0) 6).bind fun b8 =>
    sm_cb (fX6_pairAt b8 a2 h) fun x2 h3 =>
    if x2 = none then (
      sm_let (a2 + (1 : Int32)) fun x4 =>
      (fX6_write_102 n) a0 x4 h3
    ) else
    (sm_obj h3 (some a0) 6).bind fun b7 =>
    sm_cb (fX6_putPair b7 x2 h3) fun _ h5 =>
    sm_let (a2 + (1 : Int32)) fun x6 =>
    (fX6_write_102 n) a0 x6 h5
set_option maxRecDepth 100000 in
set_option maxHeartbeats 4000000 in
theorem sX6_write_102 (l : Launch) (D : va_G) (aC : Nat → ClassId) (B : Nat)   (n : Nat) : ∀ (a0 : Nat) (a2 : Int32) (h : sm_H), zS l D aC B cX6_write 4 RX6 5 107 none "write" vlU (fX6_write_102 n a0 a2 h) 102 [(0, vR (some a0)), (2, vI a2)] [] h := by
  induction n with
  | zero => intro a0 a2 h; exact sm_none
  | succ n ih =>
    intro a0 a2 h
    show zS l D aC B cX6_write 4 RX6 5 107 none "write" vlU (fX6_write_102 (n + 1) a0 a2 h) 102 [(0, vR (some a0)), (2, vI a2)] [] h
    unfold fX6_write_102
    refine sm_iload_n (i := 2) (j := 1) (pc' := 103) dX6_write_102 rfl rfl rfl ?_
    refine sm_aload_n (i := 0) (j := 0) (pc' := 104) dX6_write_103 rfl rfl rfl ?_
    refine sm_getI (k := 2) (pc' := 107) kX6 (by decide) mw275 dX6_write_104 rfl (fun x1 => ?_)
    refine sm_icmp_ge (tgt := 131) (pc' := 110) dX6_write_107 (by decide) rfl ?_ ?_
    · exact sm_vret rfl dX6_write_131
    refine sm_aload_n (i := 0) (j := 0) (pc' := 111) dX6_write_110 rfl rfl rfl ?_
    refine sm_iload_n (i := 2) (j := 1) (pc' := 112) dX6_write_111 rfl rfl rfl ?_
    refine sm_cVR (pc' := 115) (ci := 6) (st := []) (F := fun b => fX6_pairAt b a2 h) [vI a2] yY_yX6_pairAt rfl mw338 mw342 mw343 (fun b => mX6_pairAt l D aC B b a2 h) rfl (by decide) (by decide) (by exact Nat.le_of_ble_eq_true rfl) rfl dX6_write_112 rfl (fun x2 h3 => ?_)
    refine sm_astore_n (i := 3) (lv' := [(3, vR x2), (0, vR (some a0)), (2, vI a2)]) (pc' := 116) dX6_write_115 rfl rfl (by decide) rfl ?_
    refine sm_aload_n (i := 3) (j := 0) (pc' := 117) dX6_write_116 rfl rfl rfl ?_
    refine sm_ifnull (tgt := 125) (pc' := 120) dX6_write_117 (by decide) rfl ?_ ?_
    · refine sm_iincL (i := 2) (j := 2) (x := a2) (d := (1 : Int32)) (fun x4 => [(2, vI x4), (3, vR x2), (0, vR (some a0))]) (pc' := 128) dX6_write_125 rfl rfl (by decide) (by decide) (fun _ => rfl) (fun x4 => ?_)
      refine sm_goto (pc' := 102) dX6_write_128 (by decide) ?_
      refine sm_lo (lv' := [(0, vR (some a0)), (2, vI x4)]) [2, 0] rfl ?_
      exact ih a0 x4 h3
    refine sm_aload_n (i := 0) (j := 1) (pc' := 121) dX6_write_120 rfl rfl rfl ?_
    refine sm_aload_n (i := 3) (j := 0) (pc' := 122) dX6_write_121 rfl rfl rfl ?_
    refine sm_cVU (pc' := 125) (ci := 6) (st := []) (F := fun b => fX6_putPair b x2 h3) [vR x2] yY_yX6_putPair rfl mw339 mw340 mw341 (fun b => mX6_putPair l D aC B b x2 h3) rfl (by decide) (by decide) (by exact Nat.le_of_ble_eq_true rfl) rfl dX6_write_122 rfl (fun _ h5 => ?_)
    refine sm_iincL (i := 2) (j := 2) (x := a2) (d := (1 : Int32)) (fun x6 => [(2, vI x6), (3, vR x2), (0, vR (some a0))]) (pc' := 128) dX6_write_125 rfl rfl (by decide) (by decide) (fun _ => rfl) (fun x6 => ?_)
    refine sm_goto (pc' := 102) dX6_write_128 (by decide) ?_
    refine sm_lo (lv' := [(0, vR (some a0)), (2, vI x6)]) [2, 0] rfl ?_
    exact ih a0 x6 h5
noncomputable def fX6_write  (a0 : Nat) (a1 : Option Nat) (h : sm_H) : Option (Unit × sm_H) :=
  (sm_R (sm_get h (some a0) 6 0)).bind fun x1 =>
  (sm_obj h x1 0).bind fun b39 =>
  sm_cb (fX0_clear b39 h) fun _ h2 =>
  (sm_I (sm_get h2 (some a0) 6 3)).bind fun x3 =>
  (sm_obj h2 (some a0) 6).bind fun b38 =>
  sm_cb (fX6_outerContent b38 a1 x3 h2) fun x4 h5 =>
  (sm_obj h5 (some a0) 6).bind fun b37 =>
  sm_cb (fX6_putHead b37 (48 : Int32) x4 h5) fun _ h6 =>
  (sm_I (sm_get h6 a1 3 3)).bind fun x7 =>
  (sm_obj h6 (some a0) 6).bind fun b36 =>
  sm_cb (fX6_putInteger b36 x7 h6) fun _ h8 =>
  (sm_R (sm_get h8 a1 3 0)).bind fun x9 =>
  (sm_obj h8 x9 0).bind fun b35 =>
  sm_cb (fX0_size b35 h8) fun x10 h11 =>
  (sm_obj h11 (some a0) 6).bind fun b34 =>
  sm_cb (fX6_putHead b34 (4 : Int32) x10 h11) fun _ h12 =>
  (sm_R (sm_get h12 a1 3 0)).bind fun x13 =>
  (sm_obj h12 (some a0) 6).bind fun b33 =>
  sm_cb (fX6_putParts b33 x13 h12) fun _ h14 =>
  (sm_I (sm_get h14 (some a0) 6 3)).bind fun x15 =>
  (sm_obj h14 (some a0) 6).bind fun b32 =>
  sm_cb (fX6_innerContent b32 a1 x15 h14) fun x16 h17 =>
  (sm_obj h17 (some a0) 6).bind fun b31 =>
  sm_cb (fX6_putHead b31 (162 : Int32) x16 h17) fun _ h18 =>
  (sm_I (sm_get h18 a1 3 5)).bind fun x19 =>
  (sm_obj h18 (some a0) 6).bind fun b30 =>
  sm_cb (fX6_putInteger b30 x19 h18) fun _ h20 =>
  (sm_I (sm_get h20 (some a0) 6 4)).bind fun x21 =>
  (sm_obj h20 (some a0) 6).bind fun b29 =>
  sm_cb (fX6_putInteger b29 x21 h20) fun _ h22 =>
  (sm_I (sm_get h22 (some a0) 6 5)).bind fun x23 =>
  (sm_obj h22 (some a0) 6).bind fun b28 =>
  sm_cb (fX6_putInteger b28 x23 h22) fun _ h24 =>
  (sm_I (sm_get h24 (some a0) 6 3)).bind fun x25 =>
  (sm_obj h24 (some a0) 6).bind fun b27 =>
  sm_cb (fX6_putHead b27 (48 : Int32) x25 h24) fun _ h26 =>
  fX6_write_102 sm_fuel a0 (0 : Int32) h26
set_option maxRecDepth 100000 in
set_option maxHeartbeats 4000000 in
theorem sX6_write_0 (l : Launch) (D : va_G) (aC : Nat → ClassId) (B : Nat)   (a0 : Nat) (a1 : Option Nat) (h : sm_H) : zS l D aC B cX6_write 4 RX6 5 107 none "write" vlU (fX6_write a0 a1 h) 0 [(0, vR (some a0)), (1, vR a1)] [] h := by
  unfold fX6_write
  refine sm_aload_n (i := 0) (j := 0) (pc' := 1) dX6_write_0 rfl rfl rfl ?_
  refine sm_getR (k := 0) (pc' := 4) kX6 (by decide) mw270 dX6_write_1 rfl (fun x1 => ?_)
  refine sm_cVU (pc' := 7) (ci := 0) (st := []) (F := fun b => fX0_clear b h) [] yY_yX0_clear rfl mw278 mw121 mw122 (fun b => mX0_clear l D aC B b h) rfl (by decide) (by decide) (by exact Nat.le_of_ble_eq_true rfl) rfl dX6_write_4 rfl (fun _ h2 => ?_)
  refine sm_aload_n (i := 0) (j := 0) (pc' := 8) dX6_write_7 rfl rfl rfl ?_
  refine sm_bipush (v := (48 : Int32)) (pc' := 10) dX6_write_8 rfl (by decide) ?_
  refine sm_aload_n (i := 0) (j := 0) (pc' := 11) dX6_write_10 rfl rfl rfl ?_
  refine sm_aload_n (i := 1) (j := 1) (pc' := 12) dX6_write_11 rfl rfl rfl ?_
  refine sm_aload_n (i := 0) (j := 0) (pc' := 13) dX6_write_12 rfl rfl rfl ?_
  refine sm_getI (k := 3) (pc' := 16) kX6 (by decide) mw276 dX6_write_13 rfl (fun x3 => ?_)
  refine sm_cVI (pc' := 19) (ci := 6) (st := [vI (48 : Int32), vR (some a0)]) (F := fun b => fX6_outerContent b a1 x3 h2) [vR a1, vI x3] yY_yX6_outerContent rfl mw316 mw317 mw318 (fun b => mX6_outerContent l D aC B b a1 x3 h2) rfl (by decide) (by decide) (by exact Nat.le_of_ble_eq_true rfl) rfl dX6_write_16 rfl (fun x4 h5 => ?_)
  refine sm_cVU (pc' := 22) (ci := 6) (st := []) (F := fun b => fX6_putHead b (48 : Int32) x4 h5) [vI (48 : Int32), vI x4] yY_yX6_putHead rfl mw323 mw327 mw328 (fun b => mX6_putHead l D aC B b (48 : Int32) x4 h5) rfl (by decide) (by decide) (by exact Nat.le_of_ble_eq_true rfl) rfl dX6_write_19 rfl (fun _ h6 => ?_)
  refine sm_aload_n (i := 0) (j := 0) (pc' := 23) dX6_write_22 rfl rfl rfl ?_
  refine sm_aload_n (i := 1) (j := 1) (pc' := 24) dX6_write_23 rfl rfl rfl ?_
  refine sm_getIN (k := 3) (pc' := 27) kX3 (by decide) mw311 dX6_write_24 rfl (fun x7 => ?_)
  refine sm_cVU (pc' := 30) (ci := 6) (st := []) (F := fun b => fX6_putInteger b x7 h6) [vI x7] yY_yX6_putInteger rfl mw344 mw345 mw346 (fun b => mX6_putInteger l D aC B b x7 h6) rfl (by decide) (by decide) (by exact Nat.le_of_ble_eq_true rfl) rfl dX6_write_27 rfl (fun _ h8 => ?_)
  refine sm_aload_n (i := 0) (j := 0) (pc' := 31) dX6_write_30 rfl rfl rfl ?_
  refine sm_iconst (v := (4 : Int32)) (pc' := 32) dX6_write_31 rfl (by decide) ?_
  refine sm_aload_n (i := 1) (j := 1) (pc' := 33) dX6_write_32 rfl rfl rfl ?_
  refine sm_getRN (k := 0) (pc' := 36) kX3 (by decide) mw312 dX6_write_33 rfl (fun x9 => ?_)
  refine sm_cVI (pc' := 39) (ci := 0) (st := [vI (4 : Int32), vR (some a0)]) (F := fun b => fX0_size b h8) [] yY_yX0_size rfl mw282 mw32 mw33 (fun b => mX0_size l D aC B b h8) rfl (by decide) (by decide) (by exact Nat.le_of_ble_eq_true rfl) rfl dX6_write_36 rfl (fun x10 h11 => ?_)
  refine sm_cVU (pc' := 42) (ci := 6) (st := []) (F := fun b => fX6_putHead b (4 : Int32) x10 h11) [vI (4 : Int32), vI x10] yY_yX6_putHead rfl mw323 mw327 mw328 (fun b => mX6_putHead l D aC B b (4 : Int32) x10 h11) rfl (by decide) (by decide) (by exact Nat.le_of_ble_eq_true rfl) rfl dX6_write_39 rfl (fun _ h12 => ?_)
  refine sm_aload_n (i := 0) (j := 0) (pc' := 43) dX6_write_42 rfl rfl rfl ?_
  refine sm_aload_n (i := 1) (j := 1) (pc' := 44) dX6_write_43 rfl rfl rfl ?_
  refine sm_getRN (k := 0) (pc' := 47) kX3 (by decide) mw312 dX6_write_44 rfl (fun x13 => ?_)
  refine sm_cVU (pc' := 50) (ci := 6) (st := []) (F := fun b => fX6_putParts b x13 h12) [vR x13] yY_yX6_putParts rfl mw333 mw334 mw335 (fun b => mX6_putParts l D aC B b x13 h12) rfl (by decide) (by decide) (by exact Nat.le_of_ble_eq_true rfl) rfl dX6_write_47 rfl (fun _ h14 => ?_)
  refine sm_aload_n (i := 0) (j := 0) (pc' := 51) dX6_write_50 rfl rfl rfl ?_
  refine sm_sipush (v := (162 : Int32)) (pc' := 54) dX6_write_51 rfl (by decide) ?_
  refine sm_aload_n (i := 0) (j := 0) (pc' := 55) dX6_write_54 rfl rfl rfl ?_
  refine sm_aload_n (i := 1) (j := 1) (pc' := 56) dX6_write_55 rfl rfl rfl ?_
  refine sm_aload_n (i := 0) (j := 0) (pc' := 57) dX6_write_56 rfl rfl rfl ?_
  refine sm_getI (k := 3) (pc' := 60) kX6 (by decide) mw276 dX6_write_57 rfl (fun x15 => ?_)
  refine sm_cVI (pc' := 63) (ci := 6) (st := [vI (162 : Int32), vR (some a0)]) (F := fun b => fX6_innerContent b a1 x15 h14) [vR a1, vI x15] yY_yX6_innerContent rfl mw313 mw314 mw315 (fun b => mX6_innerContent l D aC B b a1 x15 h14) rfl (by decide) (by decide) (by exact Nat.le_of_ble_eq_true rfl) rfl dX6_write_60 rfl (fun x16 h17 => ?_)
  refine sm_cVU (pc' := 66) (ci := 6) (st := []) (F := fun b => fX6_putHead b (162 : Int32) x16 h17) [vI (162 : Int32), vI x16] yY_yX6_putHead rfl mw323 mw327 mw328 (fun b => mX6_putHead l D aC B b (162 : Int32) x16 h17) rfl (by decide) (by decide) (by exact Nat.le_of_ble_eq_true rfl) rfl dX6_write_63 rfl (fun _ h18 => ?_)
  refine sm_aload_n (i := 0) (j := 0) (pc' := 67) dX6_write_66 rfl rfl rfl ?_
  refine sm_aload_n (i := 1) (j := 1) (pc' := 68) dX6_write_67 rfl rfl rfl ?_
  refine sm_getIN (k := 5) (pc' := 71) kX3 (by decide) mw308 dX6_write_68 rfl (fun x19 => ?_)
  refine sm_cVU (pc' := 74) (ci := 6) (st := []) (F := fun b => fX6_putInteger b x19 h18) [vI x19] yY_yX6_putInteger rfl mw344 mw345 mw346 (fun b => mX6_putInteger l D aC B b x19 h18) rfl (by decide) (by decide) (by exact Nat.le_of_ble_eq_true rfl) rfl dX6_write_71 rfl (fun _ h20 => ?_)
  refine sm_aload_n (i := 0) (j := 0) (pc' := 75) dX6_write_74 rfl rfl rfl ?_
  refine sm_aload_n (i := 0) (j := 0) (pc' := 76) dX6_write_75 rfl rfl rfl ?_
  refine sm_getI (k := 4) (pc' := 79) kX6 (by decide) mw274 dX6_write_76 rfl (fun x21 => ?_)
  refine sm_cVU (pc' := 82) (ci := 6) (st := []) (F := fun b => fX6_putInteger b x21 h20) [vI x21] yY_yX6_putInteger rfl mw344 mw345 mw346 (fun b => mX6_putInteger l D aC B b x21 h20) rfl (by decide) (by decide) (by exact Nat.le_of_ble_eq_true rfl) rfl dX6_write_79 rfl (fun _ h22 => ?_)
  refine sm_aload_n (i := 0) (j := 0) (pc' := 83) dX6_write_82 rfl rfl rfl ?_
  refine sm_aload_n (i := 0) (j := 0) (pc' := 84) dX6_write_83 rfl rfl rfl ?_
  refine sm_getI (k := 5) (pc' := 87) kX6 (by decide) mw277 dX6_write_84 rfl (fun x23 => ?_)
  refine sm_cVU (pc' := 90) (ci := 6) (st := []) (F := fun b => fX6_putInteger b x23 h22) [vI x23] yY_yX6_putInteger rfl mw344 mw345 mw346 (fun b => mX6_putInteger l D aC B b x23 h22) rfl (by decide) (by decide) (by exact Nat.le_of_ble_eq_true rfl) rfl dX6_write_87 rfl (fun _ h24 => ?_)
  refine sm_aload_n (i := 0) (j := 0) (pc' := 91) dX6_write_90 rfl rfl rfl ?_
  refine sm_bipush (v := (48 : Int32)) (pc' := 93) dX6_write_91 rfl (by decide) ?_
  refine sm_aload_n (i := 0) (j := 0) (pc' := 94) dX6_write_93 rfl rfl rfl ?_
  refine sm_getI (k := 3) (pc' := 97) kX6 (by decide) mw276 dX6_write_94 rfl (fun x25 => ?_)
  refine sm_cVU (pc' := 100) (ci := 6) (st := []) (F := fun b => fX6_putHead b (48 : Int32) x25 h24) [vI (48 : Int32), vI x25] yY_yX6_putHead rfl mw323 mw327 mw328 (fun b => mX6_putHead l D aC B b (48 : Int32) x25 h24) rfl (by decide) (by decide) (by exact Nat.le_of_ble_eq_true rfl) rfl dX6_write_97 rfl (fun _ h26 => ?_)
  refine sm_iconst (v := (0 : Int32)) (pc' := 101) dX6_write_100 rfl (by decide) ?_
  refine sm_istore_n (i := 2) (lv' := [(2, vI (0 : Int32)), (0, vR (some a0)), (1, vR a1)]) (pc' := 102) dX6_write_101 rfl rfl (by decide) rfl ?_
  refine sm_lo (lv' := [(0, vR (some a0)), (2, vI (0 : Int32))]) [1, 0] rfl ?_
  exact sX6_write_102 l D aC B   sm_fuel a0 (0 : Int32) h26
set_option maxRecDepth 100000 in
theorem mX6_write (l : Launch) (D : va_G) (aC : Nat → ClassId) (B : Nat) (a0 : Nat) (a1 : Option Nat) (h : sm_H) : sm_M l D vwCl gAts aC B gTs gNs gOs yX6_write cX6_write 4 none 5 107 vlU [vR (some a0), vR a1] h (fX6_write a0 a1 h) := sm_meth [vR (some a0), vR a1] yY_yX6_write gG gN (Nat.le_of_ble_eq_true rfl) rfl (sX6_write_0 l D aC B a0 a1 h)
