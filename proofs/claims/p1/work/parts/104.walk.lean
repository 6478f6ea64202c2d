-- M:TreeAgent.isObjectTag(I)Z
noncomputable def fX11_isObjectTag  (a0 : Int32) (h : sm_H) : Option (Int32 × sm_H) :=
  if a0 = (2 : Int32) then (
    some ((1 : Int32), h)
  ) else
  if a0 = (4 : Int32) then (
    some ((1 : Int32), h)
  ) else
  if a0 = (6 : Int32) then (
    some ((1 : Int32), h)
  ) else
  if a0 = (64 : Int32) then (
    some ((1 : Int32), h)
  ) else
  if a0 = (65 : Int32) then (
    some ((1 : Int32), h)
  ) else
  if a0 = (66 : Int32) then (
    some ((1 : Int32), h)
  ) else
  if a0 = (67 : Int32) then (
    some ((1 : Int32), h)
  ) else
  if a0 = (70 : Int32) then (
    some ((1 : Int32), h)
  ) else
  some ((0 : Int32), h)
set_option maxRecDepth 100000 in
set_option maxHeartbeats 4000000 in
theorem sX11_isObjectTag_0 (l : Launch) (D : va_G) (aC : Nat → ClassId) (B : Nat)   (a0 : Int32) (h : sm_H) : zS l D aC B cX11_isObjectTag 1 RX11 0 0 (some .boolean) "isObjectTag" vlI (fX11_isObjectTag a0 h) 0 [(0, vI a0)] [] h := by
  unfold fX11_isObjectTag
  refine sm_iload_n (i := 0) (j := 0) (pc' := 1) dX11_isObjectTag_0 rfl rfl rfl ?_
  refine sm_ite (fun c1 => ?_) (fun c1 => ?_)
  · refine sm_lkp (pc' := 76) (75) dX11_isObjectTag_1 (by decide) (by rw [c1]; decide) (by decide) ?_
    refine sm_iconst (v := (1 : Int32)) (pc' := 77) dX11_isObjectTag_76 rfl (by decide) ?_
    exact sm_zret1 rfl dX11_isObjectTag_77
  refine sm_ite (fun c2 => ?_) (fun c2 => ?_)
  · refine sm_lkp (pc' := 76) (75) dX11_isObjectTag_1 (by decide) (by rw [c2]; decide) (by decide) ?_
    refine sm_iconst (v := (1 : Int32)) (pc' := 77) dX11_isObjectTag_76 rfl (by decide) ?_
    exact sm_zret1 rfl dX11_isObjectTag_77
  refine sm_ite (fun c3 => ?_) (fun c3 => ?_)
  · refine sm_lkp (pc' := 76) (75) dX11_isObjectTag_1 (by decide) (by rw [c3]; decide) (by decide) ?_
    refine sm_iconst (v := (1 : Int32)) (pc' := 77) dX11_isObjectTag_76 rfl (by decide) ?_
    exact sm_zret1 rfl dX11_isObjectTag_77
  refine sm_ite (fun c4 => ?_) (fun c4 => ?_)
  · refine sm_lkp (pc' := 76) (75) dX11_isObjectTag_1 (by decide) (by rw [c4]; decide) (by decide) ?_
    refine sm_iconst (v := (1 : Int32)) (pc' := 77) dX11_isObjectTag_76 rfl (by decide) ?_
    exact sm_zret1 rfl dX11_isObjectTag_77
  refine sm_ite (fun c5 => ?_) (fun c5 => ?_)
  · refine sm_lkp (pc' := 76) (75) dX11_isObjectTag_1 (by decide) (by rw [c5]; decide) (by decide) ?_
    refine sm_iconst (v := (1 : Int32)) (pc' := 77) dX11_isObjectTag_76 rfl (by decide) ?_
    exact sm_zret1 rfl dX11_isObjectTag_77
  refine sm_ite (fun c6 => ?_) (fun c6 => ?_)
  · refine sm_lkp (pc' := 76) (75) dX11_isObjectTag_1 (by decide) (by rw [c6]; decide) (by decide) ?_
    refine sm_iconst (v := (1 : Int32)) (pc' := 77) dX11_isObjectTag_76 rfl (by decide) ?_
    exact sm_zret1 rfl dX11_isObjectTag_77
  refine sm_ite (fun c7 => ?_) (fun c7 => ?_)
  · refine sm_lkp (pc' := 76) (75) dX11_isObjectTag_1 (by decide) (by rw [c7]; decide) (by decide) ?_
    refine sm_iconst (v := (1 : Int32)) (pc' := 77) dX11_isObjectTag_76 rfl (by decide) ?_
    exact sm_zret1 rfl dX11_isObjectTag_77
  refine sm_ite (fun c8 => ?_) (fun c8 => ?_)
  · refine sm_lkp (pc' := 76) (75) dX11_isObjectTag_1 (by decide) (by rw [c8]; decide) (by decide) ?_
    refine sm_iconst (v := (1 : Int32)) (pc' := 77) dX11_isObjectTag_76 rfl (by decide) ?_
    exact sm_zret1 rfl dX11_isObjectTag_77
  refine sm_lkp (pc' := 78) (77) dX11_isObjectTag_1 (by decide) (by rw [lv_osw (k := (2 : Int32)) c1 (by decide), lv_osw (k := (4 : Int32)) c2 (by decide), lv_osw (k := (6 : Int32)) c3 (by decide), lv_osw (k := (64 : Int32)) c4 (by decide), lv_osw (k := (65 : Int32)) c5 (by decide), lv_osw (k := (66 : Int32)) c6 (by decide), lv_osw (k := (67 : Int32)) c7 (by decide), lv_osw (k := (70 : Int32)) c8 (by decide)]; rfl) (by decide) ?_
  refine sm_iconst (v := (0 : Int32)) (pc' := 79) dX11_isObjectTag_78 rfl (by decide) ?_
  exact sm_zret0 rfl dX11_isObjectTag_79
set_option maxRecDepth 100000 in
theorem mX11_isObjectTag (l : Launch) (D : va_G) (aC : Nat → ClassId) (B : Nat) (a0 : Int32) (h : sm_H) : sm_M l D vwCl gAts aC B gTs gNs gOs yX11_isObjectTag cX11_isObjectTag 1 (some .boolean) 0 0 vlI [vI a0] h (fX11_isObjectTag a0 h) := sm_meth [vI a0] yY_yX11_isObjectTag gG gN (Nat.le_of_ble_eq_true rfl) rfl (sX11_isObjectTag_0 l D aC B a0 h)
-- M:TreeAgent$Reader.readValue(LTreeAgent$Value;I)Z
noncomputable def fX5_readValue  (a0 : Nat) (a1 : Option Nat) (a2 : Int32) (h : sm_H) : Option (Int32 × sm_H) :=
  (sm_R (sm_get h (some a0) 5 0)).bind fun x1 =>
  (sm_I (sm_get h (some a0) 5 2)).bind fun x2 =>
  (sm_obj h x1 0).bind fun b32 =>
  sm_cb (fX0_at b32 x2 h) fun x3 h4 =>
  sm_let (x3.toInt32) fun x5 =>
  (sm_obj h4 (some a0) 5).bind fun b31 =>
  sm_cb (fX5_enter b31 x5 a2 h4) fun x6 h7 =>
  if 0 ≤ x6 then (
    (sm_obj h7 a1 10).bind fun b30 =>
    sm_cb (fX10_becomeEmpty b30 x5 h7) fun _ h8 =>
    if x5 = (4 : Int32) then (
      (sm_R (sm_get h8 a1 10 0)).bind fun x9 =>
      (sm_obj h8 (some a0) 5).bind fun b12 =>
      sm_cb (fX5_takeText b12 x9 x6 h8) fun x10 h11 =>
      if x10 = 0 ∨ x10 = 1 then some (x10, h11) else none
    ) else
    if x5 = (5 : Int32) then (
      (sm_I (sm_get h8 (some a0) 5 2)).bind fun x14 =>
      if x6 = x14 then (
        some ((1 : Int32), h8)
      ) else
      some ((0 : Int32), h8)
    ) else
    if x5 = (6 : Int32) then (
      (sm_R (sm_get h8 a1 10 0)).bind fun x16 =>
      (sm_obj h8 (some a0) 5).bind fun b19 =>
      sm_cb (fX5_takeName b19 x16 x6 h8) fun x17 h18 =>
      if x17 = 0 ∨ x17 = 1 then some (x17, h18) else none
    ) else
    if x5 = (64 : Int32) then (
      (sm_obj h8 (some a0) 5).bind fun b23 =>
      sm_cb (fX5_takeAddress b23 a1 x6 h8) fun x21 h22 =>
      if x21 = 0 ∨ x21 = 1 then some (x21, h22) else none
    ) else
    sm_cb (fX11_isObjectTag x5 h8) fun x25 h26 =>
    if x25 = 0 then (
      some ((0 : Int32), h26)
    ) else
    (sm_obj h26 (some a0) 5).bind fun b29 =>
    sm_cb (fX5_takeNumber b29 x5 x6 a1 h26) fun x27 h28 =>
    if x27 = 0 then (
      some ((0 : Int32), h28)
    ) else
    some ((1 : Int32), h28)
  ) else
  some ((0 : Int32), h7)
set_option maxRecDepth 100000 in
set_option maxHeartbeats 4000000 in
theorem sX5_readValue_0 (l : Launch) (D : va_G) (aC : Nat → ClassId) (B : Nat)   (a0 : Nat) (a1 : Option Nat) (a2 : Int32) (h : sm_H) : zS l D aC B cX5_readValue 5 RX5 3 71 (some .boolean) "readValue" vlI (fX5_readValue a0 a1 a2 h) 0 [(0, vR (some a0)), (1, vR a1), (2, vI a2)] [] h := by
  unfold fX5_readValue
  refine sm_aload_n (i := 0) (j := 0) (pc' := 1) dX5_readValue_0 rfl rfl rfl ?_
  refine sm_getR (k := 0) (pc' := 4) kX5 (by decide) mw195 dX5_readValue_1 rfl (fun x1 => ?_)
  refine sm_aload_n (i := 0) (j := 0) (pc' := 5) dX5_readValue_4 rfl rfl rfl ?_
  refine sm_getI (k := 2) (pc' := 8) kX5 (by decide) mw197 dX5_readValue_5 rfl (fun x2 => ?_)
  refine sm_cVJ (pc' := 11) (ci := 0) (st := []) (F := fun b => fX0_at b x2 h) [vI x2] yY_yX0_at rfl mw198 mw15 mw16 (fun b => mX0_at l D aC B b x2 h) rfl (by decide) (by decide) (by exact Nat.le_of_ble_eq_true rfl) rfl dX5_readValue_8 rfl (fun x3 h4 => ?_)
  refine sm_l2i (pc' := 12) dX5_readValue_11 rfl ?_
  refine sm_letIv (fun x5 => ?_)
  refine sm_istore_n (i := 3) (lv' := [(3, vI x5), (0, vR (some a0)), (1, vR a1), (2, vI a2)]) (pc' := 13) dX5_readValue_12 rfl rfl (by decide) rfl ?_
  refine sm_aload_n (i := 0) (j := 1) (pc' := 14) dX5_readValue_13 rfl rfl rfl ?_
  refine sm_iload_n (i := 3) (j := 0) (pc' := 15) dX5_readValue_14 rfl rfl rfl ?_
  refine sm_iload_n (i := 2) (j := 3) (pc' := 16) dX5_readValue_15 rfl rfl rfl ?_
  refine sm_cVI (pc' := 19) (ci := 5) (st := []) (F := fun b => fX5_enter b x5 a2 h4) [vI x5, vI a2] yY_yX5_enter rfl mw207 mw208 mw209 (fun b => mX5_enter l D aC B b x5 a2 h4) rfl (by decide) (by decide) (by exact Nat.le_of_ble_eq_true rfl) rfl dX5_readValue_16 rfl (fun x6 h7 => ?_)
  refine sm_istore (i := 4) (lv' := [(4, vI x6), (3, vI x5), (0, vR (some a0)), (1, vR a1), (2, vI a2)]) (pc' := 21) dX5_readValue_19 rfl (by decide) rfl ?_
  refine sm_iload (i := 4) (j := 0) (pc' := 23) dX5_readValue_21 rfl rfl ?_
  refine sm_if_ge (tgt := 28) (pc' := 26) dX5_readValue_23 (by decide) rfl ?_ ?_
  · refine sm_aload_n (i := 1) (j := 3) (pc' := 29) dX5_readValue_28 rfl rfl rfl ?_
    refine sm_iload_n (i := 3) (j := 1) (pc' := 30) dX5_readValue_29 rfl rfl rfl ?_
    refine sm_cVU (pc' := 33) (ci := 10) (st := []) (F := fun b => fX10_becomeEmpty b x5 h7) [vI x5] yY_yX10_becomeEmpty rfl mw239 mw125 mw126 (fun b => mX10_becomeEmpty l D aC B b x5 h7) rfl (by decide) (by decide) (by exact Nat.le_of_ble_eq_true rfl) rfl dX5_readValue_30 rfl (fun _ h8 => ?_)
    refine sm_iload_n (i := 3) (j := 1) (pc' := 34) dX5_readValue_33 rfl rfl rfl ?_
    refine sm_ite (fun c13 => ?_) (fun c13 => ?_)
    · refine sm_lkp (pc' := 76) (42) dX5_readValue_34 (by decide) (by rw [c13]; decide) (by decide) ?_
      refine sm_aload_n (i := 0) (j := 2) (pc' := 77) dX5_readValue_76 rfl rfl rfl ?_
      refine sm_aload_n (i := 1) (j := 3) (pc' := 78) dX5_readValue_77 rfl rfl rfl ?_
      refine sm_getRN (k := 0) (pc' := 81) kX10 (by decide) mw240 dX5_readValue_78 rfl (fun x9 => ?_)
      refine sm_iload (i := 4) (j := 0) (pc' := 83) dX5_readValue_81 rfl rfl ?_
      refine sm_cVI (pc' := 86) (ci := 5) (st := []) (F := fun b => fX5_takeText b x9 x6 h8) [vR x9, vI x6] yY_yX5_takeText rfl mw224 mw225 mw226 (fun b => mX5_takeText l D aC B b x9 x6 h8) rfl (by decide) (by decide) (by exact Nat.le_of_ble_eq_true rfl) rfl dX5_readValue_83 rfl (fun x10 h11 => ?_)
      exact sm_zret rfl dX5_readValue_86
    refine sm_ite (fun c15 => ?_) (fun c15 => ?_)
    · refine sm_lkp (pc' := 87) (53) dX5_readValue_34 (by decide) (by rw [c15]; decide) (by decide) ?_
      refine sm_iload (i := 4) (j := 0) (pc' := 89) dX5_readValue_87 rfl rfl ?_
      refine sm_aload_n (i := 0) (j := 2) (pc' := 90) dX5_readValue_89 rfl rfl rfl ?_
      refine sm_getI (k := 2) (pc' := 93) kX5 (by decide) mw197 dX5_readValue_90 rfl (fun x14 => ?_)
      refine sm_icmp_ne (tgt := 100) (pc' := 96) dX5_readValue_93 (by decide) rfl ?_ ?_
      · refine sm_iconst (v := (0 : Int32)) (pc' := 101) dX5_readValue_100 rfl (by decide) ?_
        exact sm_zret0 rfl dX5_readValue_101
      refine sm_iconst (v := (1 : Int32)) (pc' := 97) dX5_readValue_96 rfl (by decide) ?_
      refine sm_goto (pc' := 101) dX5_readValue_97 (by decide) ?_
      exact sm_zret1 rfl dX5_readValue_101
    refine sm_ite (fun c20 => ?_) (fun c20 => ?_)
    · refine sm_lkp (pc' := 102) (68) dX5_readValue_34 (by decide) (by rw [c20]; decide) (by decide) ?_
      refine sm_aload_n (i := 0) (j := 2) (pc' := 103) dX5_readValue_102 rfl rfl rfl ?_
      refine sm_aload_n (i := 1) (j := 3) (pc' := 104) dX5_readValue_103 rfl rfl rfl ?_
      refine sm_getRN (k := 0) (pc' := 107) kX10 (by decide) mw240 dX5_readValue_104 rfl (fun x16 => ?_)
      refine sm_iload (i := 4) (j := 0) (pc' := 109) dX5_readValue_107 rfl rfl ?_
      refine sm_cVI (pc' := 112) (ci := 5) (st := []) (F := fun b => fX5_takeName b x16 x6 h8) [vR x16, vI x6] yY_yX5_takeName rfl mw241 mw242 mw243 (fun b => mX5_takeName l D aC B b x16 x6 h8) rfl (by decide) (by decide) (by exact Nat.le_of_ble_eq_true rfl) rfl dX5_readValue_109 rfl (fun x17 h18 => ?_)
      exact sm_zret rfl dX5_readValue_112
    refine sm_ite (fun c24 => ?_) (fun c24 => ?_)
    · refine sm_lkp (pc' := 113) (79) dX5_readValue_34 (by decide) (by rw [c24]; decide) (by decide) ?_
      refine sm_aload_n (i := 0) (j := 2) (pc' := 114) dX5_readValue_113 rfl rfl rfl ?_
      refine sm_aload_n (i := 1) (j := 3) (pc' := 115) dX5_readValue_114 rfl rfl rfl ?_
      refine sm_iload (i := 4) (j := 0) (pc' := 117) dX5_readValue_115 rfl rfl ?_
      refine sm_cVI (pc' := 120) (ci := 5) (st := []) (F := fun b => fX5_takeAddress b a1 x6 h8) [vR a1, vI x6] yY_yX5_takeAddress rfl mw244 mw245 mw246 (fun b => mX5_takeAddress l D aC B b a1 x6 h8) rfl (by decide) (by decide) (by exact Nat.le_of_ble_eq_true rfl) rfl dX5_readValue_117 rfl (fun x21 h22 => ?_)
      exact sm_zret rfl dX5_readValue_120
    refine sm_lkp (pc' := 121) (87) dX5_readValue_34 (by decide) (by rw [lv_osw (k := (4 : Int32)) c13 (by decide), lv_osw (k := (5 : Int32)) c15 (by decide), lv_osw (k := (6 : Int32)) c20 (by decide), lv_osw (k := (64 : Int32)) c24 (by decide)]; rfl) (by decide) ?_
    refine sm_iload_n (i := 3) (j := 1) (pc' := 122) dX5_readValue_121 rfl rfl rfl ?_
    refine sm_cSIN (pc' := 125) (st := []) [vI x5] yY_yX11_isObjectTag mw247 mw248 (mX11_isObjectTag l D aC B x5 h8) rfl (by decide) (by decide) (by exact Nat.le_of_ble_eq_true rfl) rfl dX5_readValue_122 rfl (fun x25 h26 => ?_)
    refine sm_if_eq (tgt := 143) (pc' := 128) dX5_readValue_125 (by decide) rfl ?_ ?_
    · refine sm_iconst (v := (0 : Int32)) (pc' := 144) dX5_readValue_143 rfl (by decide) ?_
      exact sm_zret0 rfl dX5_readValue_144
    refine sm_aload_n (i := 0) (j := 2) (pc' := 129) dX5_readValue_128 rfl rfl rfl ?_
    refine sm_iload_n (i := 3) (j := 1) (pc' := 130) dX5_readValue_129 rfl rfl rfl ?_
    refine sm_iload (i := 4) (j := 0) (pc' := 132) dX5_readValue_130 rfl rfl ?_
    refine sm_aload_n (i := 1) (j := 3) (pc' := 133) dX5_readValue_132 rfl rfl rfl ?_
    refine sm_cVI (pc' := 136) (ci := 5) (st := []) (F := fun b => fX5_takeNumber b x5 x6 a1 h26) [vI x5, vI x6, vR a1] yY_yX5_takeNumber rfl mw217 mw218 mw219 (fun b => mX5_takeNumber l D aC B b x5 x6 a1 h26) rfl (by decide) (by decide) (by exact Nat.le_of_ble_eq_true rfl) rfl dX5_readValue_133 rfl (fun x27 h28 => ?_)
    refine sm_if_eq (tgt := 143) (pc' := 139) dX5_readValue_136 (by decide) rfl ?_ ?_
    · refine sm_iconst (v := (0 : Int32)) (pc' := 144) dX5_readValue_143 rfl (by decide) ?_
      exact sm_zret0 rfl dX5_readValue_144
    refine sm_iconst (v := (1 : Int32)) (pc' := 140) dX5_readValue_139 rfl (by decide) ?_
    refine sm_goto (pc' := 144) dX5_readValue_140 (by decide) ?_
    exact sm_zret1 rfl dX5_readValue_144
  refine sm_iconst (v := (0 : Int32)) (pc' := 27) dX5_readValue_26 rfl (by decide) ?_
  exact sm_zret0 rfl dX5_readValue_27
set_option maxRecDepth 100000 in
theorem mX5_readValue (l : Launch) (D : va_G) (aC : Nat → ClassId) (B : Nat) (a0 : Nat) (a1 : Option Nat) (a2 : Int32) (h : sm_H) : sm_M l D vwCl gAts aC B gTs gNs gOs yX5_readValue cX5_readValue 5 (some .boolean) 3 71 vlI [vR (some a0), vR a1, vI a2] h (fX5_readValue a0 a1 a2 h) := sm_meth [vR (some a0), vR a1, vI a2] yY_yX5_readValue gG gN (Nat.le_of_ble_eq_true rfl) rfl (sX5_readValue_0 l D aC B a0 a1 a2 h)
-- M:TreeAgent$Reader.readPair(LTreeAgent$Pair;)Z
noncomputable def fX5_readPair_29  (a0 : Nat) (a1 : Option Nat) (a2 : Int32) (s0 : Int32) (h : sm_H) : Option (Int32 × sm_H) :=
  if s0 < 0 then (
    some ((0 : Int32), h)
  ) else
  (sm_R (sm_get h a1 4 0)).bind fun x1 =>
  (sm_obj h (some a0) 5).bind fun b9 =>
  sm_cb (fX5_takeName b9 x1 s0 h) fun x2 h3 =>
  if x2 = 0 then (
    some ((0 : Int32), h3)
  ) else
  (sm_R (sm_get h3 a1 4 1)).bind fun x4 =>
  (sm_obj h3 (some a0) 5).bind fun b8 =>
  sm_cb (fX5_readValue b8 x4 a2 h3) fun x5 h6 =>
  if x5 = 0 then (
    some ((0 : Int32), h6)
  ) else
  (sm_I (sm_get h6 (some a0) 5 2)).bind fun x7 =>
  if x7 = a2 then (
    some ((1 : Int32), h6)
  ) else
  some ((0 : Int32), h6)
set_option maxRecDepth 100000 in
set_option maxHeartbeats 4000000 in
theorem sX5_readPair_29 (l : Launch) (D : va_G) (aC : Nat → ClassId) (B : Nat)   (a0 : Nat) (a1 : Option Nat) (a2 : Int32) (s0 : Int32) (h : sm_H) : zS l D aC B cX5_readPair 4 RX5 4 95 (some .boolean) "readPair" vlI (fX5_readPair_29 a0 a1 a2 s0 h) 29 [(0, vR (some a0)), (1, vR a1), (2, vI a2)] [vI s0] h := by
  unfold fX5_readPair_29
  refine sm_istore_n (i := 3) (lv' := [(3, vI s0), (0, vR (some a0)), (1, vR a1), (2, vI a2)]) (pc' := 30) dX5_readPair_29 rfl rfl (by decide) rfl ?_
  refine sm_iload_n (i := 3) (j := 0) (pc' := 31) dX5_readPair_30 rfl rfl rfl ?_
  refine sm_if_lt (tgt := 46) (pc' := 34) dX5_readPair_31 (by decide) rfl ?_ ?_
  · refine sm_iconst (v := (0 : Int32)) (pc' := 47) dX5_readPair_46 rfl (by decide) ?_
    exact sm_zret0 rfl dX5_readPair_47
  refine sm_aload_n (i := 0) (j := 1) (pc' := 35) dX5_readPair_34 rfl rfl rfl ?_
  refine sm_aload_n (i := 1) (j := 2) (pc' := 36) dX5_readPair_35 rfl rfl rfl ?_
  refine sm_getRN (k := 0) (pc' := 39) kX4 (by decide) mw249 dX5_readPair_36 rfl (fun x1 => ?_)
  refine sm_iload_n (i := 3) (j := 0) (pc' := 40) dX5_readPair_39 rfl rfl rfl ?_
  refine sm_cVI (pc' := 43) (ci := 5) (st := []) (F := fun b => fX5_takeName b x1 s0 h) [vR x1, vI s0] yY_yX5_takeName rfl mw241 mw242 mw243 (fun b => mX5_takeName l D aC B b x1 s0 h) rfl (by decide) (by decide) (by exact Nat.le_of_ble_eq_true rfl) rfl dX5_readPair_40 rfl (fun x2 h3 => ?_)
  refine sm_if_ne (tgt := 48) (pc' := 46) dX5_readPair_43 (by decide) rfl ?_ ?_
  · refine sm_aload_n (i := 0) (j := 1) (pc' := 49) dX5_readPair_48 rfl rfl rfl ?_
    refine sm_aload_n (i := 1) (j := 2) (pc' := 50) dX5_readPair_49 rfl rfl rfl ?_
    refine sm_getRN (k := 1) (pc' := 53) kX4 (by decide) mw250 dX5_readPair_50 rfl (fun x4 => ?_)
    refine sm_iload_n (i := 2) (j := 3) (pc' := 54) dX5_readPair_53 rfl rfl rfl ?_
    refine sm_cVI (pc' := 57) (ci := 5) (st := []) (F := fun b => fX5_readValue b x4 a2 h3) [vR x4, vI a2] yY_yX5_readValue rfl mw251 mw252 mw253 (fun b => mX5_readValue l D aC B b x4 a2 h3) rfl (by decide) (by decide) (by exact Nat.le_of_ble_eq_true rfl) rfl dX5_readPair_54 rfl (fun x5 h6 => ?_)
    refine sm_if_eq (tgt := 72) (pc' := 60) dX5_readPair_57 (by decide) rfl ?_ ?_
    · refine sm_iconst (v := (0 : Int32)) (pc' := 73) dX5_readPair_72 rfl (by decide) ?_
      exact sm_zret0 rfl dX5_readPair_73
    refine sm_aload_n (i := 0) (j := 1) (pc' := 61) dX5_readPair_60 rfl rfl rfl ?_
    refine sm_getI (k := 2) (pc' := 64) kX5 (by decide) mw197 dX5_readPair_61 rfl (fun x7 => ?_)
    refine sm_iload_n (i := 2) (j := 3) (pc' := 65) dX5_readPair_64 rfl rfl rfl ?_
    refine sm_icmp_ne (tgt := 72) (pc' := 68) dX5_readPair_65 (by decide) rfl ?_ ?_
    · refine sm_iconst (v := (0 : Int32)) (pc' := 73) dX5_readPair_72 rfl (by decide) ?_
      exact sm_zret0 rfl dX5_readPair_73
    refine sm_iconst (v := (1 : Int32)) (pc' := 69) dX5_readPair_68 rfl (by decide) ?_
    refine sm_goto (pc' := 73) dX5_readPair_69 (by decide) ?_
    exact sm_zret1 rfl dX5_readPair_73
  refine sm_iconst (v := (0 : Int32)) (pc' := 47) dX5_readPair_46 rfl (by decide) ?_
  exact sm_zret0 rfl dX5_readPair_47
noncomputable def fX5_readPair  (a0 : Nat) (a1 : Option Nat) (h : sm_H) : Option (Int32 × sm_H) :=
  (sm_R (sm_get h (some a0) 5 0)).bind fun x1 =>
  (sm_obj h x1 0).bind fun b10 =>
  sm_cb (fX0_size b10 h) fun x2 h3 =>
  (sm_obj h3 (some a0) 5).bind fun b9 =>
  sm_cb (fX5_enter b9 (48 : Int32) x2 h3) fun x4 h5 =>
  if 0 ≤ x4 then (
    (sm_obj h5 (some a0) 5).bind fun b8 =>
    sm_cb (fX5_enter b8 (6 : Int32) x4 h5) fun x6 h7 =>
    fX5_readPair_29 a0 a1 x4 x6 h7
  ) else
  fX5_readPair_29 a0 a1 x4 (-1 : Int32) h5
set_option maxRecDepth 100000 in
set_option maxHeartbeats 4000000 in
theorem sX5_readPair_0 (l : Launch) (D : va_G) (aC : Nat → ClassId) (B : Nat)   (a0 : Nat) (a1 : Option Nat) (h : sm_H) : zS l D aC B cX5_readPair 4 RX5 4 95 (some .boolean) "readPair" vlI (fX5_readPair a0 a1 h) 0 [(0, vR (some a0)), (1, vR a1)] [] h := by
  unfold fX5_readPair
  refine sm_aload_n (i := 0) (j := 0) (pc' := 1) dX5_readPair_0 rfl rfl rfl ?_
  refine sm_bipush (v := (48 : Int32)) (pc' := 3) dX5_readPair_1 rfl (by decide) ?_
  refine sm_aload_n (i := 0) (j := 0) (pc' := 4) dX5_readPair_3 rfl rfl rfl ?_
  refine sm_getR (k := 0) (pc' := 7) kX5 (by decide) mw195 dX5_readPair_4 rfl (fun x1 => ?_)
  refine sm_cVI (pc' := 10) (ci := 0) (st := [vI (48 : Int32), vR (some a0)]) (F := fun b => fX0_size b h) [] yY_yX0_size rfl mw206 mw32 mw33 (fun b => mX0_size l D aC B b h) rfl (by decide) (by decide) (by exact Nat.le_of_ble_eq_true rfl) rfl dX5_readPair_7 rfl (fun x2 h3 => ?_)
  refine sm_cVI (pc' := 13) (ci := 5) (st := []) (F := fun b => fX5_enter b (48 : Int32) x2 h3) [vI (48 : Int32), vI x2] yY_yX5_enter rfl mw207 mw208 mw209 (fun b => mX5_enter l D aC B b (48 : Int32) x2 h3) rfl (by decide) (by decide) (by exact Nat.le_of_ble_eq_true rfl) rfl dX5_readPair_10 rfl (fun x4 h5 => ?_)
  refine sm_istore_n (i := 2) (lv' := [(2, vI x4), (0, vR (some a0)), (1, vR a1)]) (pc' := 14) dX5_readPair_13 rfl rfl (by decide) rfl ?_
  refine sm_iload_n (i := 2) (j := 0) (pc' := 15) dX5_readPair_14 rfl rfl rfl ?_
  refine sm_if_ge (tgt := 22) (pc' := 18) dX5_readPair_15 (by decide) rfl ?_ ?_
  · refine sm_aload_n (i := 0) (j := 1) (pc' := 23) dX5_readPair_22 rfl rfl rfl ?_
    refine sm_bipush (v := (6 : Int32)) (pc' := 25) dX5_readPair_23 rfl (by decide) ?_
    refine sm_iload_n (i := 2) (j := 0) (pc' := 26) dX5_readPair_25 rfl rfl rfl ?_
    refine sm_cVI (pc' := 29) (ci := 5) (st := []) (F := fun b => fX5_enter b (6 : Int32) x4 h5) [vI (6 : Int32), vI x4] yY_yX5_enter rfl mw207 mw208 mw209 (fun b => mX5_enter l D aC B b (6 : Int32) x4 h5) rfl (by decide) (by decide) (by exact Nat.le_of_ble_eq_true rfl) rfl dX5_readPair_26 rfl (fun x6 h7 => ?_)
    refine sm_lo (lv' := [(0, vR (some a0)), (1, vR a1), (2, vI x4)]) [1, 2, 0] rfl ?_
    exact sX5_readPair_29 l D aC B  a0 a1 x4 x6 h7
  refine sm_iconst (v := (-1 : Int32)) (pc' := 19) dX5_readPair_18 rfl (by decide) ?_
  refine sm_goto (pc' := 29) dX5_readPair_19 (by decide) ?_
  refine sm_lo (lv' := [(0, vR (some a0)), (1, vR a1), (2, vI x4)]) [1, 2, 0] rfl ?_
  exact sX5_readPair_29 l D aC B  a0 a1 x4 (-1 : Int32) h5
set_option maxRecDepth 100000 in
theorem mX5_readPair (l : Launch) (D : va_G) (aC : Nat → ClassId) (B : Nat) (a0 : Nat) (a1 : Option Nat) (h : sm_H) : sm_M l D vwCl gAts aC B gTs gNs gOs yX5_readPair cX5_readPair 4 (some .boolean) 4 95 vlI [vR (some a0), vR a1] h (fX5_readPair a0 a1 h) := sm_meth [vR (some a0), vR a1] yY_yX5_readPair gG gN (Nat.le_of_ble_eq_true rfl) rfl (sX5_readPair_0 l D aC B a0 a1 h)
-- M:TreeAgent$Reader.readBody(LTreeAgent$Message;)Z
noncomputable def fX5_readBody_178  (a0 : Nat) (h : sm_H) : Option (Int32 × sm_H) :=
  (sm_I (sm_get h (some a0) 5 2)).bind fun x1 =>
  (sm_R (sm_get h (some a0) 5 0)).bind fun x2 =>
  (sm_obj h x2 0).bind fun b5 =>
  sm_cb (fX0_size b5 h) fun x3 h4 =>
  if x1 = x3 then (
    some ((1 : Int32), h4)
  ) else
  some ((0 : Int32), h4)
set_option maxRecDepth 100000 in
set_option maxHeartbeats 4000000 in
theorem sX5_readBody_178 (l : Launch) (D : va_G) (aC : Nat → ClassId) (B : Nat)   (a0 : Nat) (h : sm_H) : zS l D aC B cX5_readBody 4 RX5 5 118 (some .boolean) "readBody" vlI (fX5_readBody_178 a0 h) 178 [(0, vR (some a0))] [] h := by
  unfold fX5_readBody_178
  refine sm_aload_n (i := 0) (j := 0) (pc' := 179) dX5_readBody_178 rfl rfl rfl ?_
  refine sm_getI (k := 2) (pc' := 182) kX5 (by decide) mw197 dX5_readBody_179 rfl (fun x1 => ?_)
  refine sm_aload_n (i := 0) (j := 0) (pc' := 183) dX5_readBody_182 rfl rfl rfl ?_
  refine sm_getR (k := 0) (pc' := 186) kX5 (by decide) mw195 dX5_readBody_183 rfl (fun x2 => ?_)
  refine sm_cVI (pc' := 189) (ci := 0) (st := [vI x1]) (F := fun b => fX0_size b h) [] yY_yX0_size rfl mw206 mw32 mw33 (fun b => mX0_size l D aC B b h) rfl (by decide) (by decide) (by exact Nat.le_of_ble_eq_true rfl) rfl dX5_readBody_186 rfl (fun x3 h4 => ?_)
  refine sm_icmp_ne (tgt := 196) (pc' := 192) dX5_readBody_189 (by decide) rfl ?_ ?_
  · refine sm_iconst (v := (0 : Int32)) (pc' := 197) dX5_readBody_196 rfl (by decide) ?_
    exact sm_zret0 rfl dX5_readBody_197
  refine sm_iconst (v := (1 : Int32)) (pc' := 193) dX5_readBody_192 rfl (by decide) ?_
  refine sm_goto (pc' := 197) dX5_readBody_193 (by decide) ?_
  exact sm_zret1 rfl dX5_readBody_197
noncomputable def fX5_readBody_122  : Nat → Nat → Option Nat → Int32 → sm_H → Option (Int32 × sm_H)
  | 0 => fun _ _ _ _ => none
  | n + 1 => fun a0 a1 a2 h =>
    if (20 : Int32) ≤ a2 then (
      fX5_readBody_178 a0 h
    ) else
    (sm_I (sm_get h (some a0) 5 2)).bind fun x1 =>
    (sm_R (sm_get h (some a0) 5 0)).bind fun x2 =>
    (sm_obj h x2 0).bind fun b14 =>
    sm_cb (fX0_size b14 h) fun x3 h4 =>
    if x3 ≤ x1 then (
      fX5_readBody_178 a0 h4
    ) else
    (sm_obj h4 a1 3).bind fun b13 =>
    sm_cb (fX3_pairAt b13 a2 h4) fun x5 h6 =>
    if x5 = none then (
      some ((0 : Int32), h6)
    ) else
    (sm_obj h6 (some a0) 5).bind fun b12 =>
    sm_cb (fX5_readPair b12 x5 h6) fun x7 h8 =>
    if x7 = 0 then (
      some ((0 : Int32), h8)
    ) else
    (sm_I (sm_get h8 a1 3 8)).bind fun x9 =>
    (sm_put h8 a1 3 8 (sm_v (vI (x9 + (1 : Int32))))).bind fun h10 =>
    sm_let (a2 + (1 : Int32)) fun x11 =>
    (fX5_readBody_122 n) a0 a1 x11 h10
set_option maxRecDepth 100000 in
set_option maxHeartbeats 4000000 in
theorem sX5_readBody_122 (l : Launch) (D : va_G) (aC : Nat → ClassId) (B : Nat)   (n : Nat) : ∀ (a0 : Nat) (a1 : Option Nat) (a2 : Int32) (h : sm_H), zS l D aC B cX5_readBody 4 RX5 5 118 (some .boolean) "readBody" vlI (fX5_readBody_122 n a0 a1 a2 h) 122 [(0, vR (some a0)), (1, vR a1), (2, vI a2)] [] h := by
  induction n with
  | zero => intro a0 a1 a2 h; exact sm_none
  | succ n ih =>
    intro a0 a1 a2 h
    show zS l D aC B cX5_readBody 4 RX5 5 118 (some .boolean) "readBody" vlI (fX5_readBody_122 (n + 1) a0 a1 a2 h) 122 [(0, vR (some a0)), (1, vR a1), (2, vI a2)] [] h
    unfold fX5_readBody_122
    refine sm_iload_n (i := 2) (j := 2) (pc' := 123) dX5_readBody_122 rfl rfl rfl ?_
    refine sm_bipush (v := (20 : Int32)) (pc' := 125) dX5_readBody_123 rfl (by decide) ?_
    refine sm_icmp_ge (tgt := 178) (pc' := 128) dX5_readBody_125 (by decide) rfl ?_ ?_
    · refine sm_lo (lv' := [(0, vR (some a0))]) [0] rfl ?_
      exact sX5_readBody_178 l D aC B  a0 h
    refine sm_aload_n (i := 0) (j := 0) (pc' := 129) dX5_readBody_128 rfl rfl rfl ?_
    refine sm_getI (k := 2) (pc' := 132) kX5 (by decide) mw197 dX5_readBody_129 rfl (fun x1 => ?_)
    refine sm_aload_n (i := 0) (j := 0) (pc' := 133) dX5_readBody_132 rfl rfl rfl ?_
    refine sm_getR (k := 0) (pc' := 136) kX5 (by decide) mw195 dX5_readBody_133 rfl (fun x2 => ?_)
    refine sm_cVI (pc' := 139) (ci := 0) (st := [vI x1]) (F := fun b => fX0_size b h) [] yY_yX0_size rfl mw206 mw32 mw33 (fun b => mX0_size l D aC B b h) rfl (by decide) (by decide) (by exact Nat.le_of_ble_eq_true rfl) rfl dX5_readBody_136 rfl (fun x3 h4 => ?_)
    refine sm_icmp_ge (tgt := 178) (pc' := 142) dX5_readBody_139 (by decide) rfl ?_ ?_
    · refine sm_lo (lv' := [(0, vR (some a0))]) [0] rfl ?_
      exact sX5_readBody_178 l D aC B  a0 h4
    refine sm_aload_n (i := 1) (j := 1) (pc' := 143) dX5_readBody_142 rfl rfl rfl ?_
    refine sm_iload_n (i := 2) (j := 2) (pc' := 144) dX5_readBody_143 rfl rfl rfl ?_
    refine sm_cVR (pc' := 147) (ci := 3) (st := []) (F := fun b => fX3_pairAt b a2 h4) [vI a2] yY_yX3_pairAt rfl mw254 mw78 mw79 (fun b => mX3_pairAt l D aC B b a2 h4) rfl (by decide) (by decide) (by exact Nat.le_of_ble_eq_true rfl) rfl dX5_readBody_144 rfl (fun x5 h6 => ?_)
    refine sm_astore_n (i := 3) (lv' := [(3, vR x5), (0, vR (some a0)), (1, vR a1), (2, vI a2)]) (pc' := 148) dX5_readBody_147 rfl rfl (by decide) rfl ?_
    refine sm_aload_n (i := 3) (j := 0) (pc' := 149) dX5_readBody_148 rfl rfl rfl ?_
    refine sm_ifnull (tgt := 160) (pc' := 152) dX5_readBody_149 (by decide) rfl ?_ ?_
    · refine sm_iconst (v := (0 : Int32)) (pc' := 161) dX5_readBody_160 rfl (by decide) ?_
      exact sm_zret0 rfl dX5_readBody_161
    refine sm_aload_n (i := 0) (j := 1) (pc' := 153) dX5_readBody_152 rfl rfl rfl ?_
    refine sm_aload_n (i := 3) (j := 0) (pc' := 154) dX5_readBody_153 rfl rfl rfl ?_
    refine sm_cVI (pc' := 157) (ci := 5) (st := []) (F := fun b => fX5_readPair b x5 h6) [vR x5] yY_yX5_readPair rfl mw255 mw257 mw258 (fun b => mX5_readPair l D aC B b x5 h6) rfl (by decide) (by decide) (by exact Nat.le_of_ble_eq_true rfl) rfl dX5_readBody_154 rfl (fun x7 h8 => ?_)
    refine sm_if_ne (tgt := 162) (pc' := 160) dX5_readBody_157 (by decide) rfl ?_ ?_
    · refine sm_aload_n (i := 1) (j := 2) (pc' := 163) dX5_readBody_162 rfl rfl rfl ?_
      refine sm_dup (pc' := 164) rfl dX5_readBody_163 rfl ?_
      refine sm_getIN (k := 8) (pc' := 167) kX3 (by decide) mw256 dX5_readBody_164 rfl (fun x9 => ?_)
      refine sm_iconst (v := (1 : Int32)) (pc' := 168) dX5_readBody_167 rfl (by decide) ?_
      refine sm_iadd (pc' := 169) dX5_readBody_168 rfl ?_
      refine sm_putNI (k := 8) (pc' := 172) kX3 (by decide) mw256 rfl rfl dX5_readBody_169 rfl (fun h10 => ?_)
      refine sm_iincL (i := 2) (j := 3) (x := a2) (d := (1 : Int32)) (fun x11 => [(2, vI x11), (3, vR x5), (0, vR (some a0)), (1, vR a1)]) (pc' := 175) dX5_readBody_172 rfl rfl (by decide) (by decide) (fun _ => rfl) (fun x11 => ?_)
      refine sm_goto (pc' := 122) dX5_readBody_175 (by decide) ?_
      refine sm_lo (lv' := [(0, vR (some a0)), (1, vR a1), (2, vI x11)]) [2, 3, 0] rfl ?_
      exact ih a0 a1 x11 h10
    refine sm_iconst (v := (0 : Int32)) (pc' := 161) dX5_readBody_160 rfl (by decide) ?_
    exact sm_zret0 rfl dX5_readBody_161
noncomputable def fX5_readBody  (a0 : Nat) (a1 : Option Nat) (h : sm_H) : Option (Int32 × sm_H) :=
  (sm_R (sm_get h (some a0) 5 0)).bind fun x1 =>
  (sm_I (sm_get h (some a0) 5 2)).bind fun x2 =>
  (sm_obj h x1 0).bind fun b36 =>
  sm_cb (fX0_at b36 x2 h) fun x3 h4 =>
  (sm_put h4 a1 3 4 (sm_v (vI (x3.toInt32)))).bind fun h5 =>
  (sm_put h5 a1 3 8 (sm_v (vI (0 : Int32)))).bind fun h6 =>
  (sm_I (sm_get h6 a1 3 4)).bind fun x7 =>
  (sm_I (sm_get h6 a1 3 3)).bind fun x8 =>
  sm_cb (fX5_isKind x7 x8 h6) fun x9 h10 =>
  if x9 = 0 then (
    some ((0 : Int32), h10)
  ) else
  (sm_I (sm_get h10 a1 3 4)).bind fun x11 =>
  (sm_obj h10 (some a0) 5).bind fun b35 =>
  sm_cb (fX5_enterLast b35 x11 h10) fun x12 h13 =>
  if x12 = 0 then (
    some ((0 : Int32), h13)
  ) else
  (sm_obj h13 (some a0) 5).bind fun b34 =>
  sm_cb (fX5_readInteger b34 h13) fun x14 h15 =>
  if x14 = 0 then (
    some ((0 : Int32), h15)
  ) else
  (sm_R (sm_get h15 (some a0) 5 1)).bind fun x16 =>
  (sm_J (sm_get h15 x16 10 2)).bind fun x17 =>
  (sm_put h15 a1 3 5 (sm_v (vI (x17.toInt32)))).bind fun h18 =>
  (sm_obj h18 (some a0) 5).bind fun b33 =>
  sm_cb (fX5_readInteger b33 h18) fun x19 h20 =>
  if x19 = 0 then (
    some ((0 : Int32), h20)
  ) else
  (sm_R (sm_get h20 (some a0) 5 1)).bind fun x21 =>
  (sm_J (sm_get h20 x21 10 2)).bind fun x22 =>
  (sm_put h20 a1 3 6 (sm_v (vI (x22.toInt32)))).bind fun h23 =>
  (sm_obj h23 (some a0) 5).bind fun b32 =>
  sm_cb (fX5_readInteger b32 h23) fun x24 h25 =>
  if x24 = 0 then (
    some ((0 : Int32), h25)
  ) else
  (sm_R (sm_get h25 (some a0) 5 1)).bind fun x26 =>
  (sm_J (sm_get h25 x26 10 2)).bind fun x27 =>
  (sm_put h25 a1 3 7 (sm_v (vI (x27.toInt32)))).bind fun h28 =>
  (sm_obj h28 (some a0) 5).bind fun b31 =>
  sm_cb (fX5_enterLast b31 (48 : Int32) h28) fun x29 h30 =>
  if x29 = 0 then (
    some ((0 : Int32), h30)
  ) else
  fX5_readBody_122 sm_fuel a0 a1 (0 : Int32) h30
set_option maxRecDepth 100000 in
set_option maxHeartbeats 4000000 in
theorem sX5_readBody_0 (l : Launch) (D : va_G) (aC : Nat → ClassId) (B : Nat)   (a0 : Nat) (a1 : Option Nat) (h : sm_H) : zS l D aC B cX5_readBody 4 RX5 5 118 (some .boolean) "readBody" vlI (fX5_readBody a0 a1 h) 0 [(0, vR (some a0)), (1, vR a1)] [] h := by
  unfold fX5_readBody
  refine sm_aload_n (i := 1) (j := 1) (pc' := 1) dX5_readBody_0 rfl rfl rfl ?_
  refine sm_aload_n (i := 0) (j := 0) (pc' := 2) dX5_readBody_1 rfl rfl rfl ?_
  refine sm_getR (k := 0) (pc' := 5) kX5 (by decide) mw195 dX5_readBody_2 rfl (fun x1 => ?_)
  refine sm_aload_n (i := 0) (j := 0) (pc' := 6) dX5_readBody_5 rfl rfl rfl ?_
  refine sm_getI (k := 2) (pc' := 9) kX5 (by decide) mw197 dX5_readBody_6 rfl (fun x2 => ?_)
  refine sm_cVJ (pc' := 12) (ci := 0) (st := [vR a1]) (F := fun b => fX0_at b x2 h) [vI x2] yY_yX0_at rfl mw198 mw15 mw16 (fun b => mX0_at l D aC B b x2 h) rfl (by decide) (by decide) (by exact Nat.le_of_ble_eq_true rfl) rfl dX5_readBody_9 rfl (fun x3 h4 => ?_)
  refine sm_l2i (pc' := 13) dX5_readBody_12 rfl ?_
  refine sm_putNI (k := 4) (pc' := 16) kX3 (by decide) mw259 rfl rfl dX5_readBody_13 rfl (fun h5 => ?_)
  refine sm_aload_n (i := 1) (j := 1) (pc' := 17) dX5_readBody_16 rfl rfl rfl ?_
  refine sm_iconst (v := (0 : Int32)) (pc' := 18) dX5_readBody_17 rfl (by decide) ?_
  refine sm_putNI (k := 8) (pc' := 21) kX3 (by decide) mw256 rfl rfl dX5_readBody_18 rfl (fun h6 => ?_)
  refine sm_aload_n (i := 1) (j := 1) (pc' := 22) dX5_readBody_21 rfl rfl rfl ?_
  refine sm_getIN (k := 4) (pc' := 25) kX3 (by decide) mw259 dX5_readBody_22 rfl (fun x7 => ?_)
  refine sm_aload_n (i := 1) (j := 1) (pc' := 26) dX5_readBody_25 rfl rfl rfl ?_
  refine sm_getIN (k := 3) (pc' := 29) kX3 (by decide) mw222 dX5_readBody_26 rfl (fun x8 => ?_)
  refine sm_cSI (pc' := 32) (st := []) [vI x7, vI x8] yY_yX5_isKind mw260 mw264 (mX5_isKind l D aC B x7 x8 h6) rfl (by decide) (by decide) (by exact Nat.le_of_ble_eq_true rfl) rfl dX5_readBody_29 rfl (fun x9 h10 => ?_)
  refine sm_if_eq (tgt := 53) (pc' := 35) dX5_readBody_32 (by decide) rfl ?_ ?_
  · refine sm_iconst (v := (0 : Int32)) (pc' := 54) dX5_readBody_53 rfl (by decide) ?_
    exact sm_zret0 rfl dX5_readBody_54
  refine sm_aload_n (i := 0) (j := 0) (pc' := 36) dX5_readBody_35 rfl rfl rfl ?_
  refine sm_aload_n (i := 1) (j := 1) (pc' := 37) dX5_readBody_36 rfl rfl rfl ?_
  refine sm_getIN (k := 4) (pc' := 40) kX3 (by decide) mw259 dX5_readBody_37 rfl (fun x11 => ?_)
  refine sm_cVI (pc' := 43) (ci := 5) (st := []) (F := fun b => fX5_enterLast b x11 h10) [vI x11] yY_yX5_enterLast rfl mw227 mw231 mw232 (fun b => mX5_enterLast l D aC B b x11 h10) rfl (by decide) (by decide) (by exact Nat.le_of_ble_eq_true rfl) rfl dX5_readBody_40 rfl (fun x12 h13 => ?_)
  refine sm_if_eq (tgt := 53) (pc' := 46) dX5_readBody_43 (by decide) rfl ?_ ?_
  · refine sm_iconst (v := (0 : Int32)) (pc' := 54) dX5_readBody_53 rfl (by decide) ?_
    exact sm_zret0 rfl dX5_readBody_54
  refine sm_aload_n (i := 0) (j := 0) (pc' := 47) dX5_readBody_46 rfl rfl rfl ?_
  refine sm_cVI (pc' := 50) (ci := 5) (st := []) (F := fun b => fX5_readInteger b h13) [] yY_yX5_readInteger rfl mw228 mw229 mw230 (fun b => mX5_readInteger l D aC B b h13) rfl (by decide) (by decide) (by exact Nat.le_of_ble_eq_true rfl) rfl dX5_readBody_47 rfl (fun x14 h15 => ?_)
  refine sm_if_ne (tgt := 55) (pc' := 53) dX5_readBody_50 (by decide) rfl ?_ ?_
  · refine sm_aload_n (i := 1) (j := 1) (pc' := 56) dX5_readBody_55 rfl rfl rfl ?_
    refine sm_aload_n (i := 0) (j := 0) (pc' := 57) dX5_readBody_56 rfl rfl rfl ?_
    refine sm_getR (k := 1) (pc' := 60) kX5 (by decide) mw194 dX5_readBody_57 rfl (fun x16 => ?_)
    refine sm_getJN (k := 2) (pc' := 63) kX10 (by decide) mw215 dX5_readBody_60 rfl (fun x17 => ?_)
    refine sm_l2i (pc' := 64) dX5_readBody_63 rfl ?_
    refine sm_putNI (k := 5) (pc' := 67) kX3 (by decide) mw261 rfl rfl dX5_readBody_64 rfl (fun h18 => ?_)
    refine sm_aload_n (i := 0) (j := 0) (pc' := 68) dX5_readBody_67 rfl rfl rfl ?_
    refine sm_cVI (pc' := 71) (ci := 5) (st := []) (F := fun b => fX5_readInteger b h18) [] yY_yX5_readInteger rfl mw228 mw229 mw230 (fun b => mX5_readInteger l D aC B b h18) rfl (by decide) (by decide) (by exact Nat.le_of_ble_eq_true rfl) rfl dX5_readBody_68 rfl (fun x19 h20 => ?_)
    refine sm_if_ne (tgt := 76) (pc' := 74) dX5_readBody_71 (by decide) rfl ?_ ?_
    · refine sm_aload_n (i := 1) (j := 1) (pc' := 77) dX5_readBody_76 rfl rfl rfl ?_
      refine sm_aload_n (i := 0) (j := 0) (pc' := 78) dX5_readBody_77 rfl rfl rfl ?_
      refine sm_getR (k := 1) (pc' := 81) kX5 (by decide) mw194 dX5_readBody_78 rfl (fun x21 => ?_)
      refine sm_getJN (k := 2) (pc' := 84) kX10 (by decide) mw215 dX5_readBody_81 rfl (fun x22 => ?_)
      refine sm_l2i (pc' := 85) dX5_readBody_84 rfl ?_
      refine sm_putNI (k := 6) (pc' := 88) kX3 (by decide) mw262 rfl rfl dX5_readBody_85 rfl (fun h23 => ?_)
      refine sm_aload_n (i := 0) (j := 0) (pc' := 89) dX5_readBody_88 rfl rfl rfl ?_
      refine sm_cVI (pc' := 92) (ci := 5) (st := []) (F := fun b => fX5_readInteger b h23) [] yY_yX5_readInteger rfl mw228 mw229 mw230 (fun b => mX5_readInteger l D aC B b h23) rfl (by decide) (by decide) (by exact Nat.le_of_ble_eq_true rfl) rfl dX5_readBody_89 rfl (fun x24 h25 => ?_)
      refine sm_if_ne (tgt := 97) (pc' := 95) dX5_readBody_92 (by decide) rfl ?_ ?_
      · refine sm_aload_n (i := 1) (j := 1) (pc' := 98) dX5_readBody_97 rfl rfl rfl ?_
        refine sm_aload_n (i := 0) (j := 0) (pc' := 99) dX5_readBody_98 rfl rfl rfl ?_
        refine sm_getR (k := 1) (pc' := 102) kX5 (by decide) mw194 dX5_readBody_99 rfl (fun x26 => ?_)
        refine sm_getJN (k := 2) (pc' := 105) kX10 (by decide) mw215 dX5_readBody_102 rfl (fun x27 => ?_)
        refine sm_l2i (pc' := 106) dX5_readBody_105 rfl ?_
        refine sm_putNI (k := 7) (pc' := 109) kX3 (by decide) mw263 rfl rfl dX5_readBody_106 rfl (fun h28 => ?_)
        refine sm_aload_n (i := 0) (j := 0) (pc' := 110) dX5_readBody_109 rfl rfl rfl ?_
        refine sm_bipush (v := (48 : Int32)) (pc' := 112) dX5_readBody_110 rfl (by decide) ?_
        refine sm_cVI (pc' := 115) (ci := 5) (st := []) (F := fun b => fX5_enterLast b (48 : Int32) h28) [vI (48 : Int32)] yY_yX5_enterLast rfl mw227 mw231 mw232 (fun b => mX5_enterLast l D aC B b (48 : Int32) h28) rfl (by decide) (by decide) (by exact Nat.le_of_ble_eq_true rfl) rfl dX5_readBody_112 rfl (fun x29 h30 => ?_)
        refine sm_if_ne (tgt := 120) (pc' := 118) dX5_readBody_115 (by decide) rfl ?_ ?_
        · refine sm_iconst (v := (0 : Int32)) (pc' := 121) dX5_readBody_120 rfl (by decide) ?_
          refine sm_istore_n (i := 2) (lv' := [(2, vI (0 : Int32)), (0, vR (some a0)), (1, vR a1)]) (pc' := 122) dX5_readBody_121 rfl rfl (by decide) rfl ?_
          refine sm_lo (lv' := [(0, vR (some a0)), (1, vR a1), (2, vI (0 : Int32))]) [1, 2, 0] rfl ?_
          exact sX5_readBody_122 l D aC B   sm_fuel a0 a1 (0 : Int32) h30
        refine sm_iconst (v := (0 : Int32)) (pc' := 119) dX5_readBody_118 rfl (by decide) ?_
        exact sm_zret0 rfl dX5_readBody_119
      refine sm_iconst (v := (0 : Int32)) (pc' := 96) dX5_readBody_95 rfl (by decide) ?_
      exact sm_zret0 rfl dX5_readBody_96
    refine sm_iconst (v := (0 : Int32)) (pc' := 75) dX5_readBody_74 rfl (by decide) ?_
    exact sm_zret0 rfl dX5_readBody_75
  refine sm_iconst (v := (0 : Int32)) (pc' := 54) dX5_readBody_53 rfl (by decide) ?_
  exact sm_zret0 rfl dX5_readBody_54
set_option maxRecDepth 100000 in
theorem mX5_readBody (l : Launch) (D : va_G) (aC : Nat → ClassId) (B : Nat) (a0 : Nat) (a1 : Option Nat) (h : sm_H) : sm_M l D vwCl gAts aC B gTs gNs gOs yX5_readBody cX5_readBody 4 (some .boolean) 5 118 vlI [vR (some a0), vR a1] h (fX5_readBody a0 a1 h) := sm_meth [vR (some a0), vR a1] yY_yX5_readBody gG gN (Nat.le_of_ble_eq_true rfl) rfl (sX5_readBody_0 l D aC B a0 a1 h)
-- M:TreeAgent$Reply.<init>()V
noncomputable def fX6_init_39  : Nat → Nat → Option Nat → Int32 → sm_H → Option (Unit × sm_H)
  | 0 => fun _ _ _ _ => none
  | n + 1 => fun a0 a1 a2 h =>
    (sm_R (sm_get h (some a0) 6 1)).bind fun x1 =>
    (sm_len h x1 7).bind fun x2 =>
    if x2 ≤ a2 then (
      some ((), h)
    ) else
    (sm_R (sm_get h (some a0) 6 1)).bind fun x3 =>
    sm_let (sm_new h 4 [.null, .null]) fun h4 =>
    sm_cb (fX4_init h.1 a1 h4) fun _ h5 =>
    (sm_sR h5 x3 7 4 a2 (some h.1)).bind fun h6 =>
    sm_let (a2 + (1 : Int32)) fun x7 =>
    (fX6_init_39 n) a0 a1 x7 h6
set_option maxRecDepth 100000 in
set_option maxHeartbeats 4000000 in
theorem sX6_init_39 (l : Launch) (D : va_G) (aC : Nat → ClassId) (B : Nat)   (n : Nat) : ∀ (a0 : Nat) (a1 : Option Nat) (a2 : Int32) (h : sm_H), zS l D aC B cX6_init 3 RX6 3 64 none "<init>" vlU (fX6_init_39 n a0 a1 a2 h) 39 [(0, vR (some a0)), (1, vR a1), (2, vI a2)] [] h := by
  induction n with
  | zero => intro a0 a1 a2 h; exact sm_none
  | succ n ih =>
    intro a0 a1 a2 h
    show zS l D aC B cX6_init 3 RX6 3 64 none "<init>" vlU (fX6_init_39 (n + 1) a0 a1 a2 h) 39 [(0, vR (some a0)), (1, vR a1), (2, vI a2)] [] h
    unfold fX6_init_39
    refine sm_iload_n (i := 2) (j := 2) (pc' := 40) dX6_init_39 rfl rfl rfl ?_
    refine sm_aload_n (i := 0) (j := 0) (pc' := 41) dX6_init_40 rfl rfl rfl ?_
    refine sm_getR (k := 1) (pc' := 44) kX6 (by decide) mw265 dX6_init_41 rfl (fun x1 => ?_)
    refine sm_alen (t := 7) (pc' := 45) rfl dX6_init_44 rfl (fun x2 => ?_)
    refine sm_icmp_ge (tgt := 68) (pc' := 48) dX6_init_45 (by decide) rfl ?_ ?_
    · exact sm_vret rfl dX6_init_68
    refine sm_aload_n (i := 0) (j := 0) (pc' := 49) dX6_init_48 rfl rfl rfl ?_
    refine sm_getR (k := 1) (pc' := 52) kX6 (by decide) mw265 dX6_init_49 rfl (fun x3 => ?_)
    refine sm_iload_n (i := 2) (j := 2) (pc' := 53) dX6_init_52 rfl rfl rfl ?_
    refine sm_newL (fs := [.null, .null]) (pc' := 56) kX4 rfl (by decide +kernel) mw267 mw186 mw187 dX6_init_53 rfl (fun h4 => ?_)
    refine sm_dup (pc' := 57) rfl dX6_init_56 rfl ?_
    refine sm_aload_n (i := 1) (j := 1) (pc' := 58) dX6_init_57 rfl rfl rfl ?_
    refine sm_cI (pc' := 61) (b := h.1) (st := [vR (some h.1), vI a2, vR x3]) [vR a1] yY_yX4_init mw266 mw180 rfl (mX4_init l D aC B h.1 a1 h4) rfl (by decide) (by decide) (by exact Nat.le_of_ble_eq_true rfl) rfl dX6_init_58 rfl (fun _ h5 => ?_)
    refine sm_aast (t := 7) (ci := 4) (pc' := 62) rfl rfl dX6_init_61 rfl (fun h6 => ?_)
    refine sm_iincL (i := 2) (j := 2) (x := a2) (d := (1 : Int32)) (fun x7 => [(2, vI x7), (0, vR (some a0)), (1, vR a1)]) (pc' := 65) dX6_init_62 rfl rfl (by decide) (by decide) (fun _ => rfl) (fun x7 => ?_)
    refine sm_goto (pc' := 39) dX6_init_65 (by decide) ?_
    refine sm_lo (lv' := [(0, vR (some a0)), (1, vR a1), (2, vI x7)]) [1, 2, 0] rfl ?_
    exact ih a0 a1 x7 h6
noncomputable def fX6_init  (a0 : Nat) (h : sm_H) : Option (Unit × sm_H) :=
  sm_let (sm_new h 0 [.null, .int 0]) fun h1 =>
  sm_cb (fX0_init h.1 (1000 : Int32) h1) fun _ h2 =>
  (sm_put h2 (some a0) 6 0 (sm_v (vR (some h.1)))).bind fun h3 =>
  if (40 : Int32) < 0 ∨ 1000000 < (40 : Int32) then none else
  sm_let (sm_nwa h3 7 (40 : Int32).toNatClampNeg (.inr (.inr (.inr (.inr (fun _ => none)))))) fun h4 =>
  (sm_put h4 (some a0) 6 1 (sm_v (vR (some h3.1)))).bind fun h5 =>
  sm_let (sm_new h5 10 [.null, .int 0, .long 0]) fun h6 =>
  sm_cb (fX10_init h5.1 (5 : Int32) (0 : Int32) h6) fun _ h7 =>
  fX6_init_39 sm_fuel a0 (some h5.1) (0 : Int32) h7
set_option maxRecDepth 100000 in
set_option maxHeartbeats 4000000 in
theorem sX6_init_0 (l : Launch) (D : va_G) (aC : Nat → ClassId) (B : Nat)   (a0 : Nat) (h : sm_H) : zS l D aC B cX6_init 3 RX6 3 64 none "<init>" vlU (fX6_init a0 h) 0 [(0, vR (some a0))] [] h := by
  unfold fX6_init
  refine sm_aload_n (i := 0) (j := 0) (pc' := 1) dX6_init_0 rfl rfl rfl ?_
  refine sm_objI (pc' := 4) mw268 mw1 mw2 dX6_init_1 rfl (by decide) (Nat.le_of_ble_eq_true rfl) ?_
  refine sm_aload_n (i := 0) (j := 0) (pc' := 5) dX6_init_4 rfl rfl rfl ?_
  refine sm_newL (fs := [.null, .int 0]) (pc' := 8) kX0 rfl (by decide +kernel) mw273 mw168 mw169 dX6_init_5 rfl (fun h1 => ?_)
  refine sm_dup (pc' := 9) rfl dX6_init_8 rfl ?_
  refine sm_sipush (v := (1000 : Int32)) (pc' := 12) dX6_init_9 rfl (by decide) ?_
  refine sm_cI (pc' := 15) (b := h.1) (st := [vR (some h.1), vR (some a0)]) [vI (1000 : Int32)] yY_yX0_init mw269 mw167 rfl (mX0_init l D aC B h.1 (1000 : Int32) h1) rfl (by decide) (by decide) (by exact Nat.le_of_ble_eq_true rfl) rfl dX6_init_12 rfl (fun _ h2 => ?_)
  refine sm_putFR (k := 0) (pc' := 18) kX6 (by decide) mw270 rfl rfl rfl (Or.inl ⟨_, rfl⟩) dX6_init_15 rfl (fun h3 => ?_)
  refine sm_aload_n (i := 0) (j := 0) (pc' := 19) dX6_init_18 rfl rfl rfl ?_
  refine sm_bipush (v := (40 : Int32)) (pc' := 21) dX6_init_19 rfl (by decide) ?_
  refine sm_anewL (C0 := "TreeAgent$Pair") (t := 7) (pc' := 24) rfl mw267 (by decide) dX6_init_21 rfl (fun h4 => ?_)
  refine sm_putFR (k := 1) (pc' := 27) kX6 (by decide) mw265 rfl rfl rfl (Or.inr ⟨_, rfl⟩) dX6_init_24 rfl (fun h5 => ?_)
  refine sm_newL (fs := [.null, .int 0, .long 0]) (pc' := 30) kX10 rfl (by decide +kernel) mw272 mw183 mw184 dX6_init_27 rfl (fun h6 => ?_)
  refine sm_dup (pc' := 31) rfl dX6_init_30 rfl ?_
  refine sm_iconst (v := (5 : Int32)) (pc' := 32) dX6_init_31 rfl (by decide) ?_
  refine sm_iconst (v := (0 : Int32)) (pc' := 33) dX6_init_32 rfl (by decide) ?_
  refine sm_cI (pc' := 36) (b := h5.1) (st := [vR (some h5.1)]) [vI (5 : Int32), vI (0 : Int32)] yY_yX10_init mw271 mw181 rfl (mX10_init l D aC B h5.1 (5 : Int32) (0 : Int32) h6) rfl (by decide) (by decide) (by exact Nat.le_of_ble_eq_true rfl) rfl dX6_init_33 rfl (fun _ h7 => ?_)
  refine sm_astore_n (i := 1) (lv' := [(1, vR (some h5.1)), (0, vR (some a0))]) (pc' := 37) dX6_init_36 rfl rfl (by decide) rfl ?_
  refine sm_iconst (v := (0 : Int32)) (pc' := 38) dX6_init_37 rfl (by decide) ?_
  refine sm_istore_n (i := 2) (lv' := [(2, vI (0 : Int32)), (1, vR (some h5.1)), (0, vR (some a0))]) (pc' := 39) dX6_init_38 rfl rfl (by decide) rfl ?_
  refine sm_lo (lv' := [(0, vR (some a0)), (1, vR (some h5.1)), (2, vI (0 : Int32))]) [2, 1, 0] rfl ?_
  exact sX6_init_39 l D aC B   sm_fuel a0 (some h5.1) (0 : Int32) h7
set_option maxRecDepth 100000 in
theorem mX6_init (l : Launch) (D : va_G) (aC : Nat → ClassId) (B : Nat) (a0 : Nat) (h : sm_H) : sm_M l D vwCl gAts aC B gTs gNs gOs yX6_init cX6_init 3 none 3 64 vlU [vR (some a0)] h (fX6_init a0 h) := sm_meth [vR (some a0)] yY_yX6_init gG gN (Nat.le_of_ble_eq_true rfl) rfl (sX6_init_0 l D aC B a0 h)
-- M:TreeAgent$Reply.error()I
noncomputable def fX6_error  (a0 : Nat) (h : sm_H) : Option (Int32 × sm_H) :=
  (sm_I (sm_get h (some a0) 6 4)).bind fun x1 =>
  some (x1, h)
set_option maxRecDepth 100000 in
set_option maxHeartbeats 4000000 in
theorem sX6_error_0 (l : Launch) (D : va_G) (aC : Nat → ClassId) (B : Nat)   (a0 : Nat) (h : sm_H) : zS l D aC B cX6_error 1 RX6 0 0 (some .int) "error" vlI (fX6_error a0 h) 0 [(0, vR (some a0))] [] h := by
  unfold fX6_error
  refine sm_aload_n (i := 0) (j := 0) (pc' := 1) dX6_error_0 rfl rfl rfl ?_
  refine sm_getI (k := 4) (pc' := 4) kX6 (by decide) mw274 dX6_error_1 rfl (fun x1 => ?_)
  exact sm_iret rfl dX6_error_4
set_option maxRecDepth 100000 in
theorem mX6_error (l : Launch) (D : va_G) (aC : Nat → ClassId) (B : Nat) (a0 : Nat) (h : sm_H) : sm_M l D vwCl gAts aC B gTs gNs gOs yX6_error cX6_error 1 (some .int) 0 0 vlI [vR (some a0)] h (fX6_error a0 h) := sm_meth [vR (some a0)] yY_yX6_error gG gN (Nat.le_of_ble_eq_true rfl) rfl (sX6_error_0 l D aC B a0 h)
-- M:TreeAgent$Reply.pairAt(I)LTreeAgent$Pair;
noncomputable def fX6_pairAt  (a0 : Nat) (a1 : Int32) (h : sm_H) : Option (Option Nat × sm_H) :=
  if a1 < 0 then (
    some (none, h)
  ) else
  (sm_I (sm_get h (some a0) 6 2)).bind fun x1 =>
  if x1 ≤ a1 then (
    some (none, h)
  ) else
  (sm_R (sm_get h (some a0) 6 1)).bind fun x2 =>
  (sm_len h x2 7).bind fun x3 =>
  if x3 ≤ a1 then (
    some (none, h)
  ) else
  (sm_R (sm_get h (some a0) 6 1)).bind fun x4 =>
  (sm_aR h x4 7 a1).bind fun x5 =>
  some (x5, h)
set_option maxRecDepth 100000 in
set_option maxHeartbeats 4000000 in
theorem sX6_pairAt_0 (l : Launch) (D : va_G) (aC : Nat → ClassId) (B : Nat)   (a0 : Nat) (a1 : Int32) (h : sm_H) : zS l D aC B cX6_pairAt 2 RX6 0 0 (some (.object "TreeAgent$Pair")) "pairAt" vlR (fX6_pairAt a0 a1 h) 0 [(0, vR (some a0)), (1, vI a1)] [] h := by
  unfold fX6_pairAt
  refine sm_iload_n (i := 1) (j := 1) (pc' := 1) dX6_pairAt_0 rfl rfl rfl ?_
  refine sm_if_lt (tgt := 30) (pc' := 4) dX6_pairAt_1 (by decide) rfl ?_ ?_
  · refine sm_null (pc' := 31) dX6_pairAt_30 rfl ?_
    exact sm_aret rfl dX6_pairAt_31
  refine sm_iload_n (i := 1) (j := 1) (pc' := 5) dX6_pairAt_4 rfl rfl rfl ?_
  refine sm_aload_n (i := 0) (j := 0) (pc' := 6) dX6_pairAt_5 rfl rfl rfl ?_
  refine sm_getI (k := 2) (pc' := 9) kX6 (by decide) mw275 dX6_pairAt_6 rfl (fun x1 => ?_)
  refine sm_icmp_ge (tgt := 30) (pc' := 12) dX6_pairAt_9 (by decide) rfl ?_ ?_
  · refine sm_null (pc' := 31) dX6_pairAt_30 rfl ?_
    exact sm_aret rfl dX6_pairAt_31
  refine sm_iload_n (i := 1) (j := 1) (pc' := 13) dX6_pairAt_12 rfl rfl rfl ?_
  refine sm_aload_n (i := 0) (j := 0) (pc' := 14) dX6_pairAt_13 rfl rfl rfl ?_
  refine sm_getR (k := 1) (pc' := 17) kX6 (by decide) mw265 dX6_pairAt_14 rfl (fun x2 => ?_)
  refine sm_alen (t := 7) (pc' := 18) rfl dX6_pairAt_17 rfl (fun x3 => ?_)
  refine sm_icmp_ge (tgt := 30) (pc' := 21) dX6_pairAt_18 (by decide) rfl ?_ ?_
  · refine sm_null (pc' := 31) dX6_pairAt_30 rfl ?_
    exact sm_aret rfl dX6_pairAt_31
  refine sm_aload_n (i := 0) (j := 0) (pc' := 22) dX6_pairAt_21 rfl rfl rfl ?_
  refine sm_getR (k := 1) (pc' := 25) kX6 (by decide) mw265 dX6_pairAt_22 rfl (fun x4 => ?_)
  refine sm_iload_n (i := 1) (j := 1) (pc' := 26) dX6_pairAt_25 rfl rfl rfl ?_
  refine sm_aald (t := 7) (pc' := 27) rfl dX6_pairAt_26 rfl (fun x5 => ?_)
  refine sm_goto (pc' := 31) dX6_pairAt_27 (by decide) ?_
  exact sm_aret rfl dX6_pairAt_31
set_option maxRecDepth 100000 in
theorem mX6_pairAt (l : Launch) (D : va_G) (aC : Nat → ClassId) (B : Nat) (a0 : Nat) (a1 : Int32) (h : sm_H) : sm_M l D vwCl gAts aC B gTs gNs gOs yX6_pairAt cX6_pairAt 2 (some (.object "TreeAgent$Pair")) 0 0 vlR [vR (some a0), vI a1] h (fX6_pairAt a0 a1 h) := sm_meth [vR (some a0), vI a1] yY_yX6_pairAt gG gN (Nat.le_of_ble_eq_true rfl) rfl (sX6_pairAt_0 l D aC B a0 a1 h)
-- M:TreeAgent$Reply.fail(II)V
noncomputable def fX6_fail  (a0 : Nat) (a1 : Int32) (a2 : Int32) (h : sm_H) : Option (Unit × sm_H) :=
  (sm_put h (some a0) 6 2 (sm_v (vI (0 : Int32)))).bind fun h1 =>
  (sm_put h1 (some a0) 6 3 (sm_v (vI (0 : Int32)))).bind fun h2 =>
  (sm_put h2 (some a0) 6 4 (sm_v (vI a1))).bind fun h3 =>
  (sm_put h3 (some a0) 6 5 (sm_v (vI a2))).bind fun h4 =>
  some ((), h4)
set_option maxRecDepth 100000 in
set_option maxHeartbeats 4000000 in
theorem sX6_fail_0 (l : Launch) (D : va_G) (aC : Nat → ClassId) (B : Nat)   (a0 : Nat) (a1 : Int32) (a2 : Int32) (h : sm_H) : zS l D aC B cX6_fail 3 RX6 0 0 none "fail" vlU (fX6_fail a0 a1 a2 h) 0 [(0, vR (some a0)), (1, vI a1), (2, vI a2)] [] h := by
  unfold fX6_fail
  refine sm_aload_n (i := 0) (j := 0) (pc' := 1) dX6_fail_0 rfl rfl rfl ?_
  refine sm_iconst (v := (0 : Int32)) (pc' := 2) dX6_fail_1 rfl (by decide) ?_
  refine sm_putI (k := 2) (pc' := 5) kX6 (by decide) mw275 rfl rfl dX6_fail_2 rfl (fun h1 => ?_)
  refine sm_aload_n (i := 0) (j := 0) (pc' := 6) dX6_fail_5 rfl rfl rfl ?_
  refine sm_iconst (v := (0 : Int32)) (pc' := 7) dX6_fail_6 rfl (by decide) ?_
  refine sm_putI (k := 3) (pc' := 10) kX6 (by decide) mw276 rfl rfl dX6_fail_7 rfl (fun h2 => ?_)
  refine sm_aload_n (i := 0) (j := 0) (pc' := 11) dX6_fail_10 rfl rfl rfl ?_
  refine sm_iload_n (i := 1) (j := 1) (pc' := 12) dX6_fail_11 rfl rfl rfl ?_
  refine sm_putI (k := 4) (pc' := 15) kX6 (by decide) mw274 rfl rfl dX6_fail_12 rfl (fun h3 => ?_)
  refine sm_aload_n (i := 0) (j := 0) (pc' := 16) dX6_fail_15 rfl rfl rfl ?_
  refine sm_iload_n (i := 2) (j := 2) (pc' := 17) dX6_fail_16 rfl rfl rfl ?_
  refine sm_putI (k := 5) (pc' := 20) kX6 (by decide) mw277 rfl rfl dX6_fail_17 rfl (fun h4 => ?_)
  exact sm_vret rfl dX6_fail_20
set_option maxRecDepth 100000 in
theorem mX6_fail (l : Launch) (D : va_G) (aC : Nat → ClassId) (B : Nat) (a0 : Nat) (a1 : Int32) (a2 : Int32) (h : sm_H) : sm_M l D vwCl gAts aC B gTs gNs gOs yX6_fail cX6_fail 3 none 0 0 vlU [vR (some a0), vI a1, vI a2] h (fX6_fail a0 a1 a2 h) := sm_meth [vR (some a0), vI a1, vI a2] yY_yX6_fail gG gN (Nat.le_of_ble_eq_true rfl) rfl (sX6_fail_0 l D aC B a0 a1 a2 h)
-- M:TreeAgent$Reply.clear()V
noncomputable def fX6_clear  (a0 : Nat) (h : sm_H) : Option (Unit × sm_H) :=
  (sm_R (sm_get h (some a0) 6 0)).bind fun x1 =>
  (sm_obj h x1 0).bind fun b5 =>
  sm_cb (fX0_clear b5 h) fun _ h2 =>
  (sm_obj h2 (some a0) 6).bind fun b4 =>
  sm_cb (fX6_fail b4 (0 : Int32) (0 : Int32) h2) fun _ h3 =>
  some ((), h3)
set_option maxRecDepth 100000 in
set_option maxHeartbeats 4000000 in
theorem sX6_clear_0 (l : Launch) (D : va_G) (aC : Nat → ClassId) (B : Nat)   (a0 : Nat) (h : sm_H) : zS l D aC B cX6_clear 1 RX6 1 22 none "clear" vlU (fX6_clear a0 h) 0 [(0, vR (some a0))] [] h := by
  unfold fX6_clear
  refine sm_aload_n (i := 0) (j := 0) (pc' := 1) dX6_clear_0 rfl rfl rfl ?_
  refine sm_getR (k := 0) (pc' := 4) kX6 (by decide) mw270 dX6_clear_1 rfl (fun x1 => ?_)
  refine sm_cVU (pc' := 7) (ci := 0) (st := []) (F := fun b => fX0_clear b h) [] yY_yX0_clear rfl mw278 mw121 mw122 (fun b => mX0_clear l D aC B b h) rfl (by decide) (by decide) (by exact Nat.le_of_ble_eq_true rfl) rfl dX6_clear_4 rfl (fun _ h2 => ?_)
  refine sm_aload_n (i := 0) (j := 0) (pc' := 8) dX6_clear_7 rfl rfl rfl ?_
  refine sm_iconst (v := (0 : Int32)) (pc' := 9) dX6_clear_8 rfl (by decide) ?_
  refine sm_iconst (v := (0 : Int32)) (pc' := 10) dX6_clear_9 rfl (by decide) ?_
  refine sm_cVU (pc' := 13) (ci := 6) (st := []) (F := fun b => fX6_fail b (0 : Int32) (0 : Int32) h2) [vI (0 : Int32), vI (0 : Int32)] yY_yX6_fail rfl mw279 mw280 mw281 (fun b => mX6_fail l D aC B b (0 : Int32) (0 : Int32) h2) rfl (by decide) (by decide) (by exact Nat.le_of_ble_eq_true rfl) rfl dX6_clear_10 rfl (fun _ h3 => ?_)
  exact sm_vret rfl dX6_clear_13
set_option maxRecDepth 100000 in
theorem mX6_clear (l : Launch) (D : va_G) (aC : Nat → ClassId) (B : Nat) (a0 : Nat) (h : sm_H) : sm_M l D vwCl gAts aC B gTs gNs gOs yX6_clear cX6_clear 1 none 1 22 vlU [vR (some a0)] h (fX6_clear a0 h) := sm_meth [vR (some a0)] yY_yX6_clear gG gN (Nat.le_of_ble_eq_true rfl) rfl (sX6_clear_0 l D aC B a0 h)
-- M:TreeAgent$Reply.sevens(J)I
noncomputable def fX6_sevens_2  : Nat → Int64 → Int32 → sm_H → Option (Int32 × sm_H)
  | 0 => fun _ _ _ => none
  | n + 1 => fun a0 a2 h =>
    if (5 : Int32) ≤ a2 then (
      some (a2, h)
    ) else
    if (lg_cmp ((a0.toUInt64 >>> (((7 : Int32) * a2).toInt64.toUInt64 &&& Int64.toUInt64 63)).toInt64) (0 : Int64)) = 0 then (
      some (a2, h)
    ) else
    sm_let (a2 + (1 : Int32)) fun x1 =>
    (fX6_sevens_2 n) a0 x1 h
set_option maxRecDepth 100000 in
set_option maxHeartbeats 4000000 in
theorem sX6_sevens_2 (l : Launch) (D : va_G) (aC : Nat → ClassId) (B : Nat)   (n : Nat) : ∀ (a0 : Int64) (a2 : Int32) (h : sm_H), zS l D aC B cX6_sevens 3 RX6 0 0 (some .int) "sevens" vlI (fX6_sevens_2 n a0 a2 h) 2 [(0, vJ a0), (2, vI a2)] [] h := by
  induction n with
  | zero => intro a0 a2 h; exact sm_none
  | succ n ih =>
    intro a0 a2 h
    show zS l D aC B cX6_sevens 3 RX6 0 0 (some .int) "sevens" vlI (fX6_sevens_2 (n + 1) a0 a2 h) 2 [(0, vJ a0), (2, vI a2)] [] h
    unfold fX6_sevens_2
    refine sm_iload_n (i := 2) (j := 1) (pc' := 3) dX6_sevens_2 rfl rfl rfl ?_
    refine sm_iconst (v := (5 : Int32)) (pc' := 4) dX6_sevens_3 rfl (by decide) ?_
    refine sm_icmp_ge (tgt := 24) (pc' := 7) dX6_sevens_4 (by decide) rfl ?_ ?_
    · refine sm_iload_n (i := 2) (j := 1) (pc' := 25) dX6_sevens_24 rfl rfl rfl ?_
      exact sm_iret rfl dX6_sevens_25
    refine sm_lload_n (i := 0) (j := 0) (pc' := 8) dX6_sevens_7 rfl rfl rfl ?_
    refine sm_bipush (v := (7 : Int32)) (pc' := 10) dX6_sevens_8 rfl (by decide) ?_
    refine sm_iload_n (i := 2) (j := 1) (pc' := 11) dX6_sevens_10 rfl rfl rfl ?_
    refine sm_imul (pc' := 12) dX6_sevens_11 rfl ?_
    refine sm_lushr (pc' := 13) dX6_sevens_12 rfl ?_
    refine sm_lconst (v := (0 : Int64)) (pc' := 14) dX6_sevens_13 rfl (by decide) ?_
    refine sm_lcmp (pc' := 15) dX6_sevens_14 rfl ?_
    refine sm_if_eq (tgt := 24) (pc' := 18) dX6_sevens_15 (by decide) rfl ?_ ?_
    · refine sm_iload_n (i := 2) (j := 1) (pc' := 25) dX6_sevens_24 rfl rfl rfl ?_
      exact sm_iret rfl dX6_sevens_25
    refine sm_iincL (i := 2) (j := 1) (x := a2) (d := (1 : Int32)) (fun x1 => [(2, vI x1), (0, vJ a0)]) (pc' := 21) dX6_sevens_18 rfl rfl (by decide) (by decide) (fun _ => rfl) (fun x1 => ?_)
    refine sm_goto (pc' := 2) dX6_sevens_21 (by decide) ?_
    refine sm_lo (lv' := [(0, vJ a0), (2, vI x1)]) [1, 0] rfl ?_
    exact ih a0 x1 h
noncomputable def fX6_sevens  (a0 : Int64) (h : sm_H) : Option (Int32 × sm_H) :=
  fX6_sevens_2 sm_fuel a0 (1 : Int32) h
set_option maxRecDepth 100000 in
set_option maxHeartbeats 4000000 in
theorem sX6_sevens_0 (l : Launch) (D : va_G) (aC : Nat → ClassId) (B : Nat)   (a0 : Int64) (h : sm_H) : zS l D aC B cX6_sevens 3 RX6 0 0 (some .int) "sevens" vlI (fX6_sevens a0 h) 0 [(0, vJ a0)] [] h := by
  unfold fX6_sevens
  refine sm_iconst (v := (1 : Int32)) (pc' := 1) dX6_sevens_0 rfl (by decide) ?_
  refine sm_istore_n (i := 2) (lv' := [(2, vI (1 : Int32)), (0, vJ a0)]) (pc' := 2) dX6_sevens_1 rfl rfl (by decide) rfl ?_
  refine sm_lo (lv' := [(0, vJ a0), (2, vI (1 : Int32))]) [1, 0] rfl ?_
  exact sX6_sevens_2 l D aC B   sm_fuel a0 (1 : Int32) h
set_option maxRecDepth 100000 in
theorem mX6_sevens (l : Launch) (D : va_G) (aC : Nat → ClassId) (B : Nat) (a0 : Int64) (h : sm_H) : sm_M l D vwCl gAts aC B gTs gNs gOs yX6_sevens cX6_sevens 3 (some .int) 0 0 vlI [vJ a0] h (fX6_sevens a0 h) := sm_meth [vJ a0] yY_yX6_sevens gG gN (Nat.le_of_ble_eq_true rfl) rfl (sX6_sevens_0 l D aC B a0 h)
-- M:TreeAgent$Reply.nameContent(LTreeAgent$Chain;)I
noncomputable def fX6_nameContent_4  : Nat → Option Nat → Int32 → Int32 → sm_H → Option (Int32 × sm_H)
  | 0 => fun _ _ _ _ => none
  | n + 1 => fun a0 a1 a2 h =>
    (sm_obj h a0 0).bind fun b10 =>
    sm_cb (fX0_size b10 h) fun x1 h2 =>
    if x1 ≤ a2 then (
      some (a1, h2)
    ) else
    (sm_obj h2 a0 0).bind fun b9 =>
    sm_cb (fX0_at b9 a2 h2) fun x3 h4 =>
    sm_cb (fX6_sevens x3 h4) fun x5 h6 =>
    sm_let (a1 + x5) fun x7 =>
    sm_let (a2 + (1 : Int32)) fun x8 =>
    (fX6_nameContent_4 n) a0 x7 x8 h6
set_option maxRecDepth 100000 in
set_option maxHeartbeats 4000000 in
theorem sX6_nameContent_4 (l : Launch) (D : va_G) (aC : Nat → ClassId) (B : Nat)   (n : Nat) : ∀ (a0 : Option Nat) (a1 : Int32) (a2 : Int32) (h : sm_H), zS l D aC B cX6_nameContent 3 RX6 1 22 (some .int) "nameContent" vlI (fX6_nameContent_4 n a0 a1 a2 h) 4 [(0, vR a0), (1, vI a1), (2, vI a2)] [] h := by
  induction n with
  | zero => intro a0 a1 a2 h; exact sm_none
  | succ n ih =>
    intro a0 a1 a2 h
    show zS l D aC B cX6_nameContent 3 RX6 1 22 (some .int) "nameContent" vlI (fX6_nameContent_4 (n + 1) a0 a1 a2 h) 4 [(0, vR a0), (1, vI a1), (2, vI a2)] [] h
    unfold fX6_nameContent_4
    refine sm_iload_n (i := 2) (j := 2) (pc' := 5) dX6_nameContent_4 rfl rfl rfl ?_
    refine sm_aload_n (i := 0) (j := 0) (pc' := 6) dX6_nameContent_5 rfl rfl rfl ?_
    refine sm_cVI (pc' := 9) (ci := 0) (st := [vI a2]) (F := fun b => fX0_size b h) [] yY_yX0_size rfl mw282 mw32 mw33 (fun b => mX0_size l D aC B b h) rfl (by decide) (by decide) (by exact Nat.le_of_ble_eq_true rfl) rfl dX6_nameContent_6 rfl (fun x1 h2 => ?_)
    refine sm_icmp_ge (tgt := 29) (pc' := 12) dX6_nameContent_9 (by decide) rfl ?_ ?_
    · refine sm_iload_n (i := 1) (j := 1) (pc' := 30) dX6_nameContent_29 rfl rfl rfl ?_
      exact sm_iret rfl dX6_nameContent_30
    refine sm_iload_n (i := 1) (j := 1) (pc' := 13) dX6_nameContent_12 rfl rfl rfl ?_
    refine sm_aload_n (i := 0) (j := 0) (pc' := 14) dX6_nameContent_13 rfl rfl rfl ?_
    refine sm_iload_n (i := 2) (j := 2) (pc' := 15) dX6_nameContent_14 rfl rfl rfl ?_
    refine sm_cVJ (pc' := 18) (ci := 0) (st := [vI a1]) (F := fun b => fX0_at b a2 h2) [vI a2] yY_yX0_at rfl mw283 mw15 mw16 (fun b => mX0_at l D aC B b a2 h2) rfl (by decide) (by decide) (by exact Nat.le_of_ble_eq_true rfl) rfl dX6_nameContent_15 rfl (fun x3 h4 => ?_)
    refine sm_cSI (pc' := 21) (st := [vI a1]) [vJ x3] yY_yX6_sevens mw284 mw285 (mX6_sevens l D aC B x3 h4) rfl (by decide) (by decide) (by exact Nat.le_of_ble_eq_true rfl) rfl dX6_nameContent_18 rfl (fun x5 h6 => ?_)
    refine sm_iadd (pc' := 22) dX6_nameContent_21 rfl ?_
    refine sm_letIv (fun x7 => ?_)
    refine sm_istore_n (i := 1) (lv' := [(1, vI x7), (0, vR a0), (2, vI a2)]) (pc' := 23) dX6_nameContent_22 rfl rfl (by decide) rfl ?_
    refine sm_iincL (i := 2) (j := 2) (x := a2) (d := (1 : Int32)) (fun x8 => [(2, vI x8), (1, vI x7), (0, vR a0)]) (pc' := 26) dX6_nameContent_23 rfl rfl (by decide) (by decide) (fun _ => rfl) (fun x8 => ?_)
    refine sm_goto (pc' := 4) dX6_nameContent_26 (by decide) ?_
    refine sm_lo (lv' := [(0, vR a0), (1, vI x7), (2, vI x8)]) [2, 1, 0] rfl ?_
    exact ih a0 x7 x8 h6
noncomputable def fX6_nameContent  (a0 : Option Nat) (h : sm_H) : Option (Int32 × sm_H) :=
  fX6_nameContent_4 sm_fuel a0 (1 : Int32) (2 : Int32) h
set_option maxRecDepth 100000 in
set_option maxHeartbeats 4000000 in
theorem sX6_nameContent_0 (l : Launch) (D : va_G) (aC : Nat → ClassId) (B : Nat)   (a0 : Option Nat) (h : sm_H) : zS l D aC B cX6_nameContent 3 RX6 1 22 (some .int) "nameContent" vlI (fX6_nameContent a0 h) 0 [(0, vR a0)] [] h := by
  unfold fX6_nameContent
  refine sm_iconst (v := (1 : Int32)) (pc' := 1) dX6_nameContent_0 rfl (by decide) ?_
  refine sm_istore_n (i := 1) (lv' := [(1, vI (1 : Int32)), (0, vR a0)]) (pc' := 2) dX6_nameContent_1 rfl rfl (by decide) rfl ?_
  refine sm_iconst (v := (2 : Int32)) (pc' := 3) dX6_nameContent_2 rfl (by decide) ?_
  refine sm_istore_n (i := 2) (lv' := [(2, vI (2 : Int32)), (1, vI (1 : Int32)), (0, vR a0)]) (pc' := 4) dX6_nameContent_3 rfl rfl (by decide) rfl ?_
  refine sm_lo (lv' := [(0, vR a0), (1, vI (1 : Int32)), (2, vI (2 : Int32))]) [2, 1, 0] rfl ?_
  exact sX6_nameContent_4 l D aC B   sm_fuel a0 (1 : Int32) (2 : Int32) h
set_option maxRecDepth 100000 in
theorem mX6_nameContent (l : Launch) (D : va_G) (aC : Nat → ClassId) (B : Nat) (a0 : Option Nat) (h : sm_H) : sm_M l D vwCl gAts aC B gTs gNs gOs yX6_nameContent cX6_nameContent 3 (some .int) 1 22 vlI [vR a0] h (fX6_nameContent a0 h) := sm_meth [vR a0] yY_yX6_nameContent gG gN (Nat.le_of_ble_eq_true rfl) rfl (sX6_nameContent_0 l D aC B a0 h)
-- M:TreeAgent$Reply.fieldSize(I)I
noncomputable def fX6_fieldSize  (a0 : Int32) (h : sm_H) : Option (Int32 × sm_H) :=
  if (128 : Int32) ≤ a0 then (
    if (256 : Int32) ≤ a0 then (
      some (((1 : Int32) + (3 : Int32)) + a0, h)
    ) else
    some (((1 : Int32) + (2 : Int32)) + a0, h)
  ) else
  some (((1 : Int32) + (1 : Int32)) + a0, h)
set_option maxRecDepth 100000 in
set_option maxHeartbeats 4000000 in
theorem sX6_fieldSize_0 (l : Launch) (D : va_G) (aC : Nat → ClassId) (B : Nat)   (a0 : Int32) (h : sm_H) : zS l D aC B cX6_fieldSize 2 RX6 0 0 (some .int) "fieldSize" vlI (fX6_fieldSize a0 h) 0 [(0, vI a0)] [] h := by
  unfold fX6_fieldSize
  refine sm_iload_n (i := 0) (j := 0) (pc' := 1) dX6_fieldSize_0 rfl rfl rfl ?_
  refine sm_sipush (v := (128 : Int32)) (pc' := 4) dX6_fieldSize_1 rfl (by decide) ?_
  refine sm_icmp_ge (tgt := 11) (pc' := 7) dX6_fieldSize_4 (by decide) rfl ?_ ?_
  · refine sm_iload_n (i := 0) (j := 0) (pc' := 12) dX6_fieldSize_11 rfl rfl rfl ?_
    refine sm_sipush (v := (256 : Int32)) (pc' := 15) dX6_fieldSize_12 rfl (by decide) ?_
    refine sm_icmp_ge (tgt := 22) (pc' := 18) dX6_fieldSize_15 (by decide) rfl ?_ ?_
    · refine sm_iconst (v := (3 : Int32)) (pc' := 23) dX6_fieldSize_22 rfl (by decide) ?_
      refine sm_istore_n (i := 1) (lv' := [(1, vI (3 : Int32)), (0, vI a0)]) (pc' := 24) dX6_fieldSize_23 rfl rfl (by decide) rfl ?_
      refine sm_iconst (v := (1 : Int32)) (pc' := 25) dX6_fieldSize_24 rfl (by decide) ?_
      refine sm_iload_n (i := 1) (j := 0) (pc' := 26) dX6_fieldSize_25 rfl rfl rfl ?_
      refine sm_iadd (pc' := 27) dX6_fieldSize_26 rfl ?_
      refine sm_iload_n (i := 0) (j := 1) (pc' := 28) dX6_fieldSize_27 rfl rfl rfl ?_
      refine sm_iadd (pc' := 29) dX6_fieldSize_28 rfl ?_
      exact sm_iret rfl dX6_fieldSize_29
    refine sm_iconst (v := (2 : Int32)) (pc' := 19) dX6_fieldSize_18 rfl (by decide) ?_
    refine sm_goto (pc' := 23) dX6_fieldSize_19 (by decide) ?_
    refine sm_istore_n (i := 1) (lv' := [(1, vI (2 : Int32)), (0, vI a0)]) (pc' := 24) dX6_fieldSize_23 rfl rfl (by decide) rfl ?_
    refine sm_iconst (v := (1 : Int32)) (pc' := 25) dX6_fieldSize_24 rfl (by decide) ?_
    refine sm_iload_n (i := 1) (j := 0) (pc' := 26) dX6_fieldSize_25 rfl rfl rfl ?_
    refine sm_iadd (pc' := 27) dX6_fieldSize_26 rfl ?_
    refine sm_iload_n (i := 0) (j := 1) (pc' := 28) dX6_fieldSize_27 rfl rfl rfl ?_
    refine sm_iadd (pc' := 29) dX6_fieldSize_28 rfl ?_
    exact sm_iret rfl dX6_fieldSize_29
  refine sm_iconst (v := (1 : Int32)) (pc' := 8) dX6_fieldSize_7 rfl (by decide) ?_
  refine sm_goto (pc' := 23) dX6_fieldSize_8 (by decide) ?_
  refine sm_istore_n (i := 1) (lv' := [(1, vI (1 : Int32)), (0, vI a0)]) (pc' := 24) dX6_fieldSize_23 rfl rfl (by decide) rfl ?_
  refine sm_iconst (v := (1 : Int32)) (pc' := 25) dX6_fieldSize_24 rfl (by decide) ?_
  refine sm_iload_n (i := 1) (j := 0) (pc' := 26) dX6_fieldSize_25 rfl rfl rfl ?_
  refine sm_iadd (pc' := 27) dX6_fieldSize_26 rfl ?_
  refine sm_iload_n (i := 0) (j := 1) (pc' := 28) dX6_fieldSize_27 rfl rfl rfl ?_
  refine sm_iadd (pc' := 29) dX6_fieldSize_28 rfl ?_
  exact sm_iret rfl dX6_fieldSize_29
set_option maxRecDepth 100000 in
theorem mX6_fieldSize (l : Launch) (D : va_G) (aC : Nat → ClassId) (B : Nat) (a0 : Int32) (h : sm_H) : sm_M l D vwCl gAts aC B gTs gNs gOs yX6_fieldSize cX6_fieldSize 2 (some .int) 0 0 vlI [vI a0] h (fX6_fieldSize a0 h) := sm_meth [vI a0] yY_yX6_fieldSize gG gN (Nat.le_of_ble_eq_true rfl) rfl (sX6_fieldSize_0 l D aC B a0 h)
-- M:TreeAgent$Reply.numberContent(J)I
noncomputable def fX6_numberContent_2  : Nat → Int64 → Int32 → sm_H → Option (Int32 × sm_H)
  | 0 => fun _ _ _ => none
  | n + 1 => fun a0 a2 h =>
    if (8 : Int32) ≤ a2 then (
      some ((8 : Int32), h)
    ) else
    sm_let (a0 >>> ((((8 : Int32) * a2) - (1 : Int32)).toInt64 &&& 63)) fun x1 =>
    if (lg_cmp x1 (0 : Int64)) = 0 then (
      some (a2, h)
    ) else
    if (lg_cmp x1 (-1 : Int64)) = 0 then (
      some (a2, h)
    ) else
    sm_let (a2 + (1 : Int32)) fun x2 =>
    (fX6_numberContent_2 n) a0 x2 h
set_option maxRecDepth 100000 in
set_option maxHeartbeats 4000000 in
theorem sX6_numberContent_2 (l : Launch) (D : va_G) (aC : Nat → ClassId) (B : Nat)   (n : Nat) : ∀ (a0 : Int64) (a2 : Int32) (h : sm_H), zS l D aC B cX6_numberContent 5 RX6 0 0 (some .int) "numberContent" vlI (fX6_numberContent_2 n a0 a2 h) 2 [(0, vJ a0), (2, vI a2)] [] h := by
  induction n with
  | zero => intro a0 a2 h; exact sm_none
  | succ n ih =>
    intro a0 a2 h
    show zS l D aC B cX6_numberContent 5 RX6 0 0 (some .int) "numberContent" vlI (fX6_numberContent_2 (n + 1) a0 a2 h) 2 [(0, vJ a0), (2, vI a2)] [] h
    unfold fX6_numberContent_2
    refine sm_iload_n (i := 2) (j := 1) (pc' := 3) dX6_numberContent_2 rfl rfl rfl ?_
    refine sm_bipush (v := (8 : Int32)) (pc' := 5) dX6_numberContent_3 rfl (by decide) ?_
    refine sm_icmp_ge (tgt := 39) (pc' := 8) dX6_numberContent_5 (by decide) rfl ?_ ?_
    · refine sm_bipush (v := (8 : Int32)) (pc' := 41) dX6_numberContent_39 rfl (by decide) ?_
      exact sm_iret rfl dX6_numberContent_41
    refine sm_lload_n (i := 0) (j := 0) (pc' := 9) dX6_numberContent_8 rfl rfl rfl ?_
    refine sm_bipush (v := (8 : Int32)) (pc' := 11) dX6_numberContent_9 rfl (by decide) ?_
    refine sm_iload_n (i := 2) (j := 1) (pc' := 12) dX6_numberContent_11 rfl rfl rfl ?_
    refine sm_imul (pc' := 13) dX6_numberContent_12 rfl ?_
    refine sm_iconst (v := (1 : Int32)) (pc' := 14) dX6_numberContent_13 rfl (by decide) ?_
    refine sm_isub (pc' := 15) dX6_numberContent_14 rfl ?_
    refine sm_lshr (pc' := 16) dX6_numberContent_15 rfl ?_
    refine sm_letJv (fun x1 => ?_)
    refine sm_lstore_n (i := 3) (lv' := [(3, vJ x1), (0, vJ a0), (2, vI a2)]) (pc' := 17) dX6_numberContent_16 rfl rfl (by decide) rfl ?_
    refine sm_lload_n (i := 3) (j := 0) (pc' := 18) dX6_numberContent_17 rfl rfl rfl ?_
    refine sm_lconst (v := (0 : Int64)) (pc' := 19) dX6_numberContent_18 rfl (by decide) ?_
    refine sm_lcmp (pc' := 20) dX6_numberContent_19 rfl ?_
    refine sm_if_eq (tgt := 31) (pc' := 23) dX6_numberContent_20 (by decide) rfl ?_ ?_
    · refine sm_iload_n (i := 2) (j := 2) (pc' := 32) dX6_numberContent_31 rfl rfl rfl ?_
      exact sm_iret rfl dX6_numberContent_32
    refine sm_lload_n (i := 3) (j := 0) (pc' := 24) dX6_numberContent_23 rfl rfl rfl ?_
    refine sm_ldc2 (v := (-1 : Int64)) (pc' := 27) dX6_numberContent_24 rfl mw286 ?_
    refine sm_lcmp (pc' := 28) dX6_numberContent_27 rfl ?_
    refine sm_if_ne (tgt := 33) (pc' := 31) dX6_numberContent_28 (by decide) rfl ?_ ?_
    · refine sm_iincL (i := 2) (j := 2) (x := a2) (d := (1 : Int32)) (fun x2 => [(2, vI x2), (3, vJ x1), (0, vJ a0)]) (pc' := 36) dX6_numberContent_33 rfl rfl (by decide) (by decide) (fun _ => rfl) (fun x2 => ?_)
      refine sm_goto (pc' := 2) dX6_numberContent_36 (by decide) ?_
      refine sm_lo (lv' := [(0, vJ a0), (2, vI x2)]) [2, 0] rfl ?_
      exact ih a0 x2 h
    refine sm_iload_n (i := 2) (j := 2) (pc' := 32) dX6_numberContent_31 rfl rfl rfl ?_
    exact sm_iret rfl dX6_numberContent_32
noncomputable def fX6_numberContent  (a0 : Int64) (h : sm_H) : Option (Int32 × sm_H) :=
  fX6_numberContent_2 sm_fuel a0 (1 : Int32) h
set_option maxRecDepth 100000 in
set_option maxHeartbeats 4000000 in
theorem sX6_numberContent_0 (l : Launch) (D : va_G) (aC : Nat → ClassId) (B : Nat)   (a0 : Int64) (h : sm_H) : zS l D aC B cX6_numberContent 5 RX6 0 0 (some .int) "numberContent" vlI (fX6_numberContent a0 h) 0 [(0, vJ a0)] [] h := by
  unfold fX6_numberContent
  refine sm_iconst (v := (1 : Int32)) (pc' := 1) dX6_numberContent_0 rfl (by decide) ?_
  refine sm_istore_n (i := 2) (lv' := [(2, vI (1 : Int32)), (0, vJ a0)]) (pc' := 2) dX6_numberContent_1 rfl rfl (by decide) rfl ?_
  refine sm_lo (lv' := [(0, vJ a0), (2, vI (1 : Int32))]) [1, 0] rfl ?_
  exact sX6_numberContent_2 l D aC B   sm_fuel a0 (1 : Int32) h
set_option maxRecDepth 100000 in
theorem mX6_numberContent (l : Launch) (D : va_G) (aC : Nat → ClassId) (B : Nat) (a0 : Int64) (h : sm_H) : sm_M l D vwCl gAts aC B gTs gNs gOs yX6_numberContent cX6_numberContent 5 (some .int) 0 0 vlI [vJ a0] h (fX6_numberContent a0 h) := sm_meth [vJ a0] yY_yX6_numberContent gG gN (Nat.le_of_ble_eq_true rfl) rfl (sX6_numberContent_0 l D aC B a0 h)
-- M:TreeAgent$Reply.valueContent(LTreeAgent$Value;)I
noncomputable def fX6_valueContent  (a0 : Option Nat) (h : sm_H) : Option (Int32 × sm_H) :=
  (sm_I (sm_get h a0 10 1)).bind fun x1 =>
  if x1 = (2 : Int32) then (
    (sm_J (sm_get h a0 10 2)).bind fun x2 =>
    sm_cb (fX6_numberContent x2 h) fun x3 h4 =>
    some (x3, h4)
  ) else
  if x1 = (4 : Int32) then (
    (sm_R (sm_get h a0 10 0)).bind fun x6 =>
    (sm_obj h x6 0).bind fun b9 =>
    sm_cb (fX0_size b9 h) fun x7 h8 =>
    some (x7, h8)
  ) else
  if x1 = (6 : Int32) then (
    (sm_R (sm_get h a0 10 0)).bind fun x11 =>
    sm_cb (fX6_nameContent x11 h) fun x12 h13 =>
    some (x12, h13)
  ) else
  if x1 = (64 : Int32) then (
    some ((4 : Int32), h)
  ) else
  if x1 = (65 : Int32) then (
    (sm_J (sm_get h a0 10 2)).bind fun x16 =>
    sm_cb (fX6_numberContent x16 h) fun x17 h18 =>
    some (x17, h18)
  ) else
  if x1 = (66 : Int32) then (
    (sm_J (sm_get h a0 10 2)).bind fun x20 =>
    sm_cb (fX6_numberContent x20 h) fun x21 h22 =>
    some (x21, h22)
  ) else
  if x1 = (67 : Int32) then (
    (sm_J (sm_get h a0 10 2)).bind fun x24 =>
    sm_cb (fX6_numberContent x24 h) fun x25 h26 =>
    some (x25, h26)
  ) else
  if x1 = (70 : Int32) then (
    (sm_J (sm_get h a0 10 2)).bind fun x28 =>
    if 0 ≤ (lg_cmp x28 (0 : Int64)) then (
      (sm_J (sm_get h a0 10 2)).bind fun x29 =>
      sm_cb (fX6_numberContent x29 h) fun x30 h31 =>
      some (x30, h31)
    ) else
    some ((9 : Int32), h)
  ) else
  some ((0 : Int32), h)
set_option maxRecDepth 100000 in
set_option maxHeartbeats 4000000 in
theorem sX6_valueContent_0 (l : Launch) (D : va_G) (aC : Nat → ClassId) (B : Nat)   (a0 : Option Nat) (h : sm_H) : zS l D aC B cX6_valueContent 1 RX6 2 44 (some .int) "valueContent" vlI (fX6_valueContent a0 h) 0 [(0, vR a0)] [] h := by
  unfold fX6_valueContent
  refine sm_aload_n (i := 0) (j := 0) (pc' := 1) dX6_valueContent_0 rfl rfl rfl ?_
  refine sm_getIN (k := 1) (pc' := 4) kX10 (by decide) mw287 dX6_valueContent_1 rfl (fun x1 => ?_)
  refine sm_ite (fun c5 => ?_) (fun c5 => ?_)
  · refine sm_lkp (pc' := 98) (94) dX6_valueContent_4 (by decide) (by rw [c5]; decide) (by decide) ?_
    refine sm_aload_n (i := 0) (j := 0) (pc' := 99) dX6_valueContent_98 rfl rfl rfl ?_
    refine sm_getJN (k := 2) (pc' := 102) kX10 (by decide) mw288 dX6_valueContent_99 rfl (fun x2 => ?_)
    refine sm_cSI (pc' := 105) (st := []) [vJ x2] yY_yX6_numberContent mw289 mw290 (mX6_numberContent l D aC B x2 h) rfl (by decide) (by decide) (by exact Nat.le_of_ble_eq_true rfl) rfl dX6_valueContent_102 rfl (fun x3 h4 => ?_)
    exact sm_iret rfl dX6_valueContent_105
  refine sm_ite (fun c10 => ?_) (fun c10 => ?_)
  · refine sm_lkp (pc' := 80) (76) dX6_valueContent_4 (by decide) (by rw [c10]; decide) (by decide) ?_
    refine sm_aload_n (i := 0) (j := 0) (pc' := 81) dX6_valueContent_80 rfl rfl rfl ?_
    refine sm_getRN (k := 0) (pc' := 84) kX10 (by decide) mw291 dX6_valueContent_81 rfl (fun x6 => ?_)
    refine sm_cVI (pc' := 87) (ci := 0) (st := []) (F := fun b => fX0_size b h) [] yY_yX0_size rfl mw282 mw32 mw33 (fun b => mX0_size l D aC B b h) rfl (by decide) (by decide) (by exact Nat.le_of_ble_eq_true rfl) rfl dX6_valueContent_84 rfl (fun x7 h8 => ?_)
    exact sm_iret rfl dX6_valueContent_87
  refine sm_ite (fun c14 => ?_) (fun c14 => ?_)
  · refine sm_lkp (pc' := 88) (84) dX6_valueContent_4 (by decide) (by rw [c14]; decide) (by decide) ?_
    refine sm_aload_n (i := 0) (j := 0) (pc' := 89) dX6_valueContent_88 rfl rfl rfl ?_
    refine sm_getRN (k := 0) (pc' := 92) kX10 (by decide) mw291 dX6_valueContent_89 rfl (fun x11 => ?_)
    refine sm_cSI (pc' := 95) (st := []) [vR x11] yY_yX6_nameContent mw292 mw293 (mX6_nameContent l D aC B x11 h) rfl (by decide) (by decide) (by exact Nat.le_of_ble_eq_true rfl) rfl dX6_valueContent_92 rfl (fun x12 h13 => ?_)
    exact sm_iret rfl dX6_valueContent_95
  refine sm_ite (fun c15 => ?_) (fun c15 => ?_)
  · refine sm_lkp (pc' := 96) (92) dX6_valueContent_4 (by decide) (by rw [c15]; decide) (by decide) ?_
    refine sm_iconst (v := (4 : Int32)) (pc' := 97) dX6_valueContent_96 rfl (by decide) ?_
    exact sm_iret rfl dX6_valueContent_97
  refine sm_ite (fun c19 => ?_) (fun c19 => ?_)
  · refine sm_lkp (pc' := 98) (94) dX6_valueContent_4 (by decide) (by rw [c19]; decide) (by decide) ?_
    refine sm_aload_n (i := 0) (j := 0) (pc' := 99) dX6_valueContent_98 rfl rfl rfl ?_
    refine sm_getJN (k := 2) (pc' := 102) kX10 (by decide) mw288 dX6_valueContent_99 rfl (fun x16 => ?_)
    refine sm_cSI (pc' := 105) (st := []) [vJ x16] yY_yX6_numberContent mw289 mw290 (mX6_numberContent l D aC B x16 h) rfl (by decide) (by decide) (by exact Nat.le_of_ble_eq_true rfl) rfl dX6_valueContent_102 rfl (fun x17 h18 => ?_)
    exact sm_iret rfl dX6_valueContent_105
  refine sm_ite (fun c23 => ?_) (fun c23 => ?_)
  · refine sm_lkp (pc' := 98) (94) dX6_valueContent_4 (by decide) (by rw [c23]; decide) (by decide) ?_
    refine sm_aload_n (i := 0) (j := 0) (pc' := 99) dX6_valueContent_98 rfl rfl rfl ?_
    refine sm_getJN (k := 2) (pc' := 102) kX10 (by decide) mw288 dX6_valueContent_99 rfl (fun x20 => ?_)
    refine sm_cSI (pc' := 105) (st := []) [vJ x20] yY_yX6_numberContent mw289 mw290 (mX6_numberContent l D aC B x20 h) rfl (by decide) (by decide) (by exact Nat.le_of_ble_eq_true rfl) rfl dX6_valueContent_102 rfl (fun x21 h22 => ?_)
    exact sm_iret rfl dX6_valueContent_105
  refine sm_ite (fun c27 => ?_) (fun c27 => ?_)
  · refine sm_lkp (pc' := 98) (94) dX6_valueContent_4 (by decide) (by rw [c27]; decide) (by decide) ?_
    refine sm_aload_n (i := 0) (j := 0) (pc' := 99) dX6_valueContent_98 rfl rfl rfl ?_
    refine sm_getJN (k := 2) (pc' := 102) kX10 (by decide) mw288 dX6_valueContent_99 rfl (fun x24 => ?_)
    refine sm_cSI (pc' := 105) (st := []) [vJ x24] yY_yX6_numberContent mw289 mw290 (mX6_numberContent l D aC B x24 h) rfl (by decide) (by decide) (by exact Nat.le_of_ble_eq_true rfl) rfl dX6_valueContent_102 rfl (fun x25 h26 => ?_)
    exact sm_iret rfl dX6_valueContent_105
  refine sm_ite (fun c32 => ?_) (fun c32 => ?_)
  · refine sm_lkp (pc' := 106) (102) dX6_valueContent_4 (by decide) (by rw [c32]; decide) (by decide) ?_
    refine sm_aload_n (i := 0) (j := 0) (pc' := 107) dX6_valueContent_106 rfl rfl rfl ?_
    refine sm_getJN (k := 2) (pc' := 110) kX10 (by decide) mw288 dX6_valueContent_107 rfl (fun x28 => ?_)
    refine sm_lconst (v := (0 : Int64)) (pc' := 111) dX6_valueContent_110 rfl (by decide) ?_
    refine sm_lcmp (pc' := 112) dX6_valueContent_111 rfl ?_
    refine sm_if_ge (tgt := 120) (pc' := 115) dX6_valueContent_112 (by decide) rfl ?_ ?_
    · refine sm_aload_n (i := 0) (j := 0) (pc' := 121) dX6_valueContent_120 rfl rfl rfl ?_
      refine sm_getJN (k := 2) (pc' := 124) kX10 (by decide) mw288 dX6_valueContent_121 rfl (fun x29 => ?_)
      refine sm_cSI (pc' := 127) (st := []) [vJ x29] yY_yX6_numberContent mw289 mw290 (mX6_numberContent l D aC B x29 h) rfl (by decide) (by decide) (by exact Nat.le_of_ble_eq_true rfl) rfl dX6_valueContent_124 rfl (fun x30 h31 => ?_)
      exact sm_iret rfl dX6_valueContent_127
    refine sm_bipush (v := (9 : Int32)) (pc' := 117) dX6_valueContent_115 rfl (by decide) ?_
    refine sm_goto (pc' := 127) dX6_valueContent_117 (by decide) ?_
    exact sm_iret rfl dX6_valueContent_127
  refine sm_lkp (pc' := 128) (124) dX6_valueContent_4 (by decide) (by rw [lv_osw (k := (2 : Int32)) c5 (by decide), lv_osw (k := (4 : Int32)) c10 (by decide), lv_osw (k := (6 : Int32)) c14 (by decide), lv_osw (k := (64 : Int32)) c15 (by decide), lv_osw (k := (65 : Int32)) c19 (by decide), lv_osw (k := (66 : Int32)) c23 (by decide), lv_osw (k := (67 : Int32)) c27 (by decide), lv_osw (k := (70 : Int32)) c32 (by decide)]; rfl) (by decide) ?_
  refine sm_iconst (v := (0 : Int32)) (pc' := 129) dX6_valueContent_128 rfl (by decide) ?_
  exact sm_iret rfl dX6_valueContent_129
set_option maxRecDepth 100000 in
theorem mX6_valueContent (l : Launch) (D : va_G) (aC : Nat → ClassId) (B : Nat) (a0 : Option Nat) (h : sm_H) : sm_M l D vwCl gAts aC B gTs gNs gOs yX6_valueContent cX6_valueContent 1 (some .int) 2 44 vlI [vR a0] h (fX6_valueContent a0 h) := sm_meth [vR a0] yY_yX6_valueContent gG gN (Nat.le_of_ble_eq_true rfl) rfl (sX6_valueContent_0 l D aC B a0 h)
