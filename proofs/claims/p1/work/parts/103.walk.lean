-- M:TreeAgent$Reader.enterLast(I)Z
noncomputable def fX5_enterLast  (a0 : Nat) (a1 : Int32) (h : sm_H) : Option (Int32 × sm_H) :=
  (sm_R (sm_get h (some a0) 5 0)).bind fun x1 =>
  (sm_obj h x1 0).bind fun b11 =>
  sm_cb (fX0_size b11 h) fun x2 h3 =>
  (sm_obj h3 (some a0) 5).bind fun b10 =>
  sm_cb (fX5_enter b10 a1 x2 h3) fun x4 h5 =>
  (sm_R (sm_get h5 (some a0) 5 0)).bind fun x6 =>
  (sm_obj h5 x6 0).bind fun b9 =>
  sm_cb (fX0_size b9 h5) fun x7 h8 =>
  if x4 = x7 then (
    some ((1 : Int32), h8)
  ) else
  some ((0 : Int32), h8)
set_option maxRecDepth 100000 in
set_option maxHeartbeats 4000000 in
theorem sX5_enterLast_0 (l : Launch) (D : va_G) (aC : Nat → ClassId) (B : Nat)   (a0 : Nat) (a1 : Int32) (h : sm_H) : zS l D aC B cX5_enterLast 2 RX5 3 71 (some .boolean) "enterLast" vlI (fX5_enterLast a0 a1 h) 0 [(0, vR (some a0)), (1, vI a1)] [] h := by
  unfold fX5_enterLast
  refine sm_aload_n (i := 0) (j := 0) (pc' := 1) dX5_enterLast_0 rfl rfl rfl ?_
  refine sm_iload_n (i := 1) (j := 1) (pc' := 2) dX5_enterLast_1 rfl rfl rfl ?_
  refine sm_aload_n (i := 0) (j := 0) (pc' := 3) dX5_enterLast_2 rfl rfl rfl ?_
  refine sm_getR (k := 0) (pc' := 6) kX5 (by decide) mw195 dX5_enterLast_3 rfl (fun x1 => ?_)
  refine sm_cVI (pc' := 9) (ci := 0) (st := [vI a1, vR (some a0)]) (F := fun b => fX0_size b h) [] yY_yX0_size rfl mw206 mw32 mw33 (fun b => mX0_size l D aC B b h) rfl (by decide) (by decide) (by exact Nat.le_of_ble_eq_true rfl) rfl dX5_enterLast_6 rfl (fun x2 h3 => ?_)
  refine sm_cVI (pc' := 12) (ci := 5) (st := []) (F := fun b => fX5_enter b a1 x2 h3) [vI a1, vI x2] yY_yX5_enter rfl mw207 mw208 mw209 (fun b => mX5_enter l D aC B b a1 x2 h3) rfl (by decide) (by decide) (by exact Nat.le_of_ble_eq_true rfl) rfl dX5_enterLast_9 rfl (fun x4 h5 => ?_)
  refine sm_aload_n (i := 0) (j := 0) (pc' := 13) dX5_enterLast_12 rfl rfl rfl ?_
  refine sm_getR (k := 0) (pc' := 16) kX5 (by decide) mw195 dX5_enterLast_13 rfl (fun x6 => ?_)
  refine sm_cVI (pc' := 19) (ci := 0) (st := [vI x4]) (F := fun b => fX0_size b h5) [] yY_yX0_size rfl mw206 mw32 mw33 (fun b => mX0_size l D aC B b h5) rfl (by decide) (by decide) (by exact Nat.le_of_ble_eq_true rfl) rfl dX5_enterLast_16 rfl (fun x7 h8 => ?_)
  refine sm_icmp_ne (tgt := 26) (pc' := 22) dX5_enterLast_19 (by decide) rfl ?_ ?_
  · refine sm_iconst (v := (0 : Int32)) (pc' := 27) dX5_enterLast_26 rfl (by decide) ?_
    exact sm_zret0 rfl dX5_enterLast_27
  refine sm_iconst (v := (1 : Int32)) (pc' := 23) dX5_enterLast_22 rfl (by decide) ?_
  refine sm_goto (pc' := 27) dX5_enterLast_23 (by decide) ?_
  exact sm_zret1 rfl dX5_enterLast_27
set_option maxRecDepth 100000 in
theorem mX5_enterLast (l : Launch) (D : va_G) (aC : Nat → ClassId) (B : Nat) (a0 : Nat) (a1 : Int32) (h : sm_H) : sm_M l D vwCl gAts aC B gTs gNs gOs yX5_enterLast cX5_enterLast 2 (some .boolean) 3 71 vlI [vR (some a0), vI a1] h (fX5_enterLast a0 a1 h) := sm_meth [vR (some a0), vI a1] yY_yX5_enterLast gG gN (Nat.le_of_ble_eq_true rfl) rfl (sX5_enterLast_0 l D aC B a0 a1 h)
-- M:TreeAgent.isNumberOf(IJ)Z
noncomputable def fX11_isNumberOf  (a0 : Int32) (a1 : Int64) (h : sm_H) : Option (Int32 × sm_H) :=
  if a0 = (2 : Int32) then (
    if (lg_cmp a1 (-2147483648 : Int64)) < 0 then (
      some ((0 : Int32), h)
    ) else
    if 0 < (lg_cmp a1 (2147483647 : Int64)) then (
      some ((0 : Int32), h)
    ) else
    some ((1 : Int32), h)
  ) else
  if a0 = (65 : Int32) then (
    if (lg_cmp a1 (0 : Int64)) < 0 then (
      some ((0 : Int32), h)
    ) else
    if 0 < (lg_cmp a1 (4294967295 : Int64)) then (
      some ((0 : Int32), h)
    ) else
    some ((1 : Int32), h)
  ) else
  if a0 = (66 : Int32) then (
    if (lg_cmp a1 (0 : Int64)) < 0 then (
      some ((0 : Int32), h)
    ) else
    if 0 < (lg_cmp a1 (4294967295 : Int64)) then (
      some ((0 : Int32), h)
    ) else
    some ((1 : Int32), h)
  ) else
  if a0 = (67 : Int32) then (
    if (lg_cmp a1 (0 : Int64)) < 0 then (
      some ((0 : Int32), h)
    ) else
    if 0 < (lg_cmp a1 (4294967295 : Int64)) then (
      some ((0 : Int32), h)
    ) else
    some ((1 : Int32), h)
  ) else
  some ((1 : Int32), h)
set_option maxRecDepth 100000 in
set_option maxHeartbeats 4000000 in
theorem sX11_isNumberOf_0 (l : Launch) (D : va_G) (aC : Nat → ClassId) (B : Nat)   (a0 : Int32) (a1 : Int64) (h : sm_H) : zS l D aC B cX11_isNumberOf 3 RX11 0 0 (some .boolean) "isNumberOf" vlI (fX11_isNumberOf a0 a1 h) 0 [(0, vI a0), (1, vJ a1)] [] h := by
  unfold fX11_isNumberOf
  refine sm_iload_n (i := 0) (j := 0) (pc' := 1) dX11_isNumberOf_0 rfl rfl rfl ?_
  refine sm_ite (fun c1 => ?_) (fun c1 => ?_)
  · refine sm_lkp (pc' := 44) (43) dX11_isNumberOf_1 (by decide) (by rw [c1]; decide) (by decide) ?_
    refine sm_lload_n (i := 1) (j := 1) (pc' := 45) dX11_isNumberOf_44 rfl rfl rfl ?_
    refine sm_ldc2 (v := (-2147483648 : Int64)) (pc' := 48) dX11_isNumberOf_45 rfl mw210 ?_
    refine sm_lcmp (pc' := 49) dX11_isNumberOf_48 rfl ?_
    refine sm_if_lt (tgt := 64) (pc' := 52) dX11_isNumberOf_49 (by decide) rfl ?_ ?_
    · refine sm_iconst (v := (0 : Int32)) (pc' := 65) dX11_isNumberOf_64 rfl (by decide) ?_
      exact sm_zret0 rfl dX11_isNumberOf_65
    refine sm_lload_n (i := 1) (j := 1) (pc' := 53) dX11_isNumberOf_52 rfl rfl rfl ?_
    refine sm_ldc2 (v := (2147483647 : Int64)) (pc' := 56) dX11_isNumberOf_53 rfl mw211 ?_
    refine sm_lcmp (pc' := 57) dX11_isNumberOf_56 rfl ?_
    refine sm_if_gt (tgt := 64) (pc' := 60) dX11_isNumberOf_57 (by decide) rfl ?_ ?_
    · refine sm_iconst (v := (0 : Int32)) (pc' := 65) dX11_isNumberOf_64 rfl (by decide) ?_
      exact sm_zret0 rfl dX11_isNumberOf_65
    refine sm_iconst (v := (1 : Int32)) (pc' := 61) dX11_isNumberOf_60 rfl (by decide) ?_
    refine sm_goto (pc' := 65) dX11_isNumberOf_61 (by decide) ?_
    exact sm_zret1 rfl dX11_isNumberOf_65
  refine sm_ite (fun c2 => ?_) (fun c2 => ?_)
  · refine sm_lkp (pc' := 66) (65) dX11_isNumberOf_1 (by decide) (by rw [c2]; decide) (by decide) ?_
    refine sm_lload_n (i := 1) (j := 1) (pc' := 67) dX11_isNumberOf_66 rfl rfl rfl ?_
    refine sm_lconst (v := (0 : Int64)) (pc' := 68) dX11_isNumberOf_67 rfl (by decide) ?_
    refine sm_lcmp (pc' := 69) dX11_isNumberOf_68 rfl ?_
    refine sm_if_lt (tgt := 84) (pc' := 72) dX11_isNumberOf_69 (by decide) rfl ?_ ?_
    · refine sm_iconst (v := (0 : Int32)) (pc' := 85) dX11_isNumberOf_84 rfl (by decide) ?_
      exact sm_zret0 rfl dX11_isNumberOf_85
    refine sm_lload_n (i := 1) (j := 1) (pc' := 73) dX11_isNumberOf_72 rfl rfl rfl ?_
    refine sm_ldc2 (v := (4294967295 : Int64)) (pc' := 76) dX11_isNumberOf_73 rfl mw212 ?_
    refine sm_lcmp (pc' := 77) dX11_isNumberOf_76 rfl ?_
    refine sm_if_gt (tgt := 84) (pc' := 80) dX11_isNumberOf_77 (by decide) rfl ?_ ?_
    · refine sm_iconst (v := (0 : Int32)) (pc' := 85) dX11_isNumberOf_84 rfl (by decide) ?_
      exact sm_zret0 rfl dX11_isNumberOf_85
    refine sm_iconst (v := (1 : Int32)) (pc' := 81) dX11_isNumberOf_80 rfl (by decide) ?_
    refine sm_goto (pc' := 85) dX11_isNumberOf_81 (by decide) ?_
    exact sm_zret1 rfl dX11_isNumberOf_85
  refine sm_ite (fun c3 => ?_) (fun c3 => ?_)
  · refine sm_lkp (pc' := 66) (65) dX11_isNumberOf_1 (by decide) (by rw [c3]; decide) (by decide) ?_
    refine sm_lload_n (i := 1) (j := 1) (pc' := 67) dX11_isNumberOf_66 rfl rfl rfl ?_
    refine sm_lconst (v := (0 : Int64)) (pc' := 68) dX11_isNumberOf_67 rfl (by decide) ?_
    refine sm_lcmp (pc' := 69) dX11_isNumberOf_68 rfl ?_
    refine sm_if_lt (tgt := 84) (pc' := 72) dX11_isNumberOf_69 (by decide) rfl ?_ ?_
    · refine sm_iconst (v := (0 : Int32)) (pc' := 85) dX11_isNumberOf_84 rfl (by decide) ?_
      exact sm_zret0 rfl dX11_isNumberOf_85
    refine sm_lload_n (i := 1) (j := 1) (pc' := 73) dX11_isNumberOf_72 rfl rfl rfl ?_
    refine sm_ldc2 (v := (4294967295 : Int64)) (pc' := 76) dX11_isNumberOf_73 rfl mw212 ?_
    refine sm_lcmp (pc' := 77) dX11_isNumberOf_76 rfl ?_
    refine sm_if_gt (tgt := 84) (pc' := 80) dX11_isNumberOf_77 (by decide) rfl ?_ ?_
    · refine sm_iconst (v := (0 : Int32)) (pc' := 85) dX11_isNumberOf_84 rfl (by decide) ?_
      exact sm_zret0 rfl dX11_isNumberOf_85
    refine sm_iconst (v := (1 : Int32)) (pc' := 81) dX11_isNumberOf_80 rfl (by decide) ?_
    refine sm_goto (pc' := 85) dX11_isNumberOf_81 (by decide) ?_
    exact sm_zret1 rfl dX11_isNumberOf_85
  refine sm_ite (fun c4 => ?_) (fun c4 => ?_)
  · refine sm_lkp (pc' := 66) (65) dX11_isNumberOf_1 (by decide) (by rw [c4]; decide) (by decide) ?_
    refine sm_lload_n (i := 1) (j := 1) (pc' := 67) dX11_isNumberOf_66 rfl rfl rfl ?_
    refine sm_lconst (v := (0 : Int64)) (pc' := 68) dX11_isNumberOf_67 rfl (by decide) ?_
    refine sm_lcmp (pc' := 69) dX11_isNumberOf_68 rfl ?_
    refine sm_if_lt (tgt := 84) (pc' := 72) dX11_isNumberOf_69 (by decide) rfl ?_ ?_
    · refine sm_iconst (v := (0 : Int32)) (pc' := 85) dX11_isNumberOf_84 rfl (by decide) ?_
      exact sm_zret0 rfl dX11_isNumberOf_85
    refine sm_lload_n (i := 1) (j := 1) (pc' := 73) dX11_isNumberOf_72 rfl rfl rfl ?_
    refine sm_ldc2 (v := (4294967295 : Int64)) (pc' := 76) dX11_isNumberOf_73 rfl mw212 ?_
    refine sm_lcmp (pc' := 77) dX11_isNumberOf_76 rfl ?_
    refine sm_if_gt (tgt := 84) (pc' := 80) dX11_isNumberOf_77 (by decide) rfl ?_ ?_
    · refine sm_iconst (v := (0 : Int32)) (pc' := 85) dX11_isNumberOf_84 rfl (by decide) ?_
      exact sm_zret0 rfl dX11_isNumberOf_85
    refine sm_iconst (v := (1 : Int32)) (pc' := 81) dX11_isNumberOf_80 rfl (by decide) ?_
    refine sm_goto (pc' := 85) dX11_isNumberOf_81 (by decide) ?_
    exact sm_zret1 rfl dX11_isNumberOf_85
  refine sm_lkp (pc' := 86) (85) dX11_isNumberOf_1 (by decide) (by rw [lv_osw (k := (2 : Int32)) c1 (by decide), lv_osw (k := (65 : Int32)) c2 (by decide), lv_osw (k := (66 : Int32)) c3 (by decide), lv_osw (k := (67 : Int32)) c4 (by decide)]; rfl) (by decide) ?_
  refine sm_iconst (v := (1 : Int32)) (pc' := 87) dX11_isNumberOf_86 rfl (by decide) ?_
  exact sm_zret1 rfl dX11_isNumberOf_87
set_option maxRecDepth 100000 in
theorem mX11_isNumberOf (l : Launch) (D : va_G) (aC : Nat → ClassId) (B : Nat) (a0 : Int32) (a1 : Int64) (h : sm_H) : sm_M l D vwCl gAts aC B gTs gNs gOs yX11_isNumberOf cX11_isNumberOf 3 (some .boolean) 0 0 vlI [vI a0, vJ a1] h (fX11_isNumberOf a0 a1 h) := sm_meth [vI a0, vJ a1] yY_yX11_isNumberOf gG gN (Nat.le_of_ble_eq_true rfl) rfl (sX11_isNumberOf_0 l D aC B a0 a1 h)
-- M:TreeAgent$Reader.takeNumber(IILTreeAgent$Value;)Z
noncomputable def fX5_takeNumber_168  (a1 : Int32) (a9 : Int64) (s0 : Int32) (s1 : Int32) (h : sm_H) : Option (Int32 × sm_H) :=
  if s1 = s0 then (
    sm_cb (fX11_isNumberOf a1 a9 h) fun x1 h2 =>
    if x1 = 0 then (
      some ((0 : Int32), h2)
    ) else
    some ((1 : Int32), h2)
  ) else
  some ((0 : Int32), h)
set_option maxRecDepth 100000 in
set_option maxHeartbeats 4000000 in
theorem sX5_takeNumber_168 (l : Launch) (D : va_G) (aC : Nat → ClassId) (B : Nat)   (a1 : Int32) (a9 : Int64) (s0 : Int32) (s1 : Int32) (h : sm_H) : zS l D aC B cX5_takeNumber 11 RX5 1 22 (some .boolean) "takeNumber" vlI (fX5_takeNumber_168 a1 a9 s0 s1 h) 168 [(1, vI a1), (9, vJ a9)] [vI s0, vI s1] h := by
  unfold fX5_takeNumber_168
  refine sm_icmp_ne (tgt := 184) (pc' := 171) dX5_takeNumber_168 (by decide) rfl ?_ ?_
  · refine sm_iconst (v := (0 : Int32)) (pc' := 185) dX5_takeNumber_184 rfl (by decide) ?_
    exact sm_zret0 rfl dX5_takeNumber_185
  refine sm_iload_n (i := 1) (j := 0) (pc' := 172) dX5_takeNumber_171 rfl rfl rfl ?_
  refine sm_lload (i := 9) (j := 1) (pc' := 174) dX5_takeNumber_172 rfl rfl ?_
  refine sm_cSIN (pc' := 177) (st := []) [vI a1, vJ a9] yY_yX11_isNumberOf mw213 mw214 (mX11_isNumberOf l D aC B a1 a9 h) rfl (by decide) (by decide) (by exact Nat.le_of_ble_eq_true rfl) rfl dX5_takeNumber_174 rfl (fun x1 h2 => ?_)
  refine sm_if_eq (tgt := 184) (pc' := 180) dX5_takeNumber_177 (by decide) rfl ?_ ?_
  · refine sm_iconst (v := (0 : Int32)) (pc' := 185) dX5_takeNumber_184 rfl (by decide) ?_
    exact sm_zret0 rfl dX5_takeNumber_185
  refine sm_iconst (v := (1 : Int32)) (pc' := 181) dX5_takeNumber_180 rfl (by decide) ?_
  refine sm_goto (pc' := 185) dX5_takeNumber_181 (by decide) ?_
  exact sm_zret1 rfl dX5_takeNumber_185
noncomputable def fX5_takeNumber_156  (a1 : Int32) (a7 : Int64) (a9 : Int64) (s0 : Int32) (h : sm_H) : Option (Int32 × sm_H) :=
  if 0 ≤ (lg_cmp a7 (0 : Int64)) then (
    fX5_takeNumber_168 a1 a9 (0 : Int32) s0 h
  ) else
  fX5_takeNumber_168 a1 a9 (1 : Int32) s0 h
set_option maxRecDepth 100000 in
set_option maxHeartbeats 4000000 in
theorem sX5_takeNumber_156 (l : Launch) (D : va_G) (aC : Nat → ClassId) (B : Nat)   (a1 : Int32) (a7 : Int64) (a9 : Int64) (s0 : Int32) (h : sm_H) : zS l D aC B cX5_takeNumber 11 RX5 1 22 (some .boolean) "takeNumber" vlI (fX5_takeNumber_156 a1 a7 a9 s0 h) 156 [(1, vI a1), (7, vJ a7), (9, vJ a9)] [vI s0] h := by
  unfold fX5_takeNumber_156
  refine sm_lload (i := 7) (j := 1) (pc' := 158) dX5_takeNumber_156 rfl rfl ?_
  refine sm_lconst (v := (0 : Int64)) (pc' := 159) dX5_takeNumber_158 rfl (by decide) ?_
  refine sm_lcmp (pc' := 160) dX5_takeNumber_159 rfl ?_
  refine sm_if_ge (tgt := 167) (pc' := 163) dX5_takeNumber_160 (by decide) rfl ?_ ?_
  · refine sm_iconst (v := (0 : Int32)) (pc' := 168) dX5_takeNumber_167 rfl (by decide) ?_
    refine sm_lo (lv' := [(1, vI a1), (9, vJ a9)]) [0, 2] rfl ?_
    exact sX5_takeNumber_168 l D aC B  a1 a9 (0 : Int32) s0 h
  refine sm_iconst (v := (1 : Int32)) (pc' := 164) dX5_takeNumber_163 rfl (by decide) ?_
  refine sm_goto (pc' := 168) dX5_takeNumber_164 (by decide) ?_
  refine sm_lo (lv' := [(1, vI a1), (9, vJ a9)]) [0, 2] rfl ?_
  exact sX5_takeNumber_168 l D aC B  a1 a9 (1 : Int32) s0 h
noncomputable def fX5_takeNumber_125  (a1 : Int32) (a7 : Int64) (a9 : Int64) (h : sm_H) : Option (Int32 × sm_H) :=
  if a1 = (70 : Int32) then (
    if (lg_cmp a7 (0 : Int64)) = 0 then (
      some ((1 : Int32), h)
    ) else
    some ((0 : Int32), h)
  ) else
  if 0 ≤ (lg_cmp a9 (0 : Int64)) then (
    fX5_takeNumber_156 a1 a7 a9 (0 : Int32) h
  ) else
  fX5_takeNumber_156 a1 a7 a9 (1 : Int32) h
set_option maxRecDepth 100000 in
set_option maxHeartbeats 4000000 in
theorem sX5_takeNumber_125 (l : Launch) (D : va_G) (aC : Nat → ClassId) (B : Nat)   (a1 : Int32) (a7 : Int64) (a9 : Int64) (h : sm_H) : zS l D aC B cX5_takeNumber 11 RX5 1 22 (some .boolean) "takeNumber" vlI (fX5_takeNumber_125 a1 a7 a9 h) 125 [(1, vI a1), (7, vJ a7), (9, vJ a9)] [] h := by
  unfold fX5_takeNumber_125
  refine sm_iload_n (i := 1) (j := 0) (pc' := 126) dX5_takeNumber_125 rfl rfl rfl ?_
  refine sm_bipush (v := (70 : Int32)) (pc' := 128) dX5_takeNumber_126 rfl (by decide) ?_
  refine sm_icmp_ne (tgt := 144) (pc' := 131) dX5_takeNumber_128 (by decide) rfl ?_ ?_
  · refine sm_lload (i := 9) (j := 2) (pc' := 146) dX5_takeNumber_144 rfl rfl ?_
    refine sm_lconst (v := (0 : Int64)) (pc' := 147) dX5_takeNumber_146 rfl (by decide) ?_
    refine sm_lcmp (pc' := 148) dX5_takeNumber_147 rfl ?_
    refine sm_if_ge (tgt := 155) (pc' := 151) dX5_takeNumber_148 (by decide) rfl ?_ ?_
    · refine sm_iconst (v := (0 : Int32)) (pc' := 156) dX5_takeNumber_155 rfl (by decide) ?_
      exact sX5_takeNumber_156 l D aC B  a1 a7 a9 (0 : Int32) h
    refine sm_iconst (v := (1 : Int32)) (pc' := 152) dX5_takeNumber_151 rfl (by decide) ?_
    refine sm_goto (pc' := 156) dX5_takeNumber_152 (by decide) ?_
    exact sX5_takeNumber_156 l D aC B  a1 a7 a9 (1 : Int32) h
  refine sm_lload (i := 7) (j := 1) (pc' := 133) dX5_takeNumber_131 rfl rfl ?_
  refine sm_lconst (v := (0 : Int64)) (pc' := 134) dX5_takeNumber_133 rfl (by decide) ?_
  refine sm_lcmp (pc' := 135) dX5_takeNumber_134 rfl ?_
  refine sm_if_ne (tgt := 142) (pc' := 138) dX5_takeNumber_135 (by decide) rfl ?_ ?_
  · refine sm_iconst (v := (0 : Int32)) (pc' := 143) dX5_takeNumber_142 rfl (by decide) ?_
    exact sm_zret0 rfl dX5_takeNumber_143
  refine sm_iconst (v := (1 : Int32)) (pc' := 139) dX5_takeNumber_138 rfl (by decide) ?_
  refine sm_goto (pc' := 143) dX5_takeNumber_139 (by decide) ?_
  exact sm_zret1 rfl dX5_takeNumber_143
noncomputable def fX5_takeNumber_58  : Nat → Nat → Int32 → Int32 → Option Nat → Int32 → Int64 → Int64 → Int64 → sm_H → Option (Int32 × sm_H)
  | 0 => fun _ _ _ _ _ _ _ _ _ => none
  | n + 1 => fun a0 a1 a2 a3 a4 a5 a7 a9 h =>
    (sm_I (sm_get h (some a0) 5 2)).bind fun x1 =>
    if a2 ≤ x1 then (
      (sm_put h a3 10 2 (sm_v (vJ a9))).bind fun h2 =>
      if a4 = (9 : Int32) then (
        if (lg_cmp a5 (a7 &&& (255 : Int64))) = 0 then (
          fX5_takeNumber_125 a1 a7 a9 h2
        ) else
        some ((0 : Int32), h2)
      ) else
      fX5_takeNumber_125 a1 a7 a9 h2
    ) else
    (sm_R (sm_get h (some a0) 5 0)).bind fun x3 =>
    (sm_I (sm_get h (some a0) 5 2)).bind fun x4 =>
    (sm_obj h x3 0).bind fun b10 =>
    sm_cb (fX0_at b10 x4 h) fun x5 h6 =>
    sm_let ((a9 <<< ((8 : Int32).toInt64 &&& 63)) ||| x5) fun x7 =>
    (sm_I (sm_get h6 (some a0) 5 2)).bind fun x8 =>
    (sm_put h6 (some a0) 5 2 (sm_v (vI (x8 + (1 : Int32))))).bind fun h9 =>
    (fX5_takeNumber_58 n) a0 a1 a2 a3 a4 a5 a7 x7 h9
set_option maxRecDepth 100000 in
set_option maxHeartbeats 4000000 in
theorem sX5_takeNumber_58 (l : Launch) (D : va_G) (aC : Nat → ClassId) (B : Nat)   (n : Nat) : ∀ (a0 : Nat) (a1 : Int32) (a2 : Int32) (a3 : Option Nat) (a4 : Int32) (a5 : Int64) (a7 : Int64) (a9 : Int64) (h : sm_H), zS l D aC B cX5_takeNumber 11 RX5 1 22 (some .boolean) "takeNumber" vlI (fX5_takeNumber_58 n a0 a1 a2 a3 a4 a5 a7 a9 h) 58 [(0, vR (some a0)), (1, vI a1), (2, vI a2), (3, vR a3), (4, vI a4), (5, vJ a5), (7, vJ a7), (9, vJ a9)] [] h := by
  induction n with
  | zero => intro a0 a1 a2 a3 a4 a5 a7 a9 h; exact sm_none
  | succ n ih =>
    intro a0 a1 a2 a3 a4 a5 a7 a9 h
    show zS l D aC B cX5_takeNumber 11 RX5 1 22 (some .boolean) "takeNumber" vlI (fX5_takeNumber_58 (n + 1) a0 a1 a2 a3 a4 a5 a7 a9 h) 58 [(0, vR (some a0)), (1, vI a1), (2, vI a2), (3, vR a3), (4, vI a4), (5, vJ a5), (7, vJ a7), (9, vJ a9)] [] h
    unfold fX5_takeNumber_58
    refine sm_aload_n (i := 0) (j := 0) (pc' := 59) dX5_takeNumber_58 rfl rfl rfl ?_
    refine sm_getI (k := 2) (pc' := 62) kX5 (by decide) mw197 dX5_takeNumber_59 rfl (fun x1 => ?_)
    refine sm_iload_n (i := 2) (j := 2) (pc' := 63) dX5_takeNumber_62 rfl rfl rfl ?_
    refine sm_icmp_ge (tgt := 98) (pc' := 66) dX5_takeNumber_63 (by decide) rfl ?_ ?_
    · refine sm_aload_n (i := 3) (j := 3) (pc' := 99) dX5_takeNumber_98 rfl rfl rfl ?_
      refine sm_lload (i := 9) (j := 7) (pc' := 101) dX5_takeNumber_99 rfl rfl ?_
      refine sm_putNJ (k := 2) (pc' := 104) kX10 (by decide) mw215 rfl rfl dX5_takeNumber_101 rfl (fun h2 => ?_)
      refine sm_iload (i := 4) (j := 4) (pc' := 106) dX5_takeNumber_104 rfl rfl ?_
      refine sm_bipush (v := (9 : Int32)) (pc' := 108) dX5_takeNumber_106 rfl (by decide) ?_
      refine sm_icmp_ne (tgt := 125) (pc' := 111) dX5_takeNumber_108 (by decide) rfl ?_ ?_
      · refine sm_lo (lv' := [(1, vI a1), (7, vJ a7), (9, vJ a9)]) [1, 6, 7] rfl ?_
        exact sX5_takeNumber_125 l D aC B  a1 a7 a9 h2
      refine sm_lload (i := 5) (j := 5) (pc' := 113) dX5_takeNumber_111 rfl rfl ?_
      refine sm_lload (i := 7) (j := 6) (pc' := 115) dX5_takeNumber_113 rfl rfl ?_
      refine sm_ldc2 (v := (255 : Int64)) (pc' := 118) dX5_takeNumber_115 rfl mw216 ?_
      refine sm_land (pc' := 119) dX5_takeNumber_118 rfl ?_
      refine sm_lcmp (pc' := 120) dX5_takeNumber_119 rfl ?_
      refine sm_if_eq (tgt := 125) (pc' := 123) dX5_takeNumber_120 (by decide) rfl ?_ ?_
      · refine sm_lo (lv' := [(1, vI a1), (7, vJ a7), (9, vJ a9)]) [1, 6, 7] rfl ?_
        exact sX5_takeNumber_125 l D aC B  a1 a7 a9 h2
      refine sm_iconst (v := (0 : Int32)) (pc' := 124) dX5_takeNumber_123 rfl (by decide) ?_
      exact sm_zret0 rfl dX5_takeNumber_124
    refine sm_lload (i := 9) (j := 7) (pc' := 68) dX5_takeNumber_66 rfl rfl ?_
    refine sm_bipush (v := (8 : Int32)) (pc' := 70) dX5_takeNumber_68 rfl (by decide) ?_
    refine sm_lshl (pc' := 71) dX5_takeNumber_70 rfl ?_
    refine sm_aload_n (i := 0) (j := 0) (pc' := 72) dX5_takeNumber_71 rfl rfl rfl ?_
    refine sm_getR (k := 0) (pc' := 75) kX5 (by decide) mw195 dX5_takeNumber_72 rfl (fun x3 => ?_)
    refine sm_aload_n (i := 0) (j := 0) (pc' := 76) dX5_takeNumber_75 rfl rfl rfl ?_
    refine sm_getI (k := 2) (pc' := 79) kX5 (by decide) mw197 dX5_takeNumber_76 rfl (fun x4 => ?_)
    refine sm_cVJ (pc' := 82) (ci := 0) (st := [vJ (a9 <<< ((8 : Int32).toInt64 &&& 63))]) (F := fun b => fX0_at b x4 h) [vI x4] yY_yX0_at rfl mw198 mw15 mw16 (fun b => mX0_at l D aC B b x4 h) rfl (by decide) (by decide) (by exact Nat.le_of_ble_eq_true rfl) rfl dX5_takeNumber_79 rfl (fun x5 h6 => ?_)
    refine sm_lor (pc' := 83) dX5_takeNumber_82 rfl ?_
    refine sm_letJv (fun x7 => ?_)
    refine sm_lstore (i := 9) (lv' := [(9, vJ x7), (0, vR (some a0)), (1, vI a1), (2, vI a2), (3, vR a3), (4, vI a4), (5, vJ a5), (7, vJ a7)]) (pc' := 85) dX5_takeNumber_83 rfl (by decide) rfl ?_
    refine sm_aload_n (i := 0) (j := 1) (pc' := 86) dX5_takeNumber_85 rfl rfl rfl ?_
    refine sm_dup (pc' := 87) rfl dX5_takeNumber_86 rfl ?_
    refine sm_getI (k := 2) (pc' := 90) kX5 (by decide) mw197 dX5_takeNumber_87 rfl (fun x8 => ?_)
    refine sm_iconst (v := (1 : Int32)) (pc' := 91) dX5_takeNumber_90 rfl (by decide) ?_
    refine sm_iadd (pc' := 92) dX5_takeNumber_91 rfl ?_
    refine sm_putI (k := 2) (pc' := 95) kX5 (by decide) mw197 rfl rfl dX5_takeNumber_92 rfl (fun h9 => ?_)
    refine sm_goto (pc' := 58) dX5_takeNumber_95 (by decide) ?_
    refine sm_lo (lv' := [(0, vR (some a0)), (1, vI a1), (2, vI a2), (3, vR a3), (4, vI a4), (5, vJ a5), (7, vJ a7), (9, vJ x7)]) [1, 2, 3, 4, 5, 6, 7, 0] rfl ?_
    exact ih a0 a1 a2 a3 a4 a5 a7 x7 h9
noncomputable def fX5_takeNumber  (a0 : Nat) (a1 : Int32) (a2 : Int32) (a3 : Option Nat) (h : sm_H) : Option (Int32 × sm_H) :=
  (sm_I (sm_get h (some a0) 5 2)).bind fun x1 =>
  sm_let (a2 - x1) fun x2 =>
  if x2 < (1 : Int32) then (
    some ((0 : Int32), h)
  ) else
  if x2 ≤ (9 : Int32) then (
    (sm_R (sm_get h (some a0) 5 0)).bind fun x3 =>
    (sm_I (sm_get h (some a0) 5 2)).bind fun x4 =>
    (sm_obj h x3 0).bind fun b7 =>
    sm_cb (fX0_at b7 x4 h) fun x5 h6 =>
    if (lg_cmp x5 (128 : Int64)) < 0 then (
      fX5_takeNumber_58 sm_fuel a0 a1 a2 a3 x2 x5 (0 : Int64) (0 : Int64) h6
    ) else
    fX5_takeNumber_58 sm_fuel a0 a1 a2 a3 x2 x5 (-1 : Int64) (-1 : Int64) h6
  ) else
  some ((0 : Int32), h)
set_option maxRecDepth 100000 in
set_option maxHeartbeats 4000000 in
theorem sX5_takeNumber_0 (l : Launch) (D : va_G) (aC : Nat → ClassId) (B : Nat)   (a0 : Nat) (a1 : Int32) (a2 : Int32) (a3 : Option Nat) (h : sm_H) : zS l D aC B cX5_takeNumber 11 RX5 1 22 (some .boolean) "takeNumber" vlI (fX5_takeNumber a0 a1 a2 a3 h) 0 [(0, vR (some a0)), (1, vI a1), (2, vI a2), (3, vR a3)] [] h := by
  unfold fX5_takeNumber
  refine sm_iload_n (i := 2) (j := 2) (pc' := 1) dX5_takeNumber_0 rfl rfl rfl ?_
  refine sm_aload_n (i := 0) (j := 0) (pc' := 2) dX5_takeNumber_1 rfl rfl rfl ?_
  refine sm_getI (k := 2) (pc' := 5) kX5 (by decide) mw197 dX5_takeNumber_2 rfl (fun x1 => ?_)
  refine sm_isub (pc' := 6) dX5_takeNumber_5 rfl ?_
  refine sm_letIv (fun x2 => ?_)
  refine sm_istore (i := 4) (lv' := [(4, vI x2), (0, vR (some a0)), (1, vI a1), (2, vI a2), (3, vR a3)]) (pc' := 8) dX5_takeNumber_6 rfl (by decide) rfl ?_
  refine sm_iload (i := 4) (j := 0) (pc' := 10) dX5_takeNumber_8 rfl rfl ?_
  refine sm_iconst (v := (1 : Int32)) (pc' := 11) dX5_takeNumber_10 rfl (by decide) ?_
  refine sm_icmp_lt (tgt := 21) (pc' := 14) dX5_takeNumber_11 (by decide) rfl ?_ ?_
  · refine sm_iconst (v := (0 : Int32)) (pc' := 22) dX5_takeNumber_21 rfl (by decide) ?_
    exact sm_zret0 rfl dX5_takeNumber_22
  refine sm_iload (i := 4) (j := 0) (pc' := 16) dX5_takeNumber_14 rfl rfl ?_
  refine sm_bipush (v := (9 : Int32)) (pc' := 18) dX5_takeNumber_16 rfl (by decide) ?_
  refine sm_icmp_le (tgt := 23) (pc' := 21) dX5_takeNumber_18 (by decide) rfl ?_ ?_
  · refine sm_aload_n (i := 0) (j := 1) (pc' := 24) dX5_takeNumber_23 rfl rfl rfl ?_
    refine sm_getR (k := 0) (pc' := 27) kX5 (by decide) mw195 dX5_takeNumber_24 rfl (fun x3 => ?_)
    refine sm_aload_n (i := 0) (j := 1) (pc' := 28) dX5_takeNumber_27 rfl rfl rfl ?_
    refine sm_getI (k := 2) (pc' := 31) kX5 (by decide) mw197 dX5_takeNumber_28 rfl (fun x4 => ?_)
    refine sm_cVJ (pc' := 34) (ci := 0) (st := []) (F := fun b => fX0_at b x4 h) [vI x4] yY_yX0_at rfl mw198 mw15 mw16 (fun b => mX0_at l D aC B b x4 h) rfl (by decide) (by decide) (by exact Nat.le_of_ble_eq_true rfl) rfl dX5_takeNumber_31 rfl (fun x5 h6 => ?_)
    refine sm_lstore (i := 5) (lv' := [(5, vJ x5), (4, vI x2), (0, vR (some a0)), (1, vI a1), (2, vI a2), (3, vR a3)]) (pc' := 36) dX5_takeNumber_34 rfl (by decide) rfl ?_
    refine sm_lload (i := 5) (j := 0) (pc' := 38) dX5_takeNumber_36 rfl rfl ?_
    refine sm_ldc2 (v := (128 : Int64)) (pc' := 41) dX5_takeNumber_38 rfl mw199 ?_
    refine sm_lcmp (pc' := 42) dX5_takeNumber_41 rfl ?_
    refine sm_if_lt (tgt := 51) (pc' := 45) dX5_takeNumber_42 (by decide) rfl ?_ ?_
    · refine sm_lconst (v := (0 : Int64)) (pc' := 52) dX5_takeNumber_51 rfl (by decide) ?_
      refine sm_lstore (i := 7) (lv' := [(7, vJ (0 : Int64)), (5, vJ x5), (4, vI x2), (0, vR (some a0)), (1, vI a1), (2, vI a2), (3, vR a3)]) (pc' := 54) dX5_takeNumber_52 rfl (by decide) rfl ?_
      refine sm_lload (i := 7) (j := 0) (pc' := 56) dX5_takeNumber_54 rfl rfl ?_
      refine sm_lstore (i := 9) (lv' := [(9, vJ (0 : Int64)), (7, vJ (0 : Int64)), (5, vJ x5), (4, vI x2), (0, vR (some a0)), (1, vI a1), (2, vI a2), (3, vR a3)]) (pc' := 58) dX5_takeNumber_56 rfl (by decide) rfl ?_
      refine sm_lo (lv' := [(0, vR (some a0)), (1, vI a1), (2, vI a2), (3, vR a3), (4, vI x2), (5, vJ x5), (7, vJ (0 : Int64)), (9, vJ (0 : Int64))]) [4, 5, 6, 7, 3, 2, 1, 0] rfl ?_
      exact sX5_takeNumber_58 l D aC B   sm_fuel a0 a1 a2 a3 x2 x5 (0 : Int64) (0 : Int64) h6
    refine sm_ldc2 (v := (-1 : Int64)) (pc' := 48) dX5_takeNumber_45 rfl mw201 ?_
    refine sm_goto (pc' := 52) dX5_takeNumber_48 (by decide) ?_
    refine sm_lstore (i := 7) (lv' := [(7, vJ (-1 : Int64)), (5, vJ x5), (4, vI x2), (0, vR (some a0)), (1, vI a1), (2, vI a2), (3, vR a3)]) (pc' := 54) dX5_takeNumber_52 rfl (by decide) rfl ?_
    refine sm_lload (i := 7) (j := 0) (pc' := 56) dX5_takeNumber_54 rfl rfl ?_
    refine sm_lstore (i := 9) (lv' := [(9, vJ (-1 : Int64)), (7, vJ (-1 : Int64)), (5, vJ x5), (4, vI x2), (0, vR (some a0)), (1, vI a1), (2, vI a2), (3, vR a3)]) (pc' := 58) dX5_takeNumber_56 rfl (by decide) rfl ?_
    refine sm_lo (lv' := [(0, vR (some a0)), (1, vI a1), (2, vI a2), (3, vR a3), (4, vI x2), (5, vJ x5), (7, vJ (-1 : Int64)), (9, vJ (-1 : Int64))]) [4, 5, 6, 7, 3, 2, 1, 0] rfl ?_
    exact sX5_takeNumber_58 l D aC B   sm_fuel a0 a1 a2 a3 x2 x5 (-1 : Int64) (-1 : Int64) h6
  refine sm_iconst (v := (0 : Int32)) (pc' := 22) dX5_takeNumber_21 rfl (by decide) ?_
  exact sm_zret0 rfl dX5_takeNumber_22
set_option maxRecDepth 100000 in
theorem mX5_takeNumber (l : Launch) (D : va_G) (aC : Nat → ClassId) (B : Nat) (a0 : Nat) (a1 : Int32) (a2 : Int32) (a3 : Option Nat) (h : sm_H) : sm_M l D vwCl gAts aC B gTs gNs gOs yX5_takeNumber cX5_takeNumber 11 (some .boolean) 1 22 vlI [vR (some a0), vI a1, vI a2, vR a3] h (fX5_takeNumber a0 a1 a2 a3 h) := sm_meth [vR (some a0), vI a1, vI a2, vR a3] yY_yX5_takeNumber gG gN (Nat.le_of_ble_eq_true rfl) rfl (sX5_takeNumber_0 l D aC B a0 a1 a2 a3 h)
-- M:TreeAgent$Reader.readInteger()Z
noncomputable def fX5_readInteger  (a0 : Nat) (h : sm_H) : Option (Int32 × sm_H) :=
  (sm_R (sm_get h (some a0) 5 0)).bind fun x1 =>
  (sm_obj h x1 0).bind fun b11 =>
  sm_cb (fX0_size b11 h) fun x2 h3 =>
  (sm_obj h3 (some a0) 5).bind fun b10 =>
  sm_cb (fX5_enter b10 (2 : Int32) x2 h3) fun x4 h5 =>
  if x4 < 0 then (
    some ((0 : Int32), h5)
  ) else
  (sm_R (sm_get h5 (some a0) 5 1)).bind fun x6 =>
  (sm_obj h5 (some a0) 5).bind fun b9 =>
  sm_cb (fX5_takeNumber b9 (2 : Int32) x4 x6 h5) fun x7 h8 =>
  if x7 = 0 then (
    some ((0 : Int32), h8)
  ) else
  some ((1 : Int32), h8)
set_option maxRecDepth 100000 in
set_option maxHeartbeats 4000000 in
theorem sX5_readInteger_0 (l : Launch) (D : va_G) (aC : Nat → ClassId) (B : Nat)   (a0 : Nat) (h : sm_H) : zS l D aC B cX5_readInteger 2 RX5 3 71 (some .boolean) "readInteger" vlI (fX5_readInteger a0 h) 0 [(0, vR (some a0))] [] h := by
  unfold fX5_readInteger
  refine sm_aload_n (i := 0) (j := 0) (pc' := 1) dX5_readInteger_0 rfl rfl rfl ?_
  refine sm_iconst (v := (2 : Int32)) (pc' := 2) dX5_readInteger_1 rfl (by decide) ?_
  refine sm_aload_n (i := 0) (j := 0) (pc' := 3) dX5_readInteger_2 rfl rfl rfl ?_
  refine sm_getR (k := 0) (pc' := 6) kX5 (by decide) mw195 dX5_readInteger_3 rfl (fun x1 => ?_)
  refine sm_cVI (pc' := 9) (ci := 0) (st := [vI (2 : Int32), vR (some a0)]) (F := fun b => fX0_size b h) [] yY_yX0_size rfl mw206 mw32 mw33 (fun b => mX0_size l D aC B b h) rfl (by decide) (by decide) (by exact Nat.le_of_ble_eq_true rfl) rfl dX5_readInteger_6 rfl (fun x2 h3 => ?_)
  refine sm_cVI (pc' := 12) (ci := 5) (st := []) (F := fun b => fX5_enter b (2 : Int32) x2 h3) [vI (2 : Int32), vI x2] yY_yX5_enter rfl mw207 mw208 mw209 (fun b => mX5_enter l D aC B b (2 : Int32) x2 h3) rfl (by decide) (by decide) (by exact Nat.le_of_ble_eq_true rfl) rfl dX5_readInteger_9 rfl (fun x4 h5 => ?_)
  refine sm_istore_n (i := 1) (lv' := [(1, vI x4), (0, vR (some a0))]) (pc' := 13) dX5_readInteger_12 rfl rfl (by decide) rfl ?_
  refine sm_iload_n (i := 1) (j := 0) (pc' := 14) dX5_readInteger_13 rfl rfl rfl ?_
  refine sm_if_lt (tgt := 34) (pc' := 17) dX5_readInteger_14 (by decide) rfl ?_ ?_
  · refine sm_iconst (v := (0 : Int32)) (pc' := 35) dX5_readInteger_34 rfl (by decide) ?_
    exact sm_zret0 rfl dX5_readInteger_35
  refine sm_aload_n (i := 0) (j := 1) (pc' := 18) dX5_readInteger_17 rfl rfl rfl ?_
  refine sm_iconst (v := (2 : Int32)) (pc' := 19) dX5_readInteger_18 rfl (by decide) ?_
  refine sm_iload_n (i := 1) (j := 0) (pc' := 20) dX5_readInteger_19 rfl rfl rfl ?_
  refine sm_aload_n (i := 0) (j := 1) (pc' := 21) dX5_readInteger_20 rfl rfl rfl ?_
  refine sm_getR (k := 1) (pc' := 24) kX5 (by decide) mw194 dX5_readInteger_21 rfl (fun x6 => ?_)
  refine sm_cVI (pc' := 27) (ci := 5) (st := []) (F := fun b => fX5_takeNumber b (2 : Int32) x4 x6 h5) [vI (2 : Int32), vI x4, vR x6] yY_yX5_takeNumber rfl mw217 mw218 mw219 (fun b => mX5_takeNumber l D aC B b (2 : Int32) x4 x6 h5) rfl (by decide) (by decide) (by exact Nat.le_of_ble_eq_true rfl) rfl dX5_readInteger_24 rfl (fun x7 h8 => ?_)
  refine sm_if_eq (tgt := 34) (pc' := 30) dX5_readInteger_27 (by decide) rfl ?_ ?_
  · refine sm_iconst (v := (0 : Int32)) (pc' := 35) dX5_readInteger_34 rfl (by decide) ?_
    exact sm_zret0 rfl dX5_readInteger_35
  refine sm_iconst (v := (1 : Int32)) (pc' := 31) dX5_readInteger_30 rfl (by decide) ?_
  refine sm_goto (pc' := 35) dX5_readInteger_31 (by decide) ?_
  exact sm_zret1 rfl dX5_readInteger_35
set_option maxRecDepth 100000 in
theorem mX5_readInteger (l : Launch) (D : va_G) (aC : Nat → ClassId) (B : Nat) (a0 : Nat) (h : sm_H) : sm_M l D vwCl gAts aC B gTs gNs gOs yX5_readInteger cX5_readInteger 2 (some .boolean) 3 71 vlI [vR (some a0)] h (fX5_readInteger a0 h) := sm_meth [vR (some a0)] yY_yX5_readInteger gG gN (Nat.le_of_ble_eq_true rfl) rfl (sX5_readInteger_0 l D aC B a0 h)
-- M:TreeAgent$Reader.takeText(LTreeAgent$Chain;I)Z
noncomputable def fX5_takeText_17  : Nat → Nat → Option Nat → Int32 → sm_H → Option (Int32 × sm_H)
  | 0 => fun _ _ _ _ => none
  | n + 1 => fun a0 a1 a2 h =>
    (sm_I (sm_get h (some a0) 5 2)).bind fun x1 =>
    if a2 ≤ x1 then (
      some ((1 : Int32), h)
    ) else
    (sm_R (sm_get h (some a0) 5 0)).bind fun x2 =>
    (sm_I (sm_get h (some a0) 5 2)).bind fun x3 =>
    (sm_obj h x2 0).bind fun b11 =>
    sm_cb (fX0_at b11 x3 h) fun x4 h5 =>
    (sm_obj h5 a1 0).bind fun b10 =>
    sm_cb (fX0_add b10 x4 h5) fun x6 h7 =>
    (sm_I (sm_get h7 (some a0) 5 2)).bind fun x8 =>
    (sm_put h7 (some a0) 5 2 (sm_v (vI (x8 + (1 : Int32))))).bind fun h9 =>
    (fX5_takeText_17 n) a0 a1 a2 h9
set_option maxRecDepth 100000 in
set_option maxHeartbeats 4000000 in
theorem sX5_takeText_17 (l : Launch) (D : va_G) (aC : Nat → ClassId) (B : Nat)   (n : Nat) : ∀ (a0 : Nat) (a1 : Option Nat) (a2 : Int32) (h : sm_H), zS l D aC B cX5_takeText 3 RX5 1 22 (some .boolean) "takeText" vlI (fX5_takeText_17 n a0 a1 a2 h) 17 [(0, vR (some a0)), (1, vR a1), (2, vI a2)] [] h := by
  induction n with
  | zero => intro a0 a1 a2 h; exact sm_none
  | succ n ih =>
    intro a0 a1 a2 h
    show zS l D aC B cX5_takeText 3 RX5 1 22 (some .boolean) "takeText" vlI (fX5_takeText_17 (n + 1) a0 a1 a2 h) 17 [(0, vR (some a0)), (1, vR a1), (2, vI a2)] [] h
    unfold fX5_takeText_17
    refine sm_aload_n (i := 0) (j := 0) (pc' := 18) dX5_takeText_17 rfl rfl rfl ?_
    refine sm_getI (k := 2) (pc' := 21) kX5 (by decide) mw197 dX5_takeText_18 rfl (fun x1 => ?_)
    refine sm_iload_n (i := 2) (j := 2) (pc' := 22) dX5_takeText_21 rfl rfl rfl ?_
    refine sm_icmp_ge (tgt := 54) (pc' := 25) dX5_takeText_22 (by decide) rfl ?_ ?_
    · refine sm_iconst (v := (1 : Int32)) (pc' := 55) dX5_takeText_54 rfl (by decide) ?_
      exact sm_zret1 rfl dX5_takeText_55
    refine sm_aload_n (i := 1) (j := 1) (pc' := 26) dX5_takeText_25 rfl rfl rfl ?_
    refine sm_aload_n (i := 0) (j := 0) (pc' := 27) dX5_takeText_26 rfl rfl rfl ?_
    refine sm_getR (k := 0) (pc' := 30) kX5 (by decide) mw195 dX5_takeText_27 rfl (fun x2 => ?_)
    refine sm_aload_n (i := 0) (j := 0) (pc' := 31) dX5_takeText_30 rfl rfl rfl ?_
    refine sm_getI (k := 2) (pc' := 34) kX5 (by decide) mw197 dX5_takeText_31 rfl (fun x3 => ?_)
    refine sm_cVJ (pc' := 37) (ci := 0) (st := [vR a1]) (F := fun b => fX0_at b x3 h) [vI x3] yY_yX0_at rfl mw198 mw15 mw16 (fun b => mX0_at l D aC B b x3 h) rfl (by decide) (by decide) (by exact Nat.le_of_ble_eq_true rfl) rfl dX5_takeText_34 rfl (fun x4 h5 => ?_)
    refine sm_cVI (pc' := 40) (ci := 0) (st := []) (F := fun b => fX0_add b x4 h5) [vJ x4] yY_yX0_add rfl mw220 mw13 mw14 (fun b => mX0_add l D aC B b x4 h5) rfl (by decide) (by decide) (by exact Nat.le_of_ble_eq_true rfl) rfl dX5_takeText_37 rfl (fun x6 h7 => ?_)
    refine sm_pop (pc' := 41) rfl dX5_takeText_40 rfl ?_
    refine sm_aload_n (i := 0) (j := 0) (pc' := 42) dX5_takeText_41 rfl rfl rfl ?_
    refine sm_dup (pc' := 43) rfl dX5_takeText_42 rfl ?_
    refine sm_getI (k := 2) (pc' := 46) kX5 (by decide) mw197 dX5_takeText_43 rfl (fun x8 => ?_)
    refine sm_iconst (v := (1 : Int32)) (pc' := 47) dX5_takeText_46 rfl (by decide) ?_
    refine sm_iadd (pc' := 48) dX5_takeText_47 rfl ?_
    refine sm_putI (k := 2) (pc' := 51) kX5 (by decide) mw197 rfl rfl dX5_takeText_48 rfl (fun h9 => ?_)
    refine sm_goto (pc' := 17) dX5_takeText_51 (by decide) ?_
    exact ih a0 a1 a2 h9
noncomputable def fX5_takeText  (a0 : Nat) (a1 : Option Nat) (a2 : Int32) (h : sm_H) : Option (Int32 × sm_H) :=
  (sm_obj h a1 0).bind fun b3 =>
  sm_cb (fX0_clear b3 h) fun _ h1 =>
  (sm_I (sm_get h1 (some a0) 5 2)).bind fun x2 =>
  if (a2 - x2) ≤ (40 : Int32) then (
    fX5_takeText_17 sm_fuel a0 a1 a2 h1
  ) else
  some ((0 : Int32), h1)
set_option maxRecDepth 100000 in
set_option maxHeartbeats 4000000 in
theorem sX5_takeText_0 (l : Launch) (D : va_G) (aC : Nat → ClassId) (B : Nat)   (a0 : Nat) (a1 : Option Nat) (a2 : Int32) (h : sm_H) : zS l D aC B cX5_takeText 3 RX5 1 22 (some .boolean) "takeText" vlI (fX5_takeText a0 a1 a2 h) 0 [(0, vR (some a0)), (1, vR a1), (2, vI a2)] [] h := by
  unfold fX5_takeText
  refine sm_aload_n (i := 1) (j := 1) (pc' := 1) dX5_takeText_0 rfl rfl rfl ?_
  refine sm_cVU (pc' := 4) (ci := 0) (st := []) (F := fun b => fX0_clear b h) [] yY_yX0_clear rfl mw221 mw121 mw122 (fun b => mX0_clear l D aC B b h) rfl (by decide) (by decide) (by exact Nat.le_of_ble_eq_true rfl) rfl dX5_takeText_1 rfl (fun _ h1 => ?_)
  refine sm_iload_n (i := 2) (j := 2) (pc' := 5) dX5_takeText_4 rfl rfl rfl ?_
  refine sm_aload_n (i := 0) (j := 0) (pc' := 6) dX5_takeText_5 rfl rfl rfl ?_
  refine sm_getI (k := 2) (pc' := 9) kX5 (by decide) mw197 dX5_takeText_6 rfl (fun x2 => ?_)
  refine sm_isub (pc' := 10) dX5_takeText_9 rfl ?_
  refine sm_bipush (v := (40 : Int32)) (pc' := 12) dX5_takeText_10 rfl (by decide) ?_
  refine sm_icmp_le (tgt := 17) (pc' := 15) dX5_takeText_12 (by decide) rfl ?_ ?_
  · exact sX5_takeText_17 l D aC B   sm_fuel a0 a1 a2 h1
  refine sm_iconst (v := (0 : Int32)) (pc' := 16) dX5_takeText_15 rfl (by decide) ?_
  exact sm_zret0 rfl dX5_takeText_16
set_option maxRecDepth 100000 in
theorem mX5_takeText (l : Launch) (D : va_G) (aC : Nat → ClassId) (B : Nat) (a0 : Nat) (a1 : Option Nat) (a2 : Int32) (h : sm_H) : sm_M l D vwCl gAts aC B gTs gNs gOs yX5_takeText cX5_takeText 3 (some .boolean) 1 22 vlI [vR (some a0), vR a1, vI a2] h (fX5_takeText a0 a1 a2 h) := sm_meth [vR (some a0), vR a1, vI a2] yY_yX5_takeText gG gN (Nat.le_of_ble_eq_true rfl) rfl (sX5_takeText_0 l D aC B a0 a1 a2 h)
-- M:TreeAgent$Reader.readHead(LTreeAgent$Message;)I
noncomputable def fX5_readHead_49  (a0 : Nat) (a1 : Option Nat) (h : sm_H) : Option (Int32 × sm_H) :=
  (sm_R (sm_get h (some a0) 5 1)).bind fun x1 =>
  (sm_J (sm_get h x1 10 2)).bind fun x2 =>
  (sm_put h a1 3 3 (sm_v (vI (x2.toInt32)))).bind fun h3 =>
  (sm_R (sm_get h3 (some a0) 5 0)).bind fun x4 =>
  (sm_obj h3 x4 0).bind fun b14 =>
  sm_cb (fX0_size b14 h3) fun x5 h6 =>
  (sm_obj h6 (some a0) 5).bind fun b13 =>
  sm_cb (fX5_enter b13 (4 : Int32) x5 h6) fun x7 h8 =>
  if x7 < 0 then (
    some ((1 : Int32), h8)
  ) else
  (sm_R (sm_get h8 a1 3 0)).bind fun x9 =>
  (sm_obj h8 (some a0) 5).bind fun b12 =>
  sm_cb (fX5_takeText b12 x9 x7 h8) fun x10 h11 =>
  if x10 = 0 then (
    some ((1 : Int32), h11)
  ) else
  some ((0 : Int32), h11)
set_option maxRecDepth 100000 in
set_option maxHeartbeats 4000000 in
theorem sX5_readHead_49 (l : Launch) (D : va_G) (aC : Nat → ClassId) (B : Nat)   (a0 : Nat) (a1 : Option Nat) (h : sm_H) : zS l D aC B cX5_readHead 3 RX5 4 92 (some .int) "readHead" vlI (fX5_readHead_49 a0 a1 h) 49 [(0, vR (some a0)), (1, vR a1)] [] h := by
  unfold fX5_readHead_49
  refine sm_aload_n (i := 1) (j := 1) (pc' := 50) dX5_readHead_49 rfl rfl rfl ?_
  refine sm_aload_n (i := 0) (j := 0) (pc' := 51) dX5_readHead_50 rfl rfl rfl ?_
  refine sm_getR (k := 1) (pc' := 54) kX5 (by decide) mw194 dX5_readHead_51 rfl (fun x1 => ?_)
  refine sm_getJN (k := 2) (pc' := 57) kX10 (by decide) mw215 dX5_readHead_54 rfl (fun x2 => ?_)
  refine sm_l2i (pc' := 58) dX5_readHead_57 rfl ?_
  refine sm_putNI (k := 3) (pc' := 61) kX3 (by decide) mw222 rfl rfl dX5_readHead_58 rfl (fun h3 => ?_)
  refine sm_aload_n (i := 0) (j := 0) (pc' := 62) dX5_readHead_61 rfl rfl rfl ?_
  refine sm_iconst (v := (4 : Int32)) (pc' := 63) dX5_readHead_62 rfl (by decide) ?_
  refine sm_aload_n (i := 0) (j := 0) (pc' := 64) dX5_readHead_63 rfl rfl rfl ?_
  refine sm_getR (k := 0) (pc' := 67) kX5 (by decide) mw195 dX5_readHead_64 rfl (fun x4 => ?_)
  refine sm_cVI (pc' := 70) (ci := 0) (st := [vI (4 : Int32), vR (some a0)]) (F := fun b => fX0_size b h3) [] yY_yX0_size rfl mw206 mw32 mw33 (fun b => mX0_size l D aC B b h3) rfl (by decide) (by decide) (by exact Nat.le_of_ble_eq_true rfl) rfl dX5_readHead_67 rfl (fun x5 h6 => ?_)
  refine sm_cVI (pc' := 73) (ci := 5) (st := []) (F := fun b => fX5_enter b (4 : Int32) x5 h6) [vI (4 : Int32), vI x5] yY_yX5_enter rfl mw207 mw208 mw209 (fun b => mX5_enter l D aC B b (4 : Int32) x5 h6) rfl (by decide) (by decide) (by exact Nat.le_of_ble_eq_true rfl) rfl dX5_readHead_70 rfl (fun x7 h8 => ?_)
  refine sm_istore_n (i := 2) (lv' := [(2, vI x7), (0, vR (some a0)), (1, vR a1)]) (pc' := 74) dX5_readHead_73 rfl rfl (by decide) rfl ?_
  refine sm_iload_n (i := 2) (j := 0) (pc' := 75) dX5_readHead_74 rfl rfl rfl ?_
  refine sm_if_lt (tgt := 94) (pc' := 78) dX5_readHead_75 (by decide) rfl ?_ ?_
  · refine sm_iconst (v := (1 : Int32)) (pc' := 95) dX5_readHead_94 rfl (by decide) ?_
    exact sm_iret rfl dX5_readHead_95
  refine sm_aload_n (i := 0) (j := 1) (pc' := 79) dX5_readHead_78 rfl rfl rfl ?_
  refine sm_aload_n (i := 1) (j := 2) (pc' := 80) dX5_readHead_79 rfl rfl rfl ?_
  refine sm_getRN (k := 0) (pc' := 83) kX3 (by decide) mw223 dX5_readHead_80 rfl (fun x9 => ?_)
  refine sm_iload_n (i := 2) (j := 0) (pc' := 84) dX5_readHead_83 rfl rfl rfl ?_
  refine sm_cVI (pc' := 87) (ci := 5) (st := []) (F := fun b => fX5_takeText b x9 x7 h8) [vR x9, vI x7] yY_yX5_takeText rfl mw224 mw225 mw226 (fun b => mX5_takeText l D aC B b x9 x7 h8) rfl (by decide) (by decide) (by exact Nat.le_of_ble_eq_true rfl) rfl dX5_readHead_84 rfl (fun x10 h11 => ?_)
  refine sm_if_eq (tgt := 94) (pc' := 90) dX5_readHead_87 (by decide) rfl ?_ ?_
  · refine sm_iconst (v := (1 : Int32)) (pc' := 95) dX5_readHead_94 rfl (by decide) ?_
    exact sm_iret rfl dX5_readHead_95
  refine sm_iconst (v := (0 : Int32)) (pc' := 91) dX5_readHead_90 rfl (by decide) ?_
  refine sm_goto (pc' := 95) dX5_readHead_91 (by decide) ?_
  exact sm_iret rfl dX5_readHead_95
noncomputable def fX5_readHead  (a0 : Nat) (a1 : Option Nat) (h : sm_H) : Option (Int32 × sm_H) :=
  (sm_put h (some a0) 5 2 (sm_v (vI (0 : Int32)))).bind fun h1 =>
  (sm_obj h1 (some a0) 5).bind fun b11 =>
  sm_cb (fX5_enterLast b11 (48 : Int32) h1) fun x2 h3 =>
  if x2 = 0 then (
    some ((1 : Int32), h3)
  ) else
  (sm_obj h3 (some a0) 5).bind fun b10 =>
  sm_cb (fX5_readInteger b10 h3) fun x4 h5 =>
  if x4 = 0 then (
    some ((1 : Int32), h5)
  ) else
  (sm_R (sm_get h5 (some a0) 5 1)).bind fun x6 =>
  (sm_J (sm_get h5 x6 10 2)).bind fun x7 =>
  if (lg_cmp x7 (0 : Int64)) = 0 then (
    fX5_readHead_49 a0 a1 h5
  ) else
  (sm_R (sm_get h5 (some a0) 5 1)).bind fun x8 =>
  (sm_J (sm_get h5 x8 10 2)).bind fun x9 =>
  if (lg_cmp x9 (1 : Int64)) = 0 then (
    fX5_readHead_49 a0 a1 h5
  ) else
  some ((2 : Int32), h5)
set_option maxRecDepth 100000 in
set_option maxHeartbeats 4000000 in
theorem sX5_readHead_0 (l : Launch) (D : va_G) (aC : Nat → ClassId) (B : Nat)   (a0 : Nat) (a1 : Option Nat) (h : sm_H) : zS l D aC B cX5_readHead 3 RX5 4 92 (some .int) "readHead" vlI (fX5_readHead a0 a1 h) 0 [(0, vR (some a0)), (1, vR a1)] [] h := by
  unfold fX5_readHead
  refine sm_aload_n (i := 0) (j := 0) (pc' := 1) dX5_readHead_0 rfl rfl rfl ?_
  refine sm_iconst (v := (0 : Int32)) (pc' := 2) dX5_readHead_1 rfl (by decide) ?_
  refine sm_putI (k := 2) (pc' := 5) kX5 (by decide) mw197 rfl rfl dX5_readHead_2 rfl (fun h1 => ?_)
  refine sm_aload_n (i := 0) (j := 0) (pc' := 6) dX5_readHead_5 rfl rfl rfl ?_
  refine sm_bipush (v := (48 : Int32)) (pc' := 8) dX5_readHead_6 rfl (by decide) ?_
  refine sm_cVI (pc' := 11) (ci := 5) (st := []) (F := fun b => fX5_enterLast b (48 : Int32) h1) [vI (48 : Int32)] yY_yX5_enterLast rfl mw227 mw231 mw232 (fun b => mX5_enterLast l D aC B b (48 : Int32) h1) rfl (by decide) (by decide) (by exact Nat.le_of_ble_eq_true rfl) rfl dX5_readHead_8 rfl (fun x2 h3 => ?_)
  refine sm_if_eq (tgt := 21) (pc' := 14) dX5_readHead_11 (by decide) rfl ?_ ?_
  · refine sm_iconst (v := (1 : Int32)) (pc' := 22) dX5_readHead_21 rfl (by decide) ?_
    exact sm_iret rfl dX5_readHead_22
  refine sm_aload_n (i := 0) (j := 0) (pc' := 15) dX5_readHead_14 rfl rfl rfl ?_
  refine sm_cVI (pc' := 18) (ci := 5) (st := []) (F := fun b => fX5_readInteger b h3) [] yY_yX5_readInteger rfl mw228 mw229 mw230 (fun b => mX5_readInteger l D aC B b h3) rfl (by decide) (by decide) (by exact Nat.le_of_ble_eq_true rfl) rfl dX5_readHead_15 rfl (fun x4 h5 => ?_)
  refine sm_if_ne (tgt := 23) (pc' := 21) dX5_readHead_18 (by decide) rfl ?_ ?_
  · refine sm_aload_n (i := 0) (j := 0) (pc' := 24) dX5_readHead_23 rfl rfl rfl ?_
    refine sm_getR (k := 1) (pc' := 27) kX5 (by decide) mw194 dX5_readHead_24 rfl (fun x6 => ?_)
    refine sm_getJN (k := 2) (pc' := 30) kX10 (by decide) mw215 dX5_readHead_27 rfl (fun x7 => ?_)
    refine sm_lconst (v := (0 : Int64)) (pc' := 31) dX5_readHead_30 rfl (by decide) ?_
    refine sm_lcmp (pc' := 32) dX5_readHead_31 rfl ?_
    refine sm_if_eq (tgt := 49) (pc' := 35) dX5_readHead_32 (by decide) rfl ?_ ?_
    · exact sX5_readHead_49 l D aC B  a0 a1 h5
    refine sm_aload_n (i := 0) (j := 0) (pc' := 36) dX5_readHead_35 rfl rfl rfl ?_
    refine sm_getR (k := 1) (pc' := 39) kX5 (by decide) mw194 dX5_readHead_36 rfl (fun x8 => ?_)
    refine sm_getJN (k := 2) (pc' := 42) kX10 (by decide) mw215 dX5_readHead_39 rfl (fun x9 => ?_)
    refine sm_lconst (v := (1 : Int64)) (pc' := 43) dX5_readHead_42 rfl (by decide) ?_
    refine sm_lcmp (pc' := 44) dX5_readHead_43 rfl ?_
    refine sm_if_eq (tgt := 49) (pc' := 47) dX5_readHead_44 (by decide) rfl ?_ ?_
    · exact sX5_readHead_49 l D aC B  a0 a1 h5
    refine sm_iconst (v := (2 : Int32)) (pc' := 48) dX5_readHead_47 rfl (by decide) ?_
    exact sm_iret rfl dX5_readHead_48
  refine sm_iconst (v := (1 : Int32)) (pc' := 22) dX5_readHead_21 rfl (by decide) ?_
  exact sm_iret rfl dX5_readHead_22
set_option maxRecDepth 100000 in
theorem mX5_readHead (l : Launch) (D : va_G) (aC : Nat → ClassId) (B : Nat) (a0 : Nat) (a1 : Option Nat) (h : sm_H) : sm_M l D vwCl gAts aC B gTs gNs gOs yX5_readHead cX5_readHead 3 (some .int) 4 92 vlI [vR (some a0), vR a1] h (fX5_readHead a0 a1 h) := sm_meth [vR (some a0), vR a1] yY_yX5_readHead gG gN (Nat.le_of_ble_eq_true rfl) rfl (sX5_readHead_0 l D aC B a0 a1 h)
-- M:TreeAgent$Reader.isKind(II)Z
noncomputable def fX5_isKind  (a0 : Int32) (a1 : Int32) (h : sm_H) : Option (Int32 × sm_H) :=
  if a0 = (160 : Int32) then (
    some ((1 : Int32), h)
  ) else
  if a0 = (161 : Int32) then (
    some ((1 : Int32), h)
  ) else
  if a0 = (163 : Int32) then (
    some ((1 : Int32), h)
  ) else
  if a0 = (165 : Int32) then (
    if a1 = (1 : Int32) then (
      some ((1 : Int32), h)
    ) else
    some ((0 : Int32), h)
  ) else
  some ((0 : Int32), h)
set_option maxRecDepth 100000 in
set_option maxHeartbeats 4000000 in
theorem sX5_isKind_0 (l : Launch) (D : va_G) (aC : Nat → ClassId) (B : Nat)   (a0 : Int32) (a1 : Int32) (h : sm_H) : zS l D aC B cX5_isKind 2 RX5 0 0 (some .boolean) "isKind" vlI (fX5_isKind a0 a1 h) 0 [(0, vI a0), (1, vI a1)] [] h := by
  unfold fX5_isKind
  refine sm_iload_n (i := 0) (j := 0) (pc' := 1) dX5_isKind_0 rfl rfl rfl ?_
  refine sm_sipush (v := (160 : Int32)) (pc' := 4) dX5_isKind_1 rfl (by decide) ?_
  refine sm_icmp_eq (tgt := 33) (pc' := 7) dX5_isKind_4 (by decide) rfl ?_ ?_
  · refine sm_iconst (v := (1 : Int32)) (pc' := 34) dX5_isKind_33 rfl (by decide) ?_
    refine sm_goto (pc' := 38) dX5_isKind_34 (by decide) ?_
    exact sm_zret1 rfl dX5_isKind_38
  refine sm_iload_n (i := 0) (j := 0) (pc' := 8) dX5_isKind_7 rfl rfl rfl ?_
  refine sm_sipush (v := (161 : Int32)) (pc' := 11) dX5_isKind_8 rfl (by decide) ?_
  refine sm_icmp_eq (tgt := 33) (pc' := 14) dX5_isKind_11 (by decide) rfl ?_ ?_
  · refine sm_iconst (v := (1 : Int32)) (pc' := 34) dX5_isKind_33 rfl (by decide) ?_
    refine sm_goto (pc' := 38) dX5_isKind_34 (by decide) ?_
    exact sm_zret1 rfl dX5_isKind_38
  refine sm_iload_n (i := 0) (j := 0) (pc' := 15) dX5_isKind_14 rfl rfl rfl ?_
  refine sm_sipush (v := (163 : Int32)) (pc' := 18) dX5_isKind_15 rfl (by decide) ?_
  refine sm_icmp_eq (tgt := 33) (pc' := 21) dX5_isKind_18 (by decide) rfl ?_ ?_
  · refine sm_iconst (v := (1 : Int32)) (pc' := 34) dX5_isKind_33 rfl (by decide) ?_
    refine sm_goto (pc' := 38) dX5_isKind_34 (by decide) ?_
    exact sm_zret1 rfl dX5_isKind_38
  refine sm_iload_n (i := 0) (j := 0) (pc' := 22) dX5_isKind_21 rfl rfl rfl ?_
  refine sm_sipush (v := (165 : Int32)) (pc' := 25) dX5_isKind_22 rfl (by decide) ?_
  refine sm_icmp_ne (tgt := 37) (pc' := 28) dX5_isKind_25 (by decide) rfl ?_ ?_
  · refine sm_iconst (v := (0 : Int32)) (pc' := 38) dX5_isKind_37 rfl (by decide) ?_
    exact sm_zret0 rfl dX5_isKind_38
  refine sm_iload_n (i := 1) (j := 1) (pc' := 29) dX5_isKind_28 rfl rfl rfl ?_
  refine sm_iconst (v := (1 : Int32)) (pc' := 30) dX5_isKind_29 rfl (by decide) ?_
  refine sm_icmp_ne (tgt := 37) (pc' := 33) dX5_isKind_30 (by decide) rfl ?_ ?_
  · refine sm_iconst (v := (0 : Int32)) (pc' := 38) dX5_isKind_37 rfl (by decide) ?_
    exact sm_zret0 rfl dX5_isKind_38
  refine sm_iconst (v := (1 : Int32)) (pc' := 34) dX5_isKind_33 rfl (by decide) ?_
  refine sm_goto (pc' := 38) dX5_isKind_34 (by decide) ?_
  exact sm_zret1 rfl dX5_isKind_38
set_option maxRecDepth 100000 in
theorem mX5_isKind (l : Launch) (D : va_G) (aC : Nat → ClassId) (B : Nat) (a0 : Int32) (a1 : Int32) (h : sm_H) : sm_M l D vwCl gAts aC B gTs gNs gOs yX5_isKind cX5_isKind 2 (some .boolean) 0 0 vlI [vI a0, vI a1] h (fX5_isKind a0 a1 h) := sm_meth [vI a0, vI a1] yY_yX5_isKind gG gN (Nat.le_of_ble_eq_true rfl) rfl (sX5_isKind_0 l D aC B a0 a1 h)
-- M:TreeAgent$Reader.addToName(LTreeAgent$Chain;J)Z
noncomputable def fX5_addToName  (a0 : Option Nat) (a1 : Int64) (h : sm_H) : Option (Int32 × sm_H) :=
  (sm_obj h a0 0).bind fun b15 =>
  sm_cb (fX0_size b15 h) fun x1 h2 =>
  if x1 ≤ 0 then (
    if (lg_cmp a1 (120 : Int64)) < 0 then (
      if (40 : Int64) = 0 then none else
      (sm_obj h2 a0 0).bind fun b8 =>
      sm_cb (fX0_add b8 (a1 / (40 : Int64)) h2) fun x3 h4 =>
      if x3 = 0 then (
        some ((0 : Int32), h4)
      ) else
      if (40 : Int64) = 0 then none else
      (sm_obj h4 a0 0).bind fun b7 =>
      sm_cb (fX0_add b7 (a1 - a1 / (40 : Int64) * (40 : Int64)) h4) fun x5 h6 =>
      if x5 = 0 then (
        some ((0 : Int32), h6)
      ) else
      some ((1 : Int32), h6)
    ) else
    some ((0 : Int32), h2)
  ) else
  (sm_obj h2 a0 0).bind fun b14 =>
  sm_cb (fX0_size b14 h2) fun x9 h10 =>
  if (16 : Int32) ≤ x9 then (
    some ((0 : Int32), h10)
  ) else
  (sm_obj h10 a0 0).bind fun b13 =>
  sm_cb (fX0_add b13 a1 h10) fun x11 h12 =>
  if x11 = 0 then (
    some ((0 : Int32), h12)
  ) else
  some ((1 : Int32), h12)
set_option maxRecDepth 100000 in
set_option maxHeartbeats 4000000 in
theorem sX5_addToName_0 (l : Launch) (D : va_G) (aC : Nat → ClassId) (B : Nat)   (a0 : Option Nat) (a1 : Int64) (h : sm_H) : zS l D aC B cX5_addToName 3 RX5 1 22 (some .boolean) "addToName" vlI (fX5_addToName a0 a1 h) 0 [(0, vR a0), (1, vJ a1)] [] h := by
  unfold fX5_addToName
  refine sm_aload_n (i := 0) (j := 0) (pc' := 1) dX5_addToName_0 rfl rfl rfl ?_
  refine sm_cVI (pc' := 4) (ci := 0) (st := []) (F := fun b => fX0_size b h) [] yY_yX0_size rfl mw206 mw32 mw33 (fun b => mX0_size l D aC B b h) rfl (by decide) (by decide) (by exact Nat.le_of_ble_eq_true rfl) rfl dX5_addToName_1 rfl (fun x1 h2 => ?_)
  refine sm_if_le (tgt := 30) (pc' := 7) dX5_addToName_4 (by decide) rfl ?_ ?_
  · refine sm_lload_n (i := 1) (j := 1) (pc' := 31) dX5_addToName_30 rfl rfl rfl ?_
    refine sm_ldc2 (v := (120 : Int64)) (pc' := 34) dX5_addToName_31 rfl mw233 ?_
    refine sm_lcmp (pc' := 35) dX5_addToName_34 rfl ?_
    refine sm_if_lt (tgt := 40) (pc' := 38) dX5_addToName_35 (by decide) rfl ?_ ?_
    · refine sm_aload_n (i := 0) (j := 0) (pc' := 41) dX5_addToName_40 rfl rfl rfl ?_
      refine sm_lload_n (i := 1) (j := 1) (pc' := 42) dX5_addToName_41 rfl rfl rfl ?_
      refine sm_ldc2 (v := (40 : Int64)) (pc' := 45) dX5_addToName_42 rfl mw234 ?_
      refine sm_ldiv (pc' := 46) dX5_addToName_45 rfl ?_
      refine sm_cVI (pc' := 49) (ci := 0) (st := []) (F := fun b => fX0_add b (a1 / (40 : Int64)) h2) [vJ (a1 / (40 : Int64))] yY_yX0_add rfl mw220 mw13 mw14 (fun b => mX0_add l D aC B b (a1 / (40 : Int64)) h2) rfl (by decide) (by decide) (by exact Nat.le_of_ble_eq_true rfl) rfl dX5_addToName_46 rfl (fun x3 h4 => ?_)
      refine sm_if_eq (tgt := 68) (pc' := 52) dX5_addToName_49 (by decide) rfl ?_ ?_
      · refine sm_iconst (v := (0 : Int32)) (pc' := 69) dX5_addToName_68 rfl (by decide) ?_
        exact sm_zret0 rfl dX5_addToName_69
      refine sm_aload_n (i := 0) (j := 0) (pc' := 53) dX5_addToName_52 rfl rfl rfl ?_
      refine sm_lload_n (i := 1) (j := 1) (pc' := 54) dX5_addToName_53 rfl rfl rfl ?_
      refine sm_ldc2 (v := (40 : Int64)) (pc' := 57) dX5_addToName_54 rfl mw234 ?_
      refine sm_lrem (pc' := 58) dX5_addToName_57 rfl ?_
      refine sm_cVI (pc' := 61) (ci := 0) (st := []) (F := fun b => fX0_add b (a1 - a1 / (40 : Int64) * (40 : Int64)) h4) [vJ (a1 - a1 / (40 : Int64) * (40 : Int64))] yY_yX0_add rfl mw220 mw13 mw14 (fun b => mX0_add l D aC B b (a1 - a1 / (40 : Int64) * (40 : Int64)) h4) rfl (by decide) (by decide) (by exact Nat.le_of_ble_eq_true rfl) rfl dX5_addToName_58 rfl (fun x5 h6 => ?_)
      refine sm_if_eq (tgt := 68) (pc' := 64) dX5_addToName_61 (by decide) rfl ?_ ?_
      · refine sm_iconst (v := (0 : Int32)) (pc' := 69) dX5_addToName_68 rfl (by decide) ?_
        exact sm_zret0 rfl dX5_addToName_69
      refine sm_iconst (v := (1 : Int32)) (pc' := 65) dX5_addToName_64 rfl (by decide) ?_
      refine sm_goto (pc' := 69) dX5_addToName_65 (by decide) ?_
      exact sm_zret1 rfl dX5_addToName_69
    refine sm_iconst (v := (0 : Int32)) (pc' := 39) dX5_addToName_38 rfl (by decide) ?_
    exact sm_zret0 rfl dX5_addToName_39
  refine sm_aload_n (i := 0) (j := 0) (pc' := 8) dX5_addToName_7 rfl rfl rfl ?_
  refine sm_cVI (pc' := 11) (ci := 0) (st := []) (F := fun b => fX0_size b h2) [] yY_yX0_size rfl mw206 mw32 mw33 (fun b => mX0_size l D aC B b h2) rfl (by decide) (by decide) (by exact Nat.le_of_ble_eq_true rfl) rfl dX5_addToName_8 rfl (fun x9 h10 => ?_)
  refine sm_bipush (v := (16 : Int32)) (pc' := 13) dX5_addToName_11 rfl (by decide) ?_
  refine sm_icmp_ge (tgt := 28) (pc' := 16) dX5_addToName_13 (by decide) rfl ?_ ?_
  · refine sm_iconst (v := (0 : Int32)) (pc' := 29) dX5_addToName_28 rfl (by decide) ?_
    exact sm_zret0 rfl dX5_addToName_29
  refine sm_aload_n (i := 0) (j := 0) (pc' := 17) dX5_addToName_16 rfl rfl rfl ?_
  refine sm_lload_n (i := 1) (j := 1) (pc' := 18) dX5_addToName_17 rfl rfl rfl ?_
  refine sm_cVI (pc' := 21) (ci := 0) (st := []) (F := fun b => fX0_add b a1 h10) [vJ a1] yY_yX0_add rfl mw220 mw13 mw14 (fun b => mX0_add l D aC B b a1 h10) rfl (by decide) (by decide) (by exact Nat.le_of_ble_eq_true rfl) rfl dX5_addToName_18 rfl (fun x11 h12 => ?_)
  refine sm_if_eq (tgt := 28) (pc' := 24) dX5_addToName_21 (by decide) rfl ?_ ?_
  · refine sm_iconst (v := (0 : Int32)) (pc' := 29) dX5_addToName_28 rfl (by decide) ?_
    exact sm_zret0 rfl dX5_addToName_29
  refine sm_iconst (v := (1 : Int32)) (pc' := 25) dX5_addToName_24 rfl (by decide) ?_
  refine sm_goto (pc' := 29) dX5_addToName_25 (by decide) ?_
  exact sm_zret1 rfl dX5_addToName_29
set_option maxRecDepth 100000 in
theorem mX5_addToName (l : Launch) (D : va_G) (aC : Nat → ClassId) (B : Nat) (a0 : Option Nat) (a1 : Int64) (h : sm_H) : sm_M l D vwCl gAts aC B gTs gNs gOs yX5_addToName cX5_addToName 3 (some .boolean) 1 22 vlI [vR a0, vJ a1] h (fX5_addToName a0 a1 h) := sm_meth [vR a0, vJ a1] yY_yX5_addToName gG gN (Nat.le_of_ble_eq_true rfl) rfl (sX5_addToName_0 l D aC B a0 a1 h)
-- M:TreeAgent$Reader.takeName(LTreeAgent$Chain;I)Z
noncomputable def fX5_takeName_107 (K9 : Nat → Option Nat → Int32 → Int64 → Int32 → sm_H → Option (Int32 × sm_H)) (a0 : Nat) (a1 : Option Nat) (a2 : Int32) (a3 : Int64) (a5 : Int32) (h : sm_H) : Option (Int32 × sm_H) :=
  if a5 = 0 then (
    K9 a0 a1 a2 (0 : Int64) a5 h
  ) else
  K9 a0 a1 a2 a3 a5 h
set_option maxRecDepth 100000 in
set_option maxHeartbeats 4000000 in
theorem sX5_takeName_107 (l : Launch) (D : va_G) (aC : Nat → ClassId) (B : Nat) (K9 : Nat → Option Nat → Int32 → Int64 → Int32 → sm_H → Option (Int32 × sm_H)) (hK9 : ∀ (a0 : Nat) (a1 : Option Nat) (a2 : Int32) (a3 : Int64) (a5 : Int32) (h : sm_H), zS l D aC B cX5_takeName 8 RX5 2 44 (some .boolean) "takeName" vlI (K9 a0 a1 a2 a3 a5 h) 9 [(0, vR (some a0)), (1, vR a1), (2, vI a2), (3, vJ a3), (5, vI a5)] [] h) (a0 : Nat) (a1 : Option Nat) (a2 : Int32) (a3 : Int64) (a5 : Int32) (h : sm_H) : zS l D aC B cX5_takeName 8 RX5 2 44 (some .boolean) "takeName" vlI (fX5_takeName_107 K9 a0 a1 a2 a3 a5 h) 107 [(0, vR (some a0)), (1, vR a1), (2, vI a2), (3, vJ a3), (5, vI a5)] [] h := by
  unfold fX5_takeName_107
  refine sm_iload (i := 5) (j := 4) (pc' := 109) dX5_takeName_107 rfl rfl ?_
  refine sm_if_eq (tgt := 116) (pc' := 112) dX5_takeName_109 (by decide) rfl ?_ ?_
  · refine sm_lconst (v := (0 : Int64)) (pc' := 117) dX5_takeName_116 rfl (by decide) ?_
    refine sm_lstore_n (i := 3) (lv' := [(3, vJ (0 : Int64)), (0, vR (some a0)), (1, vR a1), (2, vI a2), (5, vI a5)]) (pc' := 118) dX5_takeName_117 rfl rfl (by decide) rfl ?_
    refine sm_goto (pc' := 9) dX5_takeName_118 (by decide) ?_
    refine sm_lo (lv' := [(0, vR (some a0)), (1, vR a1), (2, vI a2), (3, vJ (0 : Int64)), (5, vI a5)]) [1, 2, 3, 0, 4] rfl ?_
    exact hK9 a0 a1 a2 (0 : Int64) a5 h
  refine sm_lload_n (i := 3) (j := 3) (pc' := 113) dX5_takeName_112 rfl rfl rfl ?_
  refine sm_goto (pc' := 117) dX5_takeName_113 (by decide) ?_
  refine sm_lstore_n (i := 3) (lv' := [(3, vJ a3), (0, vR (some a0)), (1, vR a1), (2, vI a2), (5, vI a5)]) (pc' := 118) dX5_takeName_117 rfl rfl (by decide) rfl ?_
  refine sm_goto (pc' := 9) dX5_takeName_118 (by decide) ?_
  refine sm_lo (lv' := [(0, vR (some a0)), (1, vR a1), (2, vI a2), (3, vJ a3), (5, vI a5)]) [1, 2, 3, 0, 4] rfl ?_
  exact hK9 a0 a1 a2 a3 a5 h
noncomputable def fX5_takeName_90 (K9 : Nat → Option Nat → Int32 → Int64 → Int32 → sm_H → Option (Int32 × sm_H)) (a0 : Nat) (a1 : Option Nat) (a2 : Int32) (a3 : Int64) (s0 : Int32) (h : sm_H) : Option (Int32 × sm_H) :=
  if s0 = 0 then (
    sm_cb (fX5_addToName a1 a3 h) fun x1 h2 =>
    if x1 = 0 then (
      some ((0 : Int32), h2)
    ) else
    fX5_takeName_107 K9 a0 a1 a2 a3 s0 h2
  ) else
  fX5_takeName_107 K9 a0 a1 a2 a3 s0 h
set_option maxRecDepth 100000 in
set_option maxHeartbeats 4000000 in
theorem sX5_takeName_90 (l : Launch) (D : va_G) (aC : Nat → ClassId) (B : Nat) (K9 : Nat → Option Nat → Int32 → Int64 → Int32 → sm_H → Option (Int32 × sm_H)) (hK9 : ∀ (a0 : Nat) (a1 : Option Nat) (a2 : Int32) (a3 : Int64) (a5 : Int32) (h : sm_H), zS l D aC B cX5_takeName 8 RX5 2 44 (some .boolean) "takeName" vlI (K9 a0 a1 a2 a3 a5 h) 9 [(0, vR (some a0)), (1, vR a1), (2, vI a2), (3, vJ a3), (5, vI a5)] [] h) (a0 : Nat) (a1 : Option Nat) (a2 : Int32) (a3 : Int64) (s0 : Int32) (h : sm_H) : zS l D aC B cX5_takeName 8 RX5 2 44 (some .boolean) "takeName" vlI (fX5_takeName_90 K9 a0 a1 a2 a3 s0 h) 90 [(0, vR (some a0)), (1, vR a1), (2, vI a2), (3, vJ a3)] [vI s0] h := by
  unfold fX5_takeName_90
  refine sm_istore (i := 5) (lv' := [(5, vI s0), (0, vR (some a0)), (1, vR a1), (2, vI a2), (3, vJ a3)]) (pc' := 92) dX5_takeName_90 rfl (by decide) rfl ?_
  refine sm_iload (i := 5) (j := 0) (pc' := 94) dX5_takeName_92 rfl rfl ?_
  refine sm_if_ne (tgt := 107) (pc' := 97) dX5_takeName_94 (by decide) rfl ?_ ?_
  · refine sm_lo (lv' := [(0, vR (some a0)), (1, vR a1), (2, vI a2), (3, vJ a3), (5, vI s0)]) [1, 2, 3, 4, 0] rfl ?_
    exact sX5_takeName_107 l D aC B  K9 hK9 a0 a1 a2 a3 s0 h
  refine sm_aload_n (i := 1) (j := 2) (pc' := 98) dX5_takeName_97 rfl rfl rfl ?_
  refine sm_lload_n (i := 3) (j := 4) (pc' := 99) dX5_takeName_98 rfl rfl rfl ?_
  refine sm_cSI (pc' := 102) (st := []) [vR a1, vJ a3] yY_yX5_addToName mw235 mw236 (mX5_addToName l D aC B a1 a3 h) rfl (by decide) (by decide) (by exact Nat.le_of_ble_eq_true rfl) rfl dX5_takeName_99 rfl (fun x1 h2 => ?_)
  refine sm_if_ne (tgt := 107) (pc' := 105) dX5_takeName_102 (by decide) rfl ?_ ?_
  · refine sm_lo (lv' := [(0, vR (some a0)), (1, vR a1), (2, vI a2), (3, vJ a3), (5, vI s0)]) [1, 2, 3, 4, 0] rfl ?_
    exact sX5_takeName_107 l D aC B  K9 hK9 a0 a1 a2 a3 s0 h2
  refine sm_iconst (v := (0 : Int32)) (pc' := 106) dX5_takeName_105 rfl (by decide) ?_
  exact sm_zret0 rfl dX5_takeName_106
noncomputable def fX5_takeName_66 (K9 : Nat → Option Nat → Int32 → Int64 → Int32 → sm_H → Option (Int32 × sm_H)) (a0 : Nat) (a1 : Option Nat) (a2 : Int32) (a3 : Int64) (a6 : Int64) (h : sm_H) : Option (Int32 × sm_H) :=
  if (lg_cmp a3 (4294967295 : Int64)) ≤ 0 then (
    if (lg_cmp a6 (128 : Int64)) < 0 then (
      fX5_takeName_90 K9 a0 a1 a2 a3 (0 : Int32) h
    ) else
    fX5_takeName_90 K9 a0 a1 a2 a3 (1 : Int32) h
  ) else
  some ((0 : Int32), h)
set_option maxRecDepth 100000 in
set_option maxHeartbeats 4000000 in
theorem sX5_takeName_66 (l : Launch) (D : va_G) (aC : Nat → ClassId) (B : Nat) (K9 : Nat → Option Nat → Int32 → Int64 → Int32 → sm_H → Option (Int32 × sm_H)) (hK9 : ∀ (a0 : Nat) (a1 : Option Nat) (a2 : Int32) (a3 : Int64) (a5 : Int32) (h : sm_H), zS l D aC B cX5_takeName 8 RX5 2 44 (some .boolean) "takeName" vlI (K9 a0 a1 a2 a3 a5 h) 9 [(0, vR (some a0)), (1, vR a1), (2, vI a2), (3, vJ a3), (5, vI a5)] [] h) (a0 : Nat) (a1 : Option Nat) (a2 : Int32) (a3 : Int64) (a6 : Int64) (h : sm_H) : zS l D aC B cX5_takeName 8 RX5 2 44 (some .boolean) "takeName" vlI (fX5_takeName_66 K9 a0 a1 a2 a3 a6 h) 66 [(0, vR (some a0)), (1, vR a1), (2, vI a2), (3, vJ a3), (6, vJ a6)] [] h := by
  unfold fX5_takeName_66
  refine sm_lload_n (i := 3) (j := 3) (pc' := 67) dX5_takeName_66 rfl rfl rfl ?_
  refine sm_ldc2 (v := (4294967295 : Int64)) (pc' := 70) dX5_takeName_67 rfl mw237 ?_
  refine sm_lcmp (pc' := 71) dX5_takeName_70 rfl ?_
  refine sm_if_le (tgt := 76) (pc' := 74) dX5_takeName_71 (by decide) rfl ?_ ?_
  · refine sm_lload (i := 6) (j := 4) (pc' := 78) dX5_takeName_76 rfl rfl ?_
    refine sm_ldc2 (v := (128 : Int64)) (pc' := 81) dX5_takeName_78 rfl mw199 ?_
    refine sm_lcmp (pc' := 82) dX5_takeName_81 rfl ?_
    refine sm_if_lt (tgt := 89) (pc' := 85) dX5_takeName_82 (by decide) rfl ?_ ?_
    · refine sm_iconst (v := (0 : Int32)) (pc' := 90) dX5_takeName_89 rfl (by decide) ?_
      refine sm_lo (lv' := [(0, vR (some a0)), (1, vR a1), (2, vI a2), (3, vJ a3)]) [0, 1, 2, 3] rfl ?_
      exact sX5_takeName_90 l D aC B  K9 hK9 a0 a1 a2 a3 (0 : Int32) h
    refine sm_iconst (v := (1 : Int32)) (pc' := 86) dX5_takeName_85 rfl (by decide) ?_
    refine sm_goto (pc' := 90) dX5_takeName_86 (by decide) ?_
    refine sm_lo (lv' := [(0, vR (some a0)), (1, vR a1), (2, vI a2), (3, vJ a3)]) [0, 1, 2, 3] rfl ?_
    exact sX5_takeName_90 l D aC B  K9 hK9 a0 a1 a2 a3 (1 : Int32) h
  refine sm_iconst (v := (0 : Int32)) (pc' := 75) dX5_takeName_74 rfl (by decide) ?_
  exact sm_zret0 rfl dX5_takeName_75
noncomputable def fX5_takeName_9  : Nat → Nat → Option Nat → Int32 → Int64 → Int32 → sm_H → Option (Int32 × sm_H)
  | 0 => fun _ _ _ _ _ _ => none
  | n + 1 => fun a0 a1 a2 a3 a5 h =>
    (sm_I (sm_get h (some a0) 5 2)).bind fun x1 =>
    if a2 ≤ x1 then (
      if a5 = 0 then (
        (sm_obj h a1 0).bind fun b4 =>
        sm_cb (fX0_size b4 h) fun x2 h3 =>
        if x2 < (2 : Int32) then (
          some ((0 : Int32), h3)
        ) else
        some ((1 : Int32), h3)
      ) else
      some ((0 : Int32), h)
    ) else
    (sm_R (sm_get h (some a0) 5 0)).bind fun x5 =>
    (sm_I (sm_get h (some a0) 5 2)).bind fun x6 =>
    (sm_obj h x5 0).bind fun b12 =>
    sm_cb (fX0_at b12 x6 h) fun x7 h8 =>
    (sm_I (sm_get h8 (some a0) 5 2)).bind fun x9 =>
    (sm_put h8 (some a0) 5 2 (sm_v (vI (x9 + (1 : Int32))))).bind fun h10 =>
    sm_let ((a3 <<< ((7 : Int32).toInt64 &&& 63)) ||| (x7 &&& (127 : Int64))) fun x11 =>
    if a5 = 0 then (
      if (lg_cmp x7 (128 : Int64)) = 0 then (
        some ((0 : Int32), h10)
      ) else
      fX5_takeName_66 (fX5_takeName_9 n) a0 a1 a2 x11 x7 h10
    ) else
    fX5_takeName_66 (fX5_takeName_9 n) a0 a1 a2 x11 x7 h10
set_option maxRecDepth 100000 in
set_option maxHeartbeats 4000000 in
theorem sX5_takeName_9 (l : Launch) (D : va_G) (aC : Nat → ClassId) (B : Nat)   (n : Nat) : ∀ (a0 : Nat) (a1 : Option Nat) (a2 : Int32) (a3 : Int64) (a5 : Int32) (h : sm_H), zS l D aC B cX5_takeName 8 RX5 2 44 (some .boolean) "takeName" vlI (fX5_takeName_9 n a0 a1 a2 a3 a5 h) 9 [(0, vR (some a0)), (1, vR a1), (2, vI a2), (3, vJ a3), (5, vI a5)] [] h := by
  induction n with
  | zero => intro a0 a1 a2 a3 a5 h; exact sm_none
  | succ n ih =>
    intro a0 a1 a2 a3 a5 h
    show zS l D aC B cX5_takeName 8 RX5 2 44 (some .boolean) "takeName" vlI (fX5_takeName_9 (n + 1) a0 a1 a2 a3 a5 h) 9 [(0, vR (some a0)), (1, vR a1), (2, vI a2), (3, vJ a3), (5, vI a5)] [] h
    unfold fX5_takeName_9
    refine sm_aload_n (i := 0) (j := 0) (pc' := 10) dX5_takeName_9 rfl rfl rfl ?_
    refine sm_getI (k := 2) (pc' := 13) kX5 (by decide) mw197 dX5_takeName_10 rfl (fun x1 => ?_)
    refine sm_iload_n (i := 2) (j := 2) (pc' := 14) dX5_takeName_13 rfl rfl rfl ?_
    refine sm_icmp_ge (tgt := 121) (pc' := 17) dX5_takeName_14 (by decide) rfl ?_ ?_
    · refine sm_iload (i := 5) (j := 4) (pc' := 123) dX5_takeName_121 rfl rfl ?_
      refine sm_if_ne (tgt := 138) (pc' := 126) dX5_takeName_123 (by decide) rfl ?_ ?_
      · refine sm_iconst (v := (0 : Int32)) (pc' := 139) dX5_takeName_138 rfl (by decide) ?_
        exact sm_zret0 rfl dX5_takeName_139
      refine sm_aload_n (i := 1) (j := 1) (pc' := 127) dX5_takeName_126 rfl rfl rfl ?_
      refine sm_cVI (pc' := 130) (ci := 0) (st := []) (F := fun b => fX0_size b h) [] yY_yX0_size rfl mw206 mw32 mw33 (fun b => mX0_size l D aC B b h) rfl (by decide) (by decide) (by exact Nat.le_of_ble_eq_true rfl) rfl dX5_takeName_127 rfl (fun x2 h3 => ?_)
      refine sm_iconst (v := (2 : Int32)) (pc' := 131) dX5_takeName_130 rfl (by decide) ?_
      refine sm_icmp_lt (tgt := 138) (pc' := 134) dX5_takeName_131 (by decide) rfl ?_ ?_
      · refine sm_iconst (v := (0 : Int32)) (pc' := 139) dX5_takeName_138 rfl (by decide) ?_
        exact sm_zret0 rfl dX5_takeName_139
      refine sm_iconst (v := (1 : Int32)) (pc' := 135) dX5_takeName_134 rfl (by decide) ?_
      refine sm_goto (pc' := 139) dX5_takeName_135 (by decide) ?_
      exact sm_zret1 rfl dX5_takeName_139
    refine sm_aload_n (i := 0) (j := 0) (pc' := 18) dX5_takeName_17 rfl rfl rfl ?_
    refine sm_getR (k := 0) (pc' := 21) kX5 (by decide) mw195 dX5_takeName_18 rfl (fun x5 => ?_)
    refine sm_aload_n (i := 0) (j := 0) (pc' := 22) dX5_takeName_21 rfl rfl rfl ?_
    refine sm_getI (k := 2) (pc' := 25) kX5 (by decide) mw197 dX5_takeName_22 rfl (fun x6 => ?_)
    refine sm_cVJ (pc' := 28) (ci := 0) (st := []) (F := fun b => fX0_at b x6 h) [vI x6] yY_yX0_at rfl mw198 mw15 mw16 (fun b => mX0_at l D aC B b x6 h) rfl (by decide) (by decide) (by exact Nat.le_of_ble_eq_true rfl) rfl dX5_takeName_25 rfl (fun x7 h8 => ?_)
    refine sm_lstore (i := 6) (lv' := [(6, vJ x7), (0, vR (some a0)), (1, vR a1), (2, vI a2), (3, vJ a3), (5, vI a5)]) (pc' := 30) dX5_takeName_28 rfl (by decide) rfl ?_
    refine sm_aload_n (i := 0) (j := 1) (pc' := 31) dX5_takeName_30 rfl rfl rfl ?_
    refine sm_dup (pc' := 32) rfl dX5_takeName_31 rfl ?_
    refine sm_getI (k := 2) (pc' := 35) kX5 (by decide) mw197 dX5_takeName_32 rfl (fun x9 => ?_)
    refine sm_iconst (v := (1 : Int32)) (pc' := 36) dX5_takeName_35 rfl (by decide) ?_
    refine sm_iadd (pc' := 37) dX5_takeName_36 rfl ?_
    refine sm_putI (k := 2) (pc' := 40) kX5 (by decide) mw197 rfl rfl dX5_takeName_37 rfl (fun h10 => ?_)
    refine sm_lload_n (i := 3) (j := 4) (pc' := 41) dX5_takeName_40 rfl rfl rfl ?_
    refine sm_bipush (v := (7 : Int32)) (pc' := 43) dX5_takeName_41 rfl (by decide) ?_
    refine sm_lshl (pc' := 44) dX5_takeName_43 rfl ?_
    refine sm_lload (i := 6) (j := 0) (pc' := 46) dX5_takeName_44 rfl rfl ?_
    refine sm_ldc2 (v := (127 : Int64)) (pc' := 49) dX5_takeName_46 rfl mw238 ?_
    refine sm_land (pc' := 50) dX5_takeName_49 rfl ?_
    refine sm_lor (pc' := 51) dX5_takeName_50 rfl ?_
    refine sm_letJv (fun x11 => ?_)
    refine sm_lstore_n (i := 3) (lv' := [(3, vJ x11), (6, vJ x7), (0, vR (some a0)), (1, vR a1), (2, vI a2), (5, vI a5)]) (pc' := 52) dX5_takeName_51 rfl rfl (by decide) rfl ?_
    refine sm_iload (i := 5) (j := 5) (pc' := 54) dX5_takeName_52 rfl rfl ?_
    refine sm_if_ne (tgt := 66) (pc' := 57) dX5_takeName_54 (by decide) rfl ?_ ?_
    · refine sm_lo (lv' := [(0, vR (some a0)), (1, vR a1), (2, vI a2), (3, vJ x11), (6, vJ x7)]) [2, 3, 4, 0, 1] rfl ?_
      exact sX5_takeName_66 l D aC B  (fX5_takeName_9 n) ih a0 a1 a2 x11 x7 h10
    refine sm_lload (i := 6) (j := 1) (pc' := 59) dX5_takeName_57 rfl rfl ?_
    refine sm_ldc2 (v := (128 : Int64)) (pc' := 62) dX5_takeName_59 rfl mw199 ?_
    refine sm_lcmp (pc' := 63) dX5_takeName_62 rfl ?_
    refine sm_if_eq (tgt := 74) (pc' := 66) dX5_takeName_63 (by decide) rfl ?_ ?_
    · refine sm_iconst (v := (0 : Int32)) (pc' := 75) dX5_takeName_74 rfl (by decide) ?_
      exact sm_zret0 rfl dX5_takeName_75
    refine sm_lo (lv' := [(0, vR (some a0)), (1, vR a1), (2, vI a2), (3, vJ x11), (6, vJ x7)]) [2, 3, 4, 0, 1] rfl ?_
    exact sX5_takeName_66 l D aC B  (fX5_takeName_9 n) ih a0 a1 a2 x11 x7 h10
noncomputable def fX5_takeName  (a0 : Nat) (a1 : Option Nat) (a2 : Int32) (h : sm_H) : Option (Int32 × sm_H) :=
  (sm_obj h a1 0).bind fun b2 =>
  sm_cb (fX0_clear b2 h) fun _ h1 =>
  fX5_takeName_9 sm_fuel a0 a1 a2 (0 : Int64) (0 : Int32) h1
set_option maxRecDepth 100000 in
set_option maxHeartbeats 4000000 in
theorem sX5_takeName_0 (l : Launch) (D : va_G) (aC : Nat → ClassId) (B : Nat)   (a0 : Nat) (a1 : Option Nat) (a2 : Int32) (h : sm_H) : zS l D aC B cX5_takeName 8 RX5 2 44 (some .boolean) "takeName" vlI (fX5_takeName a0 a1 a2 h) 0 [(0, vR (some a0)), (1, vR a1), (2, vI a2)] [] h := by
  unfold fX5_takeName
  refine sm_aload_n (i := 1) (j := 1) (pc' := 1) dX5_takeName_0 rfl rfl rfl ?_
  refine sm_cVU (pc' := 4) (ci := 0) (st := []) (F := fun b => fX0_clear b h) [] yY_yX0_clear rfl mw221 mw121 mw122 (fun b => mX0_clear l D aC B b h) rfl (by decide) (by decide) (by exact Nat.le_of_ble_eq_true rfl) rfl dX5_takeName_1 rfl (fun _ h1 => ?_)
  refine sm_lconst (v := (0 : Int64)) (pc' := 5) dX5_takeName_4 rfl (by decide) ?_
  refine sm_lstore_n (i := 3) (lv' := [(3, vJ (0 : Int64)), (0, vR (some a0)), (1, vR a1), (2, vI a2)]) (pc' := 6) dX5_takeName_5 rfl rfl (by decide) rfl ?_
  refine sm_iconst (v := (0 : Int32)) (pc' := 7) dX5_takeName_6 rfl (by decide) ?_
  refine sm_istore (i := 5) (lv' := [(5, vI (0 : Int32)), (3, vJ (0 : Int64)), (0, vR (some a0)), (1, vR a1), (2, vI a2)]) (pc' := 9) dX5_takeName_7 rfl (by decide) rfl ?_
  refine sm_lo (lv' := [(0, vR (some a0)), (1, vR a1), (2, vI a2), (3, vJ (0 : Int64)), (5, vI (0 : Int32))]) [2, 3, 4, 1, 0] rfl ?_
  exact sX5_takeName_9 l D aC B   sm_fuel a0 a1 a2 (0 : Int64) (0 : Int32) h1
set_option maxRecDepth 100000 in
theorem mX5_takeName (l : Launch) (D : va_G) (aC : Nat → ClassId) (B : Nat) (a0 : Nat) (a1 : Option Nat) (a2 : Int32) (h : sm_H) : sm_M l D vwCl gAts aC B gTs gNs gOs yX5_takeName cX5_takeName 8 (some .boolean) 2 44 vlI [vR (some a0), vR a1, vI a2] h (fX5_takeName a0 a1 a2 h) := sm_meth [vR (some a0), vR a1, vI a2] yY_yX5_takeName gG gN (Nat.le_of_ble_eq_true rfl) rfl (sX5_takeName_0 l D aC B a0 a1 a2 h)
-- M:TreeAgent$Reader.takeAddress(LTreeAgent$Value;I)Z
noncomputable def fX5_takeAddress_12  : Nat → Nat → Option Nat → Int32 → sm_H → Option (Int32 × sm_H)
  | 0 => fun _ _ _ _ => none
  | n + 1 => fun a0 a1 a2 h =>
    (sm_I (sm_get h (some a0) 5 2)).bind fun x1 =>
    if a2 ≤ x1 then (
      some ((1 : Int32), h)
    ) else
    (sm_J (sm_get h a1 10 2)).bind fun x2 =>
    (sm_R (sm_get h (some a0) 5 0)).bind fun x3 =>
    (sm_I (sm_get h (some a0) 5 2)).bind fun x4 =>
    (sm_obj h x3 0).bind fun b10 =>
    sm_cb (fX0_at b10 x4 h) fun x5 h6 =>
    (sm_put h6 a1 10 2 (sm_v (vJ ((x2 <<< ((8 : Int32).toInt64 &&& 63)) ||| x5)))).bind fun h7 =>
    (sm_I (sm_get h7 (some a0) 5 2)).bind fun x8 =>
    (sm_put h7 (some a0) 5 2 (sm_v (vI (x8 + (1 : Int32))))).bind fun h9 =>
    (fX5_takeAddress_12 n) a0 a1 a2 h9
set_option maxRecDepth 100000 in
set_option maxHeartbeats 4000000 in
theorem sX5_takeAddress_12 (l : Launch) (D : va_G) (aC : Nat → ClassId) (B : Nat)   (n : Nat) : ∀ (a0 : Nat) (a1 : Option Nat) (a2 : Int32) (h : sm_H), zS l D aC B cX5_takeAddress 3 RX5 1 21 (some .boolean) "takeAddress" vlI (fX5_takeAddress_12 n a0 a1 a2 h) 12 [(0, vR (some a0)), (1, vR a1), (2, vI a2)] [] h := by
  induction n with
  | zero => intro a0 a1 a2 h; exact sm_none
  | succ n ih =>
    intro a0 a1 a2 h
    show zS l D aC B cX5_takeAddress 3 RX5 1 21 (some .boolean) "takeAddress" vlI (fX5_takeAddress_12 (n + 1) a0 a1 a2 h) 12 [(0, vR (some a0)), (1, vR a1), (2, vI a2)] [] h
    unfold fX5_takeAddress_12
    refine sm_aload_n (i := 0) (j := 0) (pc' := 13) dX5_takeAddress_12 rfl rfl rfl ?_
    refine sm_getI (k := 2) (pc' := 16) kX5 (by decide) mw197 dX5_takeAddress_13 rfl (fun x1 => ?_)
    refine sm_iload_n (i := 2) (j := 2) (pc' := 17) dX5_takeAddress_16 rfl rfl rfl ?_
    refine sm_icmp_ge (tgt := 56) (pc' := 20) dX5_takeAddress_17 (by decide) rfl ?_ ?_
    · refine sm_iconst (v := (1 : Int32)) (pc' := 57) dX5_takeAddress_56 rfl (by decide) ?_
      exact sm_zret1 rfl dX5_takeAddress_57
    refine sm_aload_n (i := 1) (j := 1) (pc' := 21) dX5_takeAddress_20 rfl rfl rfl ?_
    refine sm_aload_n (i := 1) (j := 1) (pc' := 22) dX5_takeAddress_21 rfl rfl rfl ?_
    refine sm_getJN (k := 2) (pc' := 25) kX10 (by decide) mw215 dX5_takeAddress_22 rfl (fun x2 => ?_)
    refine sm_bipush (v := (8 : Int32)) (pc' := 27) dX5_takeAddress_25 rfl (by decide) ?_
    refine sm_lshl (pc' := 28) dX5_takeAddress_27 rfl ?_
    refine sm_aload_n (i := 0) (j := 0) (pc' := 29) dX5_takeAddress_28 rfl rfl rfl ?_
    refine sm_getR (k := 0) (pc' := 32) kX5 (by decide) mw195 dX5_takeAddress_29 rfl (fun x3 => ?_)
    refine sm_aload_n (i := 0) (j := 0) (pc' := 33) dX5_takeAddress_32 rfl rfl rfl ?_
    refine sm_getI (k := 2) (pc' := 36) kX5 (by decide) mw197 dX5_takeAddress_33 rfl (fun x4 => ?_)
    refine sm_cVJ (pc' := 39) (ci := 0) (st := [vJ (x2 <<< ((8 : Int32).toInt64 &&& 63)), vR a1]) (F := fun b => fX0_at b x4 h) [vI x4] yY_yX0_at rfl mw198 mw15 mw16 (fun b => mX0_at l D aC B b x4 h) rfl (by decide) (by decide) (by exact Nat.le_of_ble_eq_true rfl) rfl dX5_takeAddress_36 rfl (fun x5 h6 => ?_)
    refine sm_lor (pc' := 40) dX5_takeAddress_39 rfl ?_
    refine sm_putNJ (k := 2) (pc' := 43) kX10 (by decide) mw215 rfl rfl dX5_takeAddress_40 rfl (fun h7 => ?_)
    refine sm_aload_n (i := 0) (j := 0) (pc' := 44) dX5_takeAddress_43 rfl rfl rfl ?_
    refine sm_dup (pc' := 45) rfl dX5_takeAddress_44 rfl ?_
    refine sm_getI (k := 2) (pc' := 48) kX5 (by decide) mw197 dX5_takeAddress_45 rfl (fun x8 => ?_)
    refine sm_iconst (v := (1 : Int32)) (pc' := 49) dX5_takeAddress_48 rfl (by decide) ?_
    refine sm_iadd (pc' := 50) dX5_takeAddress_49 rfl ?_
    refine sm_putI (k := 2) (pc' := 53) kX5 (by decide) mw197 rfl rfl dX5_takeAddress_50 rfl (fun h9 => ?_)
    refine sm_goto (pc' := 12) dX5_takeAddress_53 (by decide) ?_
    exact ih a0 a1 a2 h9
noncomputable def fX5_takeAddress  (a0 : Nat) (a1 : Option Nat) (a2 : Int32) (h : sm_H) : Option (Int32 × sm_H) :=
  (sm_I (sm_get h (some a0) 5 2)).bind fun x1 =>
  if (a2 - x1) = (4 : Int32) then (
    fX5_takeAddress_12 sm_fuel a0 a1 a2 h
  ) else
  some ((0 : Int32), h)
set_option maxRecDepth 100000 in
set_option maxHeartbeats 4000000 in
theorem sX5_takeAddress_0 (l : Launch) (D : va_G) (aC : Nat → ClassId) (B : Nat)   (a0 : Nat) (a1 : Option Nat) (a2 : Int32) (h : sm_H) : zS l D aC B cX5_takeAddress 3 RX5 1 21 (some .boolean) "takeAddress" vlI (fX5_takeAddress a0 a1 a2 h) 0 [(0, vR (some a0)), (1, vR a1), (2, vI a2)] [] h := by
  unfold fX5_takeAddress
  refine sm_iload_n (i := 2) (j := 2) (pc' := 1) dX5_takeAddress_0 rfl rfl rfl ?_
  refine sm_aload_n (i := 0) (j := 0) (pc' := 2) dX5_takeAddress_1 rfl rfl rfl ?_
  refine sm_getI (k := 2) (pc' := 5) kX5 (by decide) mw197 dX5_takeAddress_2 rfl (fun x1 => ?_)
  refine sm_isub (pc' := 6) dX5_takeAddress_5 rfl ?_
  refine sm_iconst (v := (4 : Int32)) (pc' := 7) dX5_takeAddress_6 rfl (by decide) ?_
  refine sm_icmp_eq (tgt := 12) (pc' := 10) dX5_takeAddress_7 (by decide) rfl ?_ ?_
  · exact sX5_takeAddress_12 l D aC B   sm_fuel a0 a1 a2 h
  refine sm_iconst (v := (0 : Int32)) (pc' := 11) dX5_takeAddress_10 rfl (by decide) ?_
  exact sm_zret0 rfl dX5_takeAddress_11
set_option maxRecDepth 100000 in
theorem mX5_takeAddress (l : Launch) (D : va_G) (aC : Nat → ClassId) (B : Nat) (a0 : Nat) (a1 : Option Nat) (a2 : Int32) (h : sm_H) : sm_M l D vwCl gAts aC B gTs gNs gOs yX5_takeAddress cX5_takeAddress 3 (some .boolean) 1 21 vlI [vR (some a0), vR a1, vI a2] h (fX5_takeAddress a0 a1 a2 h) := sm_meth [vR (some a0), vR a1, vI a2] yY_yX5_takeAddress gG gN (Nat.le_of_ble_eq_true rfl) rfl (sX5_takeAddress_0 l D aC B a0 a1 a2 h)
