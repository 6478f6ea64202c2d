-- M:TreeAgentModel.check(I)V
noncomputable def fX12_check_195  (a0 : Nat) (a1 : Int32) (a2 : Int32) (a4 : Int64) (h : sm_H) : Option (Unit × sm_H) :=
  (sm_R (sm_get h (some a0) 12 13)).bind fun x1 =>
  (sm_aJ h x1 1 a2).bind fun x2 =>
  (sm_R (sm_get h (some a0) 12 14)).bind fun x3 =>
  (sm_aJ h x3 1 a2).bind fun x4 =>
  sm_cb (fX12_in a4 x2 x4 h) fun x5 h6 =>
  if x5 = 0 then (
    (sm_obj h6 (some a0) 12).bind fun b10 =>
    sm_cb (fX12_fail b10 (10 : Int32) a1 h6) fun _ h9 =>
    some ((), h9)
  ) else
  (sm_obj h6 (some a0) 12).bind fun b8 =>
  sm_cb (fX12_checkPlace b8 a1 a2 h6) fun _ h7 =>
  some ((), h7)
set_option maxRecDepth 100000 in
set_option maxHeartbeats 4000000 in
theorem sX12_check_195 (l : Launch) (D : va_G) (aC : Nat → ClassId) (B : Nat)   (a0 : Nat) (a1 : Int32) (a2 : Int32) (a4 : Int64) (h : sm_H) : zS l D aC B cX12_check 6 RX12 4 108 none "check" vlU (fX12_check_195 a0 a1 a2 a4 h) 195 [(0, vR (some a0)), (1, vI a1), (2, vI a2), (4, vJ a4)] [] h := by
  unfold fX12_check_195
  refine sm_lload (i := 4) (j := 3) (pc' := 197) dX12_check_195 rfl rfl ?_
  refine sm_aload_n (i := 0) (j := 0) (pc' := 198) dX12_check_197 rfl rfl rfl ?_
  refine sm_getR (k := 13) (pc' := 201) kX12 (by decide) mw665 dX12_check_198 rfl (fun x1 => ?_)
  refine sm_iload_n (i := 2) (j := 2) (pc' := 202) dX12_check_201 rfl rfl rfl ?_
  refine sm_lald (t := 1) (pc' := 203) rfl dX12_check_202 rfl (fun x2 => ?_)
  refine sm_aload_n (i := 0) (j := 0) (pc' := 204) dX12_check_203 rfl rfl rfl ?_
  refine sm_getR (k := 14) (pc' := 207) kX12 (by decide) mw666 dX12_check_204 rfl (fun x3 => ?_)
  refine sm_iload_n (i := 2) (j := 2) (pc' := 208) dX12_check_207 rfl rfl rfl ?_
  refine sm_lald (t := 1) (pc' := 209) rfl dX12_check_208 rfl (fun x4 => ?_)
  refine sm_cSI (pc' := 212) (st := []) [vJ a4, vJ x2, vJ x4] yY_yX12_in mw701 mw702 (mX12_in l D aC B a4 x2 x4 h) rfl (by decide) (by decide) (by exact Nat.le_of_ble_eq_true rfl) rfl dX12_check_209 rfl (fun x5 h6 => ?_)
  refine sm_if_ne (tgt := 225) (pc' := 215) dX12_check_212 (by decide) rfl ?_ ?_
  · refine sm_aload_n (i := 0) (j := 0) (pc' := 226) dX12_check_225 rfl rfl rfl ?_
    refine sm_iload_n (i := 1) (j := 1) (pc' := 227) dX12_check_226 rfl rfl rfl ?_
    refine sm_iload_n (i := 2) (j := 2) (pc' := 228) dX12_check_227 rfl rfl rfl ?_
    refine sm_cVU (pc' := 231) (ci := 12) (st := []) (F := fun b => fX12_checkPlace b a1 a2 h6) [vI a1, vI a2] yY_yX12_checkPlace rfl mw878 mw879 mw880 (fun b => mX12_checkPlace l D aC B b a1 a2 h6) rfl (by decide) (by decide) (by exact Nat.le_of_ble_eq_true rfl) rfl dX12_check_228 rfl (fun _ h7 => ?_)
    exact sm_vret rfl dX12_check_231
  refine sm_aload_n (i := 0) (j := 0) (pc' := 216) dX12_check_215 rfl rfl rfl ?_
  refine sm_bipush (v := (10 : Int32)) (pc' := 218) dX12_check_216 rfl (by decide) ?_
  refine sm_iload_n (i := 1) (j := 1) (pc' := 219) dX12_check_218 rfl rfl rfl ?_
  refine sm_cVU (pc' := 222) (ci := 12) (st := []) (F := fun b => fX12_fail b (10 : Int32) a1 h6) [vI (10 : Int32), vI a1] yY_yX12_fail rfl mw871 mw872 mw873 (fun b => mX12_fail l D aC B b (10 : Int32) a1 h6) rfl (by decide) (by decide) (by exact Nat.le_of_ble_eq_true rfl) rfl dX12_check_219 rfl (fun _ h9 => ?_)
  refine sm_goto (pc' := 231) dX12_check_222 (by decide) ?_
  exact sm_vret rfl dX12_check_231
noncomputable def fX12_check_136  (a0 : Nat) (a1 : Int32) (a2 : Int32) (a3 : Int32) (a4 : Int64) (h : sm_H) : Option (Unit × sm_H) :=
  (sm_R (sm_get h (some a0) 12 16)).bind fun x1 =>
  (sm_aI h x1 2 a2).bind fun x2 =>
  if x2 = 0 then (
    if a3 = (2 : Int32) then (
      fX12_check_195 a0 a1 a2 a4 h
    ) else
    if a3 = (66 : Int32) then (
      fX12_check_195 a0 a1 a2 a4 h
    ) else
    if a3 = (67 : Int32) then (
      fX12_check_195 a0 a1 a2 a4 h
    ) else
    (sm_obj h (some a0) 12).bind fun b4 =>
    sm_cb (fX12_checkPlace b4 a1 a2 h) fun _ h3 =>
    some ((), h3)
  ) else
  if (lg_cmp a4 (1 : Int64)) = 0 then (
    (sm_obj h (some a0) 12).bind fun b6 =>
    sm_cb (fX12_checkPlace b6 a1 a2 h) fun _ h5 =>
    some ((), h5)
  ) else
  if (lg_cmp a4 (2 : Int64)) = 0 then (
    (sm_obj h (some a0) 12).bind fun b8 =>
    sm_cb (fX12_checkPlace b8 a1 a2 h) fun _ h7 =>
    some ((), h7)
  ) else
  sm_cb (fX12_in a4 (4 : Int64) (6 : Int64) h) fun x9 h10 =>
  if x9 = 0 then (
    (sm_obj h10 (some a0) 12).bind fun b14 =>
    sm_cb (fX12_fail b14 (10 : Int32) a1 h10) fun _ h13 =>
    some ((), h13)
  ) else
  (sm_obj h10 (some a0) 12).bind fun b12 =>
  sm_cb (fX12_checkPlace b12 a1 a2 h10) fun _ h11 =>
  some ((), h11)
set_option maxRecDepth 100000 in
set_option maxHeartbeats 4000000 in
theorem sX12_check_136 (l : Launch) (D : va_G) (aC : Nat → ClassId) (B : Nat)   (a0 : Nat) (a1 : Int32) (a2 : Int32) (a3 : Int32) (a4 : Int64) (h : sm_H) : zS l D aC B cX12_check 6 RX12 4 108 none "check" vlU (fX12_check_136 a0 a1 a2 a3 a4 h) 136 [(0, vR (some a0)), (1, vI a1), (2, vI a2), (3, vI a3), (4, vJ a4)] [] h := by
  unfold fX12_check_136
  refine sm_aload_n (i := 0) (j := 0) (pc' := 137) dX12_check_136 rfl rfl rfl ?_
  refine sm_getR (k := 16) (pc' := 140) kX12 (by decide) mw668 dX12_check_137 rfl (fun x1 => ?_)
  refine sm_iload_n (i := 2) (j := 2) (pc' := 141) dX12_check_140 rfl rfl rfl ?_
  refine sm_zald (t := 2) (pc' := 142) rfl dX12_check_141 rfl (fun x2 => ?_)
  refine sm_if_eq (tgt := 178) (pc' := 145) dX12_check_142 (by decide) rfl ?_ ?_
  · refine sm_iload_n (i := 3) (j := 3) (pc' := 179) dX12_check_178 rfl rfl rfl ?_
    refine sm_iconst (v := (2 : Int32)) (pc' := 180) dX12_check_179 rfl (by decide) ?_
    refine sm_icmp_eq (tgt := 195) (pc' := 183) dX12_check_180 (by decide) rfl ?_ ?_
    · refine sm_lo (lv' := [(0, vR (some a0)), (1, vI a1), (2, vI a2), (4, vJ a4)]) [0, 1, 2, 4] rfl ?_
      exact sX12_check_195 l D aC B  a0 a1 a2 a4 h
    refine sm_iload_n (i := 3) (j := 3) (pc' := 184) dX12_check_183 rfl rfl rfl ?_
    refine sm_bipush (v := (66 : Int32)) (pc' := 186) dX12_check_184 rfl (by decide) ?_
    refine sm_icmp_eq (tgt := 195) (pc' := 189) dX12_check_186 (by decide) rfl ?_ ?_
    · refine sm_lo (lv' := [(0, vR (some a0)), (1, vI a1), (2, vI a2), (4, vJ a4)]) [0, 1, 2, 4] rfl ?_
      exact sX12_check_195 l D aC B  a0 a1 a2 a4 h
    refine sm_iload_n (i := 3) (j := 3) (pc' := 190) dX12_check_189 rfl rfl rfl ?_
    refine sm_bipush (v := (67 : Int32)) (pc' := 192) dX12_check_190 rfl (by decide) ?_
    refine sm_icmp_ne (tgt := 225) (pc' := 195) dX12_check_192 (by decide) rfl ?_ ?_
    · refine sm_aload_n (i := 0) (j := 0) (pc' := 226) dX12_check_225 rfl rfl rfl ?_
      refine sm_iload_n (i := 1) (j := 1) (pc' := 227) dX12_check_226 rfl rfl rfl ?_
      refine sm_iload_n (i := 2) (j := 2) (pc' := 228) dX12_check_227 rfl rfl rfl ?_
      refine sm_cVU (pc' := 231) (ci := 12) (st := []) (F := fun b => fX12_checkPlace b a1 a2 h) [vI a1, vI a2] yY_yX12_checkPlace rfl mw878 mw879 mw880 (fun b => mX12_checkPlace l D aC B b a1 a2 h) rfl (by decide) (by decide) (by exact Nat.le_of_ble_eq_true rfl) rfl dX12_check_228 rfl (fun _ h3 => ?_)
      exact sm_vret rfl dX12_check_231
    refine sm_lo (lv' := [(0, vR (some a0)), (1, vI a1), (2, vI a2), (4, vJ a4)]) [0, 1, 2, 4] rfl ?_
    exact sX12_check_195 l D aC B  a0 a1 a2 a4 h
  refine sm_lload (i := 4) (j := 4) (pc' := 147) dX12_check_145 rfl rfl ?_
  refine sm_lconst (v := (1 : Int64)) (pc' := 148) dX12_check_147 rfl (by decide) ?_
  refine sm_lcmp (pc' := 149) dX12_check_148 rfl ?_
  refine sm_if_eq (tgt := 225) (pc' := 152) dX12_check_149 (by decide) rfl ?_ ?_
  · refine sm_aload_n (i := 0) (j := 0) (pc' := 226) dX12_check_225 rfl rfl rfl ?_
    refine sm_iload_n (i := 1) (j := 1) (pc' := 227) dX12_check_226 rfl rfl rfl ?_
    refine sm_iload_n (i := 2) (j := 2) (pc' := 228) dX12_check_227 rfl rfl rfl ?_
    refine sm_cVU (pc' := 231) (ci := 12) (st := []) (F := fun b => fX12_checkPlace b a1 a2 h) [vI a1, vI a2] yY_yX12_checkPlace rfl mw878 mw879 mw880 (fun b => mX12_checkPlace l D aC B b a1 a2 h) rfl (by decide) (by decide) (by exact Nat.le_of_ble_eq_true rfl) rfl dX12_check_228 rfl (fun _ h5 => ?_)
    exact sm_vret rfl dX12_check_231
  refine sm_lload (i := 4) (j := 4) (pc' := 154) dX12_check_152 rfl rfl ?_
  refine sm_ldc2 (v := (2 : Int64)) (pc' := 157) dX12_check_154 rfl mw707 ?_
  refine sm_lcmp (pc' := 158) dX12_check_157 rfl ?_
  refine sm_if_eq (tgt := 225) (pc' := 161) dX12_check_158 (by decide) rfl ?_ ?_
  · refine sm_aload_n (i := 0) (j := 0) (pc' := 226) dX12_check_225 rfl rfl rfl ?_
    refine sm_iload_n (i := 1) (j := 1) (pc' := 227) dX12_check_226 rfl rfl rfl ?_
    refine sm_iload_n (i := 2) (j := 2) (pc' := 228) dX12_check_227 rfl rfl rfl ?_
    refine sm_cVU (pc' := 231) (ci := 12) (st := []) (F := fun b => fX12_checkPlace b a1 a2 h) [vI a1, vI a2] yY_yX12_checkPlace rfl mw878 mw879 mw880 (fun b => mX12_checkPlace l D aC B b a1 a2 h) rfl (by decide) (by decide) (by exact Nat.le_of_ble_eq_true rfl) rfl dX12_check_228 rfl (fun _ h7 => ?_)
    exact sm_vret rfl dX12_check_231
  refine sm_lload (i := 4) (j := 4) (pc' := 163) dX12_check_161 rfl rfl ?_
  refine sm_ldc2 (v := (4 : Int64)) (pc' := 166) dX12_check_163 rfl mw761 ?_
  refine sm_ldc2 (v := (6 : Int64)) (pc' := 169) dX12_check_166 rfl mw729 ?_
  refine sm_cSI (pc' := 172) (st := []) [vJ a4, vJ (4 : Int64), vJ (6 : Int64)] yY_yX12_in mw701 mw702 (mX12_in l D aC B a4 (4 : Int64) (6 : Int64) h) rfl (by decide) (by decide) (by exact Nat.le_of_ble_eq_true rfl) rfl dX12_check_169 rfl (fun x9 h10 => ?_)
  refine sm_if_ne (tgt := 225) (pc' := 175) dX12_check_172 (by decide) rfl ?_ ?_
  · refine sm_aload_n (i := 0) (j := 0) (pc' := 226) dX12_check_225 rfl rfl rfl ?_
    refine sm_iload_n (i := 1) (j := 1) (pc' := 227) dX12_check_226 rfl rfl rfl ?_
    refine sm_iload_n (i := 2) (j := 2) (pc' := 228) dX12_check_227 rfl rfl rfl ?_
    refine sm_cVU (pc' := 231) (ci := 12) (st := []) (F := fun b => fX12_checkPlace b a1 a2 h10) [vI a1, vI a2] yY_yX12_checkPlace rfl mw878 mw879 mw880 (fun b => mX12_checkPlace l D aC B b a1 a2 h10) rfl (by decide) (by decide) (by exact Nat.le_of_ble_eq_true rfl) rfl dX12_check_228 rfl (fun _ h11 => ?_)
    exact sm_vret rfl dX12_check_231
  refine sm_goto (pc' := 215) dX12_check_175 (by decide) ?_
  refine sm_aload_n (i := 0) (j := 0) (pc' := 216) dX12_check_215 rfl rfl rfl ?_
  refine sm_bipush (v := (10 : Int32)) (pc' := 218) dX12_check_216 rfl (by decide) ?_
  refine sm_iload_n (i := 1) (j := 1) (pc' := 219) dX12_check_218 rfl rfl rfl ?_
  refine sm_cVU (pc' := 222) (ci := 12) (st := []) (F := fun b => fX12_fail b (10 : Int32) a1 h10) [vI (10 : Int32), vI a1] yY_yX12_fail rfl mw871 mw872 mw873 (fun b => mX12_fail l D aC B b (10 : Int32) a1 h10) rfl (by decide) (by decide) (by exact Nat.le_of_ble_eq_true rfl) rfl dX12_check_219 rfl (fun _ h13 => ?_)
  refine sm_goto (pc' := 231) dX12_check_222 (by decide) ?_
  exact sm_vret rfl dX12_check_231
noncomputable def fX12_check  (a0 : Nat) (a1 : Int32) (h : sm_H) : Option (Unit × sm_H) :=
  (sm_R (sm_get h (some a0) 12 36)).bind fun x1 =>
  (sm_R (sm_get h (some a0) 12 37)).bind fun x2 =>
  (sm_aI h x2 0 a1).bind fun x3 =>
  (sm_obj h (some a0) 12).bind fun b34 =>
  sm_cb (fX12_objectOf b34 x1 ((16 : Int32) * a1) x3 (2 : Int32) h) fun x4 h5 =>
  (sm_R (sm_get h5 (some a0) 12 36)).bind fun x6 =>
  (sm_R (sm_get h5 (some a0) 12 37)).bind fun x7 =>
  (sm_aI h5 x7 0 a1).bind fun x8 =>
  (sm_obj h5 (some a0) 12).bind fun b33 =>
  sm_cb (fX12_inView b33 x6 ((16 : Int32) * a1) x8 h5) fun x9 h10 =>
  if x9 = 0 then (
    (sm_obj h10 (some a0) 12).bind fun b32 =>
    sm_cb (fX12_fail b32 (6 : Int32) a1 h10) fun _ h31 =>
    some ((), h31)
  ) else
  if 0 ≤ x4 then (
    (sm_R (sm_get h10 (some a0) 12 11)).bind fun x11 =>
    (sm_aI h10 x11 0 x4).bind fun x12 =>
    (sm_R (sm_get h10 (some a0) 12 39)).bind fun x13 =>
    (sm_aJ h10 x13 1 a1).bind fun x14 =>
    (sm_R (sm_get h10 (some a0) 12 38)).bind fun x15 =>
    (sm_aI h10 x15 0 a1).bind fun x16 =>
    if x16 = x12 then (
      if x12 = (4 : Int32) then (
        (sm_R (sm_get h10 (some a0) 12 41)).bind fun x17 =>
        (sm_aI h10 x17 0 a1).bind fun x18 =>
        (sm_R (sm_get h10 (some a0) 12 13)).bind fun x19 =>
        (sm_aJ h10 x19 1 x4).bind fun x20 =>
        (sm_R (sm_get h10 (some a0) 12 14)).bind fun x21 =>
        (sm_aJ h10 x21 1 x4).bind fun x22 =>
        sm_cb (fX12_in (x18.toInt64) x20 x22 h10) fun x23 h24 =>
        if x23 = 0 then (
          (sm_obj h24 (some a0) 12).bind fun b26 =>
          sm_cb (fX12_fail b26 (8 : Int32) a1 h24) fun _ h25 =>
          some ((), h25)
        ) else
        fX12_check_136 a0 a1 x4 x12 x14 h24
      ) else
      fX12_check_136 a0 a1 x4 x12 x14 h10
    ) else
    (sm_obj h10 (some a0) 12).bind fun b28 =>
    sm_cb (fX12_fail b28 (7 : Int32) a1 h10) fun _ h27 =>
    some ((), h27)
  ) else
  (sm_obj h10 (some a0) 12).bind fun b30 =>
  sm_cb (fX12_fail b30 (17 : Int32) a1 h10) fun _ h29 =>
  some ((), h29)
set_option maxRecDepth 100000 in
set_option maxHeartbeats 4000000 in
theorem sX12_check_0 (l : Launch) (D : va_G) (aC : Nat → ClassId) (B : Nat)   (a0 : Nat) (a1 : Int32) (h : sm_H) : zS l D aC B cX12_check 6 RX12 4 108 none "check" vlU (fX12_check a0 a1 h) 0 [(0, vR (some a0)), (1, vI a1)] [] h := by
  unfold fX12_check
  refine sm_aload_n (i := 0) (j := 0) (pc' := 1) dX12_check_0 rfl rfl rfl ?_
  refine sm_aload_n (i := 0) (j := 0) (pc' := 2) dX12_check_1 rfl rfl rfl ?_
  refine sm_getR (k := 36) (pc' := 5) kX12 (by decide) mw686 dX12_check_2 rfl (fun x1 => ?_)
  refine sm_bipush (v := (16 : Int32)) (pc' := 7) dX12_check_5 rfl (by decide) ?_
  refine sm_iload_n (i := 1) (j := 1) (pc' := 8) dX12_check_7 rfl rfl rfl ?_
  refine sm_imul (pc' := 9) dX12_check_8 rfl ?_
  refine sm_aload_n (i := 0) (j := 0) (pc' := 10) dX12_check_9 rfl rfl rfl ?_
  refine sm_getR (k := 37) (pc' := 13) kX12 (by decide) mw687 dX12_check_10 rfl (fun x2 => ?_)
  refine sm_iload_n (i := 1) (j := 1) (pc' := 14) dX12_check_13 rfl rfl rfl ?_
  refine sm_iald (t := 0) (pc' := 15) rfl dX12_check_14 rfl (fun x3 => ?_)
  refine sm_iconst (v := (2 : Int32)) (pc' := 16) dX12_check_15 rfl (by decide) ?_
  refine sm_cVI (pc' := 19) (ci := 12) (st := []) (F := fun b => fX12_objectOf b x1 ((16 : Int32) * a1) x3 (2 : Int32) h) [vR x1, vI ((16 : Int32) * a1), vI x3, vI (2 : Int32)] yY_yX12_objectOf rfl mw804 mw808 mw809 (fun b => mX12_objectOf l D aC B b x1 ((16 : Int32) * a1) x3 (2 : Int32) h) rfl (by decide) (by decide) (by exact Nat.le_of_ble_eq_true rfl) rfl dX12_check_16 rfl (fun x4 h5 => ?_)
  refine sm_istore_n (i := 2) (lv' := [(2, vI x4), (0, vR (some a0)), (1, vI a1)]) (pc' := 20) dX12_check_19 rfl rfl (by decide) rfl ?_
  refine sm_aload_n (i := 0) (j := 1) (pc' := 21) dX12_check_20 rfl rfl rfl ?_
  refine sm_aload_n (i := 0) (j := 1) (pc' := 22) dX12_check_21 rfl rfl rfl ?_
  refine sm_getR (k := 36) (pc' := 25) kX12 (by decide) mw686 dX12_check_22 rfl (fun x6 => ?_)
  refine sm_bipush (v := (16 : Int32)) (pc' := 27) dX12_check_25 rfl (by decide) ?_
  refine sm_iload_n (i := 1) (j := 2) (pc' := 28) dX12_check_27 rfl rfl rfl ?_
  refine sm_imul (pc' := 29) dX12_check_28 rfl ?_
  refine sm_aload_n (i := 0) (j := 1) (pc' := 30) dX12_check_29 rfl rfl rfl ?_
  refine sm_getR (k := 37) (pc' := 33) kX12 (by decide) mw687 dX12_check_30 rfl (fun x7 => ?_)
  refine sm_iload_n (i := 1) (j := 2) (pc' := 34) dX12_check_33 rfl rfl rfl ?_
  refine sm_iald (t := 0) (pc' := 35) rfl dX12_check_34 rfl (fun x8 => ?_)
  refine sm_cVI (pc' := 38) (ci := 12) (st := []) (F := fun b => fX12_inView b x6 ((16 : Int32) * a1) x8 h5) [vR x6, vI ((16 : Int32) * a1), vI x8] yY_yX12_inView rfl mw805 mw806 mw807 (fun b => mX12_inView l D aC B b x6 ((16 : Int32) * a1) x8 h5) rfl (by decide) (by decide) (by exact Nat.le_of_ble_eq_true rfl) rfl dX12_check_35 rfl (fun x9 h10 => ?_)
  refine sm_if_ne (tgt := 49) (pc' := 41) dX12_check_38 (by decide) rfl ?_ ?_
  · refine sm_iload_n (i := 2) (j := 0) (pc' := 50) dX12_check_49 rfl rfl rfl ?_
    refine sm_if_ge (tgt := 61) (pc' := 53) dX12_check_50 (by decide) rfl ?_ ?_
    · refine sm_aload_n (i := 0) (j := 1) (pc' := 62) dX12_check_61 rfl rfl rfl ?_
      refine sm_getR (k := 11) (pc' := 65) kX12 (by decide) mw663 dX12_check_62 rfl (fun x11 => ?_)
      refine sm_iload_n (i := 2) (j := 0) (pc' := 66) dX12_check_65 rfl rfl rfl ?_
      refine sm_iald (t := 0) (pc' := 67) rfl dX12_check_66 rfl (fun x12 => ?_)
      refine sm_istore_n (i := 3) (lv' := [(3, vI x12), (2, vI x4), (0, vR (some a0)), (1, vI a1)]) (pc' := 68) dX12_check_67 rfl rfl (by decide) rfl ?_
      refine sm_aload_n (i := 0) (j := 2) (pc' := 69) dX12_check_68 rfl rfl rfl ?_
      refine sm_getR (k := 39) (pc' := 72) kX12 (by decide) mw689 dX12_check_69 rfl (fun x13 => ?_)
      refine sm_iload_n (i := 1) (j := 3) (pc' := 73) dX12_check_72 rfl rfl rfl ?_
      refine sm_lald (t := 1) (pc' := 74) rfl dX12_check_73 rfl (fun x14 => ?_)
      refine sm_lstore (i := 4) (lv' := [(4, vJ x14), (3, vI x12), (2, vI x4), (0, vR (some a0)), (1, vI a1)]) (pc' := 76) dX12_check_74 rfl (by decide) rfl ?_
      refine sm_aload_n (i := 0) (j := 3) (pc' := 77) dX12_check_76 rfl rfl rfl ?_
      refine sm_getR (k := 38) (pc' := 80) kX12 (by decide) mw688 dX12_check_77 rfl (fun x15 => ?_)
      refine sm_iload_n (i := 1) (j := 4) (pc' := 81) dX12_check_80 rfl rfl rfl ?_
      refine sm_iald (t := 0) (pc' := 82) rfl dX12_check_81 rfl (fun x16 => ?_)
      refine sm_iload_n (i := 3) (j := 1) (pc' := 83) dX12_check_82 rfl rfl rfl ?_
      refine sm_icmp_eq (tgt := 96) (pc' := 86) dX12_check_83 (by decide) rfl ?_ ?_
      · refine sm_iload_n (i := 3) (j := 1) (pc' := 97) dX12_check_96 rfl rfl rfl ?_
        refine sm_iconst (v := (4 : Int32)) (pc' := 98) dX12_check_97 rfl (by decide) ?_
        refine sm_icmp_ne (tgt := 136) (pc' := 101) dX12_check_98 (by decide) rfl ?_ ?_
        · refine sm_lo (lv' := [(0, vR (some a0)), (1, vI a1), (2, vI x4), (3, vI x12), (4, vJ x14)]) [3, 4, 2, 1, 0] rfl ?_
          exact sX12_check_136 l D aC B  a0 a1 x4 x12 x14 h10
        refine sm_aload_n (i := 0) (j := 3) (pc' := 102) dX12_check_101 rfl rfl rfl ?_
        refine sm_getR (k := 41) (pc' := 105) kX12 (by decide) mw691 dX12_check_102 rfl (fun x17 => ?_)
        refine sm_iload_n (i := 1) (j := 4) (pc' := 106) dX12_check_105 rfl rfl rfl ?_
        refine sm_iald (t := 0) (pc' := 107) rfl dX12_check_106 rfl (fun x18 => ?_)
        refine sm_i2l (pc' := 108) dX12_check_107 rfl ?_
        refine sm_aload_n (i := 0) (j := 3) (pc' := 109) dX12_check_108 rfl rfl rfl ?_
        refine sm_getR (k := 13) (pc' := 112) kX12 (by decide) mw665 dX12_check_109 rfl (fun x19 => ?_)
        refine sm_iload_n (i := 2) (j := 2) (pc' := 113) dX12_check_112 rfl rfl rfl ?_
        refine sm_lald (t := 1) (pc' := 114) rfl dX12_check_113 rfl (fun x20 => ?_)
        refine sm_aload_n (i := 0) (j := 3) (pc' := 115) dX12_check_114 rfl rfl rfl ?_
        refine sm_getR (k := 14) (pc' := 118) kX12 (by decide) mw666 dX12_check_115 rfl (fun x21 => ?_)
        refine sm_iload_n (i := 2) (j := 2) (pc' := 119) dX12_check_118 rfl rfl rfl ?_
        refine sm_lald (t := 1) (pc' := 120) rfl dX12_check_119 rfl (fun x22 => ?_)
        refine sm_cSI (pc' := 123) (st := []) [vJ (x18.toInt64), vJ x20, vJ x22] yY_yX12_in mw701 mw702 (mX12_in l D aC B (x18.toInt64) x20 x22 h10) rfl (by decide) (by decide) (by exact Nat.le_of_ble_eq_true rfl) rfl dX12_check_120 rfl (fun x23 h24 => ?_)
        refine sm_if_ne (tgt := 136) (pc' := 126) dX12_check_123 (by decide) rfl ?_ ?_
        · refine sm_lo (lv' := [(0, vR (some a0)), (1, vI a1), (2, vI x4), (3, vI x12), (4, vJ x14)]) [3, 4, 2, 1, 0] rfl ?_
          exact sX12_check_136 l D aC B  a0 a1 x4 x12 x14 h24
        refine sm_aload_n (i := 0) (j := 3) (pc' := 127) dX12_check_126 rfl rfl rfl ?_
        refine sm_bipush (v := (8 : Int32)) (pc' := 129) dX12_check_127 rfl (by decide) ?_
        refine sm_iload_n (i := 1) (j := 4) (pc' := 130) dX12_check_129 rfl rfl rfl ?_
        refine sm_cVU (pc' := 133) (ci := 12) (st := []) (F := fun b => fX12_fail b (8 : Int32) a1 h24) [vI (8 : Int32), vI a1] yY_yX12_fail rfl mw871 mw872 mw873 (fun b => mX12_fail l D aC B b (8 : Int32) a1 h24) rfl (by decide) (by decide) (by exact Nat.le_of_ble_eq_true rfl) rfl dX12_check_130 rfl (fun _ h25 => ?_)
        refine sm_goto (pc' := 231) dX12_check_133 (by decide) ?_
        exact sm_vret rfl dX12_check_231
      refine sm_aload_n (i := 0) (j := 3) (pc' := 87) dX12_check_86 rfl rfl rfl ?_
      refine sm_bipush (v := (7 : Int32)) (pc' := 89) dX12_check_87 rfl (by decide) ?_
      refine sm_iload_n (i := 1) (j := 4) (pc' := 90) dX12_check_89 rfl rfl rfl ?_
      refine sm_cVU (pc' := 93) (ci := 12) (st := []) (F := fun b => fX12_fail b (7 : Int32) a1 h10) [vI (7 : Int32), vI a1] yY_yX12_fail rfl mw871 mw872 mw873 (fun b => mX12_fail l D aC B b (7 : Int32) a1 h10) rfl (by decide) (by decide) (by exact Nat.le_of_ble_eq_true rfl) rfl dX12_check_90 rfl (fun _ h27 => ?_)
      refine sm_goto (pc' := 231) dX12_check_93 (by decide) ?_
      exact sm_vret rfl dX12_check_231
    refine sm_aload_n (i := 0) (j := 1) (pc' := 54) dX12_check_53 rfl rfl rfl ?_
    refine sm_bipush (v := (17 : Int32)) (pc' := 56) dX12_check_54 rfl (by decide) ?_
    refine sm_iload_n (i := 1) (j := 2) (pc' := 57) dX12_check_56 rfl rfl rfl ?_
    refine sm_cVU (pc' := 60) (ci := 12) (st := []) (F := fun b => fX12_fail b (17 : Int32) a1 h10) [vI (17 : Int32), vI a1] yY_yX12_fail rfl mw871 mw872 mw873 (fun b => mX12_fail l D aC B b (17 : Int32) a1 h10) rfl (by decide) (by decide) (by exact Nat.le_of_ble_eq_true rfl) rfl dX12_check_57 rfl (fun _ h29 => ?_)
    exact sm_vret rfl dX12_check_60
  refine sm_aload_n (i := 0) (j := 1) (pc' := 42) dX12_check_41 rfl rfl rfl ?_
  refine sm_bipush (v := (6 : Int32)) (pc' := 44) dX12_check_42 rfl (by decide) ?_
  refine sm_iload_n (i := 1) (j := 2) (pc' := 45) dX12_check_44 rfl rfl rfl ?_
  refine sm_cVU (pc' := 48) (ci := 12) (st := []) (F := fun b => fX12_fail b (6 : Int32) a1 h10) [vI (6 : Int32), vI a1] yY_yX12_fail rfl mw871 mw872 mw873 (fun b => mX12_fail l D aC B b (6 : Int32) a1 h10) rfl (by decide) (by decide) (by exact Nat.le_of_ble_eq_true rfl) rfl dX12_check_45 rfl (fun _ h31 => ?_)
  exact sm_vret rfl dX12_check_48
set_option maxRecDepth 100000 in
theorem mX12_check (l : Launch) (D : va_G) (aC : Nat → ClassId) (B : Nat) (a0 : Nat) (a1 : Int32) (h : sm_H) : sm_M l D vwCl gAts aC B gTs gNs gOs yX12_check cX12_check 6 none 4 108 vlU [vR (some a0), vI a1] h (fX12_check a0 a1 h) := sm_meth [vR (some a0), vI a1] yY_yX12_check gG gN (Nat.le_of_ble_eq_true rfl) rfl (sX12_check_0 l D aC B a0 a1 h)
-- M:TreeAgentModel.carryOut()V
noncomputable def fX12_carryOut_388 (K102 : Nat → Int32 → sm_H → Option (Unit × sm_H)) : Nat → Nat → Int32 → Int32 → Int32 → sm_H → Option (Unit × sm_H)
  | 0 => fun _ _ _ _ _ => none
  | n + 1 => fun a0 a1 a4 a5 h =>
    (sm_R (sm_get h (some a0) 12 21)).bind fun x1 =>
    (sm_aI h x1 0 a4).bind fun x2 =>
    if x2 ≤ a5 then (
      sm_let (a1 + (1 : Int32)) fun x3 =>
      K102 a0 x3 h
    ) else
    (sm_R (sm_get h (some a0) 12 20)).bind fun x4 =>
    (sm_R (sm_get h (some a0) 12 42)).bind fun x5 =>
    (sm_aJ h x5 1 (((16 : Int32) * a1) + a5)).bind fun x6 =>
    (sm_sJ h x4 1 (((16 : Int32) * a4) + a5) x6).bind fun h7 =>
    sm_let (a5 + (1 : Int32)) fun x8 =>
    (fX12_carryOut_388 K102 n) a0 a1 a4 x8 h7
set_option maxRecDepth 100000 in
set_option maxHeartbeats 4000000 in
theorem sX12_carryOut_388 (l : Launch) (D : va_G) (aC : Nat → ClassId) (B : Nat) (K102 : Nat → Int32 → sm_H → Option (Unit × sm_H)) (hK102 : ∀ (a0 : Nat) (a1 : Int32) (h : sm_H), zS l D aC B cX12_carryOut 6 RX12 2 52 none "carryOut" vlU (K102 a0 a1 h) 102 [(0, vR (some a0)), (1, vI a1)] [] h) (n : Nat) : ∀ (a0 : Nat) (a1 : Int32) (a4 : Int32) (a5 : Int32) (h : sm_H), zS l D aC B cX12_carryOut 6 RX12 2 52 none "carryOut" vlU (fX12_carryOut_388 K102 n a0 a1 a4 a5 h) 388 [(0, vR (some a0)), (1, vI a1), (4, vI a4), (5, vI a5)] [] h := by
  induction n with
  | zero => intro a0 a1 a4 a5 h; exact sm_none
  | succ n ih =>
    intro a0 a1 a4 a5 h
    show zS l D aC B cX12_carryOut 6 RX12 2 52 none "carryOut" vlU (fX12_carryOut_388 K102 (n + 1) a0 a1 a4 a5 h) 388 [(0, vR (some a0)), (1, vI a1), (4, vI a4), (5, vI a5)] [] h
    unfold fX12_carryOut_388
    refine sm_iload (i := 5) (j := 3) (pc' := 390) dX12_carryOut_388 rfl rfl ?_
    refine sm_aload_n (i := 0) (j := 0) (pc' := 391) dX12_carryOut_390 rfl rfl rfl ?_
    refine sm_getR (k := 21) (pc' := 394) kX12 (by decide) mw673 dX12_carryOut_391 rfl (fun x1 => ?_)
    refine sm_iload (i := 4) (j := 2) (pc' := 396) dX12_carryOut_394 rfl rfl ?_
    refine sm_iald (t := 0) (pc' := 397) rfl dX12_carryOut_396 rfl (fun x2 => ?_)
    refine sm_icmp_ge (tgt := 431) (pc' := 400) dX12_carryOut_397 (by decide) rfl ?_ ?_
    · refine sm_iincL (i := 1) (j := 1) (x := a1) (d := (1 : Int32)) (fun x3 => [(1, vI x3), (0, vR (some a0)), (4, vI a4), (5, vI a5)]) (pc' := 434) dX12_carryOut_431 rfl rfl (by decide) (by decide) (fun _ => rfl) (fun x3 => ?_)
      refine sm_goto (pc' := 102) dX12_carryOut_434 (by decide) ?_
      refine sm_lo (lv' := [(0, vR (some a0)), (1, vI x3)]) [1, 0] rfl ?_
      exact hK102 a0 x3 h
    refine sm_aload_n (i := 0) (j := 0) (pc' := 401) dX12_carryOut_400 rfl rfl rfl ?_
    refine sm_getR (k := 20) (pc' := 404) kX12 (by decide) mw672 dX12_carryOut_401 rfl (fun x4 => ?_)
    refine sm_bipush (v := (16 : Int32)) (pc' := 406) dX12_carryOut_404 rfl (by decide) ?_
    refine sm_iload (i := 4) (j := 2) (pc' := 408) dX12_carryOut_406 rfl rfl ?_
    refine sm_imul (pc' := 409) dX12_carryOut_408 rfl ?_
    refine sm_iload (i := 5) (j := 3) (pc' := 411) dX12_carryOut_409 rfl rfl ?_
    refine sm_iadd (pc' := 412) dX12_carryOut_411 rfl ?_
    refine sm_aload_n (i := 0) (j := 0) (pc' := 413) dX12_carryOut_412 rfl rfl rfl ?_
    refine sm_getR (k := 42) (pc' := 416) kX12 (by decide) mw692 dX12_carryOut_413 rfl (fun x5 => ?_)
    refine sm_bipush (v := (16 : Int32)) (pc' := 418) dX12_carryOut_416 rfl (by decide) ?_
    refine sm_iload_n (i := 1) (j := 1) (pc' := 419) dX12_carryOut_418 rfl rfl rfl ?_
    refine sm_imul (pc' := 420) dX12_carryOut_419 rfl ?_
    refine sm_iload (i := 5) (j := 3) (pc' := 422) dX12_carryOut_420 rfl rfl ?_
    refine sm_iadd (pc' := 423) dX12_carryOut_422 rfl ?_
    refine sm_lald (t := 1) (pc' := 424) rfl dX12_carryOut_423 rfl (fun x6 => ?_)
    refine sm_last (t := 1) (pc' := 425) rfl dX12_carryOut_424 rfl (fun h7 => ?_)
    refine sm_iincL (i := 5) (j := 3) (x := a5) (d := (1 : Int32)) (fun x8 => [(5, vI x8), (0, vR (some a0)), (1, vI a1), (4, vI a4)]) (pc' := 428) dX12_carryOut_425 rfl rfl (by decide) (by decide) (fun _ => rfl) (fun x8 => ?_)
    refine sm_goto (pc' := 388) dX12_carryOut_428 (by decide) ?_
    refine sm_lo (lv' := [(0, vR (some a0)), (1, vI a1), (4, vI a4), (5, vI x8)]) [1, 2, 3, 0] rfl ?_
    exact ih a0 a1 a4 x8 h7
noncomputable def fX12_carryOut_318 (K102 : Nat → Int32 → sm_H → Option (Unit × sm_H)) : Nat → Nat → Int32 → Int32 → Int32 → Int32 → sm_H → Option (Unit × sm_H)
  | 0 => fun _ _ _ _ _ _ => none
  | n + 1 => fun a0 a1 a2 a4 a5 h =>
    (sm_R (sm_get h (some a0) 12 19)).bind fun x1 =>
    (sm_aI h x1 0 a4).bind fun x2 =>
    if x2 ≤ a5 then (
      (sm_R (sm_get h (some a0) 12 11)).bind fun x3 =>
      (sm_aI h x3 0 a2).bind fun x4 =>
      if x4 = (6 : Int32) then (
        (sm_R (sm_get h (some a0) 12 21)).bind fun x6 =>
        (sm_R (sm_get h (some a0) 12 43)).bind fun x7 =>
        (sm_aI h x7 0 a1).bind fun x8 =>
        (sm_sI h x6 0 a4 x8).bind fun h9 =>
        fX12_carryOut_388 K102 sm_fuel a0 a1 a4 (0 : Int32) h9
      ) else
      sm_let (a1 + (1 : Int32)) fun x5 =>
      K102 a0 x5 h
    ) else
    (sm_R (sm_get h (some a0) 12 18)).bind fun x10 =>
    (sm_R (sm_get h (some a0) 12 40)).bind fun x11 =>
    (sm_aI h x11 3 (((40 : Int32) * a1) + a5)).bind fun x12 =>
    (sm_sI h x10 3 (((40 : Int32) * a4) + a5) (vp_nar .byte x12)).bind fun h13 =>
    sm_let (a5 + (1 : Int32)) fun x14 =>
    (fX12_carryOut_318 K102 n) a0 a1 a2 a4 x14 h13
set_option maxRecDepth 100000 in
set_option maxHeartbeats 4000000 in
theorem sX12_carryOut_318 (l : Launch) (D : va_G) (aC : Nat → ClassId) (B : Nat) (K102 : Nat → Int32 → sm_H → Option (Unit × sm_H)) (hK102 : ∀ (a0 : Nat) (a1 : Int32) (h : sm_H), zS l D aC B cX12_carryOut 6 RX12 2 52 none "carryOut" vlU (K102 a0 a1 h) 102 [(0, vR (some a0)), (1, vI a1)] [] h) (n : Nat) : ∀ (a0 : Nat) (a1 : Int32) (a2 : Int32) (a4 : Int32) (a5 : Int32) (h : sm_H), zS l D aC B cX12_carryOut 6 RX12 2 52 none "carryOut" vlU (fX12_carryOut_318 K102 n a0 a1 a2 a4 a5 h) 318 [(0, vR (some a0)), (1, vI a1), (2, vI a2), (4, vI a4), (5, vI a5)] [] h := by
  induction n with
  | zero => intro a0 a1 a2 a4 a5 h; exact sm_none
  | succ n ih =>
    intro a0 a1 a2 a4 a5 h
    show zS l D aC B cX12_carryOut 6 RX12 2 52 none "carryOut" vlU (fX12_carryOut_318 K102 (n + 1) a0 a1 a2 a4 a5 h) 318 [(0, vR (some a0)), (1, vI a1), (2, vI a2), (4, vI a4), (5, vI a5)] [] h
    unfold fX12_carryOut_318
    refine sm_iload (i := 5) (j := 4) (pc' := 320) dX12_carryOut_318 rfl rfl ?_
    refine sm_aload_n (i := 0) (j := 0) (pc' := 321) dX12_carryOut_320 rfl rfl rfl ?_
    refine sm_getR (k := 19) (pc' := 324) kX12 (by decide) mw671 dX12_carryOut_321 rfl (fun x1 => ?_)
    refine sm_iload (i := 4) (j := 3) (pc' := 326) dX12_carryOut_324 rfl rfl ?_
    refine sm_iald (t := 0) (pc' := 327) rfl dX12_carryOut_326 rfl (fun x2 => ?_)
    refine sm_icmp_ge (tgt := 361) (pc' := 330) dX12_carryOut_327 (by decide) rfl ?_ ?_
    · refine sm_aload_n (i := 0) (j := 0) (pc' := 362) dX12_carryOut_361 rfl rfl rfl ?_
      refine sm_getR (k := 11) (pc' := 365) kX12 (by decide) mw663 dX12_carryOut_362 rfl (fun x3 => ?_)
      refine sm_iload_n (i := 2) (j := 2) (pc' := 366) dX12_carryOut_365 rfl rfl rfl ?_
      refine sm_iald (t := 0) (pc' := 367) rfl dX12_carryOut_366 rfl (fun x4 => ?_)
      refine sm_bipush (v := (6 : Int32)) (pc' := 369) dX12_carryOut_367 rfl (by decide) ?_
      refine sm_icmp_ne (tgt := 431) (pc' := 372) dX12_carryOut_369 (by decide) rfl ?_ ?_
      · refine sm_iincL (i := 1) (j := 1) (x := a1) (d := (1 : Int32)) (fun x5 => [(1, vI x5), (0, vR (some a0)), (2, vI a2), (4, vI a4), (5, vI a5)]) (pc' := 434) dX12_carryOut_431 rfl rfl (by decide) (by decide) (fun _ => rfl) (fun x5 => ?_)
        refine sm_goto (pc' := 102) dX12_carryOut_434 (by decide) ?_
        refine sm_lo (lv' := [(0, vR (some a0)), (1, vI x5)]) [1, 0] rfl ?_
        exact hK102 a0 x5 h
      refine sm_aload_n (i := 0) (j := 0) (pc' := 373) dX12_carryOut_372 rfl rfl rfl ?_
      refine sm_getR (k := 21) (pc' := 376) kX12 (by decide) mw673 dX12_carryOut_373 rfl (fun x6 => ?_)
      refine sm_iload (i := 4) (j := 3) (pc' := 378) dX12_carryOut_376 rfl rfl ?_
      refine sm_aload_n (i := 0) (j := 0) (pc' := 379) dX12_carryOut_378 rfl rfl rfl ?_
      refine sm_getR (k := 43) (pc' := 382) kX12 (by decide) mw693 dX12_carryOut_379 rfl (fun x7 => ?_)
      refine sm_iload_n (i := 1) (j := 1) (pc' := 383) dX12_carryOut_382 rfl rfl rfl ?_
      refine sm_iald (t := 0) (pc' := 384) rfl dX12_carryOut_383 rfl (fun x8 => ?_)
      refine sm_iast (t := 0) (pc' := 385) rfl dX12_carryOut_384 rfl (fun h9 => ?_)
      refine sm_iconst (v := (0 : Int32)) (pc' := 386) dX12_carryOut_385 rfl (by decide) ?_
      refine sm_istore (i := 5) (lv' := [(5, vI (0 : Int32)), (0, vR (some a0)), (1, vI a1), (2, vI a2), (4, vI a4)]) (pc' := 388) dX12_carryOut_386 rfl (by decide) rfl ?_
      refine sm_lo (lv' := [(0, vR (some a0)), (1, vI a1), (4, vI a4), (5, vI (0 : Int32))]) [1, 2, 4, 0] rfl ?_
      exact sX12_carryOut_388 l D aC B  K102 hK102 sm_fuel a0 a1 a4 (0 : Int32) h9
    refine sm_aload_n (i := 0) (j := 0) (pc' := 331) dX12_carryOut_330 rfl rfl rfl ?_
    refine sm_getR (k := 18) (pc' := 334) kX12 (by decide) mw670 dX12_carryOut_331 rfl (fun x10 => ?_)
    refine sm_bipush (v := (40 : Int32)) (pc' := 336) dX12_carryOut_334 rfl (by decide) ?_
    refine sm_iload (i := 4) (j := 3) (pc' := 338) dX12_carryOut_336 rfl rfl ?_
    refine sm_imul (pc' := 339) dX12_carryOut_338 rfl ?_
    refine sm_iload (i := 5) (j := 4) (pc' := 341) dX12_carryOut_339 rfl rfl ?_
    refine sm_iadd (pc' := 342) dX12_carryOut_341 rfl ?_
    refine sm_aload_n (i := 0) (j := 0) (pc' := 343) dX12_carryOut_342 rfl rfl rfl ?_
    refine sm_getR (k := 40) (pc' := 346) kX12 (by decide) mw690 dX12_carryOut_343 rfl (fun x11 => ?_)
    refine sm_bipush (v := (40 : Int32)) (pc' := 348) dX12_carryOut_346 rfl (by decide) ?_
    refine sm_iload_n (i := 1) (j := 1) (pc' := 349) dX12_carryOut_348 rfl rfl rfl ?_
    refine sm_imul (pc' := 350) dX12_carryOut_349 rfl ?_
    refine sm_iload (i := 5) (j := 4) (pc' := 352) dX12_carryOut_350 rfl rfl ?_
    refine sm_iadd (pc' := 353) dX12_carryOut_352 rfl ?_
    refine sm_bald (t := 3) (pc' := 354) rfl dX12_carryOut_353 rfl (fun x12 => ?_)
    refine sm_bast (t := 3) (pc' := 355) rfl dX12_carryOut_354 rfl (fun h13 => ?_)
    refine sm_iincL (i := 5) (j := 4) (x := a5) (d := (1 : Int32)) (fun x14 => [(5, vI x14), (0, vR (some a0)), (1, vI a1), (2, vI a2), (4, vI a4)]) (pc' := 358) dX12_carryOut_355 rfl rfl (by decide) (by decide) (fun _ => rfl) (fun x14 => ?_)
    refine sm_goto (pc' := 318) dX12_carryOut_358 (by decide) ?_
    refine sm_lo (lv' := [(0, vR (some a0)), (1, vI a1), (2, vI a2), (4, vI a4), (5, vI x14)]) [1, 2, 3, 4, 0] rfl ?_
    exact ih a0 a1 a2 a4 x14 h13
noncomputable def fX12_carryOut_287 (K102 : Nat → Int32 → sm_H → Option (Unit × sm_H)) (a0 : Nat) (a1 : Int32) (a2 : Int32) (a4 : Int32) (s0 : Int64) (s1 : Int32) (s2 : Option Nat) (h : sm_H) : Option (Unit × sm_H) :=
  (sm_sJ h s2 1 s1 s0).bind fun h1 =>
  (sm_R (sm_get h1 (some a0) 12 19)).bind fun x2 =>
  (sm_R (sm_get h1 (some a0) 12 11)).bind fun x3 =>
  (sm_aI h1 x3 0 a2).bind fun x4 =>
  if x4 = (4 : Int32) then (
    (sm_R (sm_get h1 (some a0) 12 41)).bind fun x6 =>
    (sm_aI h1 x6 0 a1).bind fun x7 =>
    (sm_sI h1 x2 0 a4 x7).bind fun h8 =>
    fX12_carryOut_318 K102 sm_fuel a0 a1 a2 a4 (0 : Int32) h8
  ) else
  (sm_sI h1 x2 0 a4 (0 : Int32)).bind fun h5 =>
  fX12_carryOut_318 K102 sm_fuel a0 a1 a2 a4 (0 : Int32) h5
set_option maxRecDepth 100000 in
set_option maxHeartbeats 4000000 in
theorem sX12_carryOut_287 (l : Launch) (D : va_G) (aC : Nat → ClassId) (B : Nat) (K102 : Nat → Int32 → sm_H → Option (Unit × sm_H)) (hK102 : ∀ (a0 : Nat) (a1 : Int32) (h : sm_H), zS l D aC B cX12_carryOut 6 RX12 2 52 none "carryOut" vlU (K102 a0 a1 h) 102 [(0, vR (some a0)), (1, vI a1)] [] h) (a0 : Nat) (a1 : Int32) (a2 : Int32) (a4 : Int32) (s0 : Int64) (s1 : Int32) (s2 : Option Nat) (h : sm_H) : zS l D aC B cX12_carryOut 6 RX12 2 52 none "carryOut" vlU (fX12_carryOut_287 K102 a0 a1 a2 a4 s0 s1 s2 h) 287 [(0, vR (some a0)), (1, vI a1), (2, vI a2), (4, vI a4)] [vJ s0, vI s1, vR s2] h := by
  unfold fX12_carryOut_287
  refine sm_last (t := 1) (pc' := 288) rfl dX12_carryOut_287 rfl (fun h1 => ?_)
  refine sm_aload_n (i := 0) (j := 0) (pc' := 289) dX12_carryOut_288 rfl rfl rfl ?_
  refine sm_getR (k := 19) (pc' := 292) kX12 (by decide) mw671 dX12_carryOut_289 rfl (fun x2 => ?_)
  refine sm_iload (i := 4) (j := 3) (pc' := 294) dX12_carryOut_292 rfl rfl ?_
  refine sm_aload_n (i := 0) (j := 0) (pc' := 295) dX12_carryOut_294 rfl rfl rfl ?_
  refine sm_getR (k := 11) (pc' := 298) kX12 (by decide) mw663 dX12_carryOut_295 rfl (fun x3 => ?_)
  refine sm_iload_n (i := 2) (j := 2) (pc' := 299) dX12_carryOut_298 rfl rfl rfl ?_
  refine sm_iald (t := 0) (pc' := 300) rfl dX12_carryOut_299 rfl (fun x4 => ?_)
  refine sm_iconst (v := (4 : Int32)) (pc' := 301) dX12_carryOut_300 rfl (by decide) ?_
  refine sm_icmp_ne (tgt := 313) (pc' := 304) dX12_carryOut_301 (by decide) rfl ?_ ?_
  · refine sm_iconst (v := (0 : Int32)) (pc' := 314) dX12_carryOut_313 rfl (by decide) ?_
    refine sm_iast (t := 0) (pc' := 315) rfl dX12_carryOut_314 rfl (fun h5 => ?_)
    refine sm_iconst (v := (0 : Int32)) (pc' := 316) dX12_carryOut_315 rfl (by decide) ?_
    refine sm_istore (i := 5) (lv' := [(5, vI (0 : Int32)), (0, vR (some a0)), (1, vI a1), (2, vI a2), (4, vI a4)]) (pc' := 318) dX12_carryOut_316 rfl (by decide) rfl ?_
    refine sm_lo (lv' := [(0, vR (some a0)), (1, vI a1), (2, vI a2), (4, vI a4), (5, vI (0 : Int32))]) [1, 2, 3, 4, 0] rfl ?_
    exact sX12_carryOut_318 l D aC B  K102 hK102 sm_fuel a0 a1 a2 a4 (0 : Int32) h5
  refine sm_aload_n (i := 0) (j := 0) (pc' := 305) dX12_carryOut_304 rfl rfl rfl ?_
  refine sm_getR (k := 41) (pc' := 308) kX12 (by decide) mw691 dX12_carryOut_305 rfl (fun x6 => ?_)
  refine sm_iload_n (i := 1) (j := 1) (pc' := 309) dX12_carryOut_308 rfl rfl rfl ?_
  refine sm_iald (t := 0) (pc' := 310) rfl dX12_carryOut_309 rfl (fun x7 => ?_)
  refine sm_goto (pc' := 314) dX12_carryOut_310 (by decide) ?_
  refine sm_iast (t := 0) (pc' := 315) rfl dX12_carryOut_314 rfl (fun h8 => ?_)
  refine sm_iconst (v := (0 : Int32)) (pc' := 316) dX12_carryOut_315 rfl (by decide) ?_
  refine sm_istore (i := 5) (lv' := [(5, vI (0 : Int32)), (0, vR (some a0)), (1, vI a1), (2, vI a2), (4, vI a4)]) (pc' := 318) dX12_carryOut_316 rfl (by decide) rfl ?_
  refine sm_lo (lv' := [(0, vR (some a0)), (1, vI a1), (2, vI a2), (4, vI a4), (5, vI (0 : Int32))]) [1, 2, 3, 4, 0] rfl ?_
  exact sX12_carryOut_318 l D aC B  K102 hK102 sm_fuel a0 a1 a2 a4 (0 : Int32) h8
noncomputable def fX12_carryOut_169 (K102 : Nat → Int32 → sm_H → Option (Unit × sm_H)) (a0 : Nat) (a1 : Int32) (a2 : Int32) (s0 : Int32) (h : sm_H) : Option (Unit × sm_H) :=
  if 0 ≤ s0 then (
    sm_let (((16 : Int32) * a2) + s0) fun x1 =>
    (sm_R (sm_get h (some a0) 12 16)).bind fun x2 =>
    (sm_aI h x2 2 a2).bind fun x3 =>
    if x3 = 0 then (
      (sm_R (sm_get h (some a0) 12 17)).bind fun x4 =>
      (sm_R (sm_get h (some a0) 12 11)).bind fun x5 =>
      (sm_aI h x5 0 a2).bind fun x6 =>
      if x6 = (4 : Int32) then (
        fX12_carryOut_287 K102 a0 a1 a2 x1 (0 : Int64) x1 x4 h
      ) else
      (sm_R (sm_get h (some a0) 12 11)).bind fun x7 =>
      (sm_aI h x7 0 a2).bind fun x8 =>
      if x8 = (6 : Int32) then (
        fX12_carryOut_287 K102 a0 a1 a2 x1 (0 : Int64) x1 x4 h
      ) else
      (sm_R (sm_get h (some a0) 12 39)).bind fun x9 =>
      (sm_aJ h x9 1 a1).bind fun x10 =>
      fX12_carryOut_287 K102 a0 a1 a2 x1 x10 x1 x4 h
    ) else
    (sm_R (sm_get h (some a0) 12 39)).bind fun x11 =>
    (sm_aJ h x11 1 a1).bind fun x12 =>
    if (lg_cmp x12 (6 : Int64)) = 0 then (
      (sm_R (sm_get h (some a0) 12 15)).bind fun x21 =>
      (sm_aI h x21 0 a2).bind fun x22 =>
      (sm_obj h (some a0) 12).bind fun b25 =>
      sm_cb (fX12_dropRow b25 x22 s0 h) fun _ h23 =>
      sm_let (a1 + (1 : Int32)) fun x24 =>
      K102 a0 x24 h23
    ) else
    (sm_R (sm_get h (some a0) 12 39)).bind fun x13 =>
    (sm_aJ h x13 1 a1).bind fun x14 =>
    if 0 ≤ (lg_cmp x14 (3 : Int64)) then (
      sm_let (a1 + (1 : Int32)) fun x15 =>
      K102 a0 x15 h
    ) else
    (sm_R (sm_get h (some a0) 12 17)).bind fun x16 =>
    (sm_R (sm_get h (some a0) 12 39)).bind fun x17 =>
    (sm_aJ h x17 1 a1).bind fun x18 =>
    (sm_sJ h x16 1 x1 x18).bind fun h19 =>
    sm_let (a1 + (1 : Int32)) fun x20 =>
    K102 a0 x20 h19
  ) else
  sm_let (a1 + (1 : Int32)) fun x26 =>
  K102 a0 x26 h
set_option maxRecDepth 100000 in
set_option maxHeartbeats 4000000 in
theorem sX12_carryOut_169 (l : Launch) (D : va_G) (aC : Nat → ClassId) (B : Nat) (K102 : Nat → Int32 → sm_H → Option (Unit × sm_H)) (hK102 : ∀ (a0 : Nat) (a1 : Int32) (h : sm_H), zS l D aC B cX12_carryOut 6 RX12 2 52 none "carryOut" vlU (K102 a0 a1 h) 102 [(0, vR (some a0)), (1, vI a1)] [] h) (a0 : Nat) (a1 : Int32) (a2 : Int32) (s0 : Int32) (h : sm_H) : zS l D aC B cX12_carryOut 6 RX12 2 52 none "carryOut" vlU (fX12_carryOut_169 K102 a0 a1 a2 s0 h) 169 [(0, vR (some a0)), (1, vI a1), (2, vI a2)] [vI s0] h := by
  unfold fX12_carryOut_169
  refine sm_istore_n (i := 3) (lv' := [(3, vI s0), (0, vR (some a0)), (1, vI a1), (2, vI a2)]) (pc' := 170) dX12_carryOut_169 rfl rfl (by decide) rfl ?_
  refine sm_iload_n (i := 3) (j := 0) (pc' := 171) dX12_carryOut_170 rfl rfl rfl ?_
  refine sm_if_ge (tgt := 177) (pc' := 174) dX12_carryOut_171 (by decide) rfl ?_ ?_
  · refine sm_bipush (v := (16 : Int32)) (pc' := 179) dX12_carryOut_177 rfl (by decide) ?_
    refine sm_iload_n (i := 2) (j := 3) (pc' := 180) dX12_carryOut_179 rfl rfl rfl ?_
    refine sm_imul (pc' := 181) dX12_carryOut_180 rfl ?_
    refine sm_iload_n (i := 3) (j := 0) (pc' := 182) dX12_carryOut_181 rfl rfl rfl ?_
    refine sm_iadd (pc' := 183) dX12_carryOut_182 rfl ?_
    refine sm_letIv (fun x1 => ?_)
    refine sm_istore (i := 4) (lv' := [(4, vI x1), (3, vI s0), (0, vR (some a0)), (1, vI a1), (2, vI a2)]) (pc' := 185) dX12_carryOut_183 rfl (by decide) rfl ?_
    refine sm_aload_n (i := 0) (j := 2) (pc' := 186) dX12_carryOut_185 rfl rfl rfl ?_
    refine sm_getR (k := 16) (pc' := 189) kX12 (by decide) mw668 dX12_carryOut_186 rfl (fun x2 => ?_)
    refine sm_iload_n (i := 2) (j := 4) (pc' := 190) dX12_carryOut_189 rfl rfl rfl ?_
    refine sm_zald (t := 2) (pc' := 191) rfl dX12_carryOut_190 rfl (fun x3 => ?_)
    refine sm_if_eq (tgt := 250) (pc' := 194) dX12_carryOut_191 (by decide) rfl ?_ ?_
    · refine sm_aload_n (i := 0) (j := 2) (pc' := 251) dX12_carryOut_250 rfl rfl rfl ?_
      refine sm_getR (k := 17) (pc' := 254) kX12 (by decide) mw669 dX12_carryOut_251 rfl (fun x4 => ?_)
      refine sm_iload (i := 4) (j := 0) (pc' := 256) dX12_carryOut_254 rfl rfl ?_
      refine sm_aload_n (i := 0) (j := 2) (pc' := 257) dX12_carryOut_256 rfl rfl rfl ?_
      refine sm_getR (k := 11) (pc' := 260) kX12 (by decide) mw663 dX12_carryOut_257 rfl (fun x5 => ?_)
      refine sm_iload_n (i := 2) (j := 4) (pc' := 261) dX12_carryOut_260 rfl rfl rfl ?_
      refine sm_iald (t := 0) (pc' := 262) rfl dX12_carryOut_261 rfl (fun x6 => ?_)
      refine sm_iconst (v := (4 : Int32)) (pc' := 263) dX12_carryOut_262 rfl (by decide) ?_
      refine sm_icmp_eq (tgt := 277) (pc' := 266) dX12_carryOut_263 (by decide) rfl ?_ ?_
      · refine sm_lconst (v := (0 : Int64)) (pc' := 278) dX12_carryOut_277 rfl (by decide) ?_
        refine sm_goto (pc' := 287) dX12_carryOut_278 (by decide) ?_
        refine sm_lo (lv' := [(0, vR (some a0)), (1, vI a1), (2, vI a2), (4, vI x1)]) [2, 3, 4, 0] rfl ?_
        exact sX12_carryOut_287 l D aC B  K102 hK102 a0 a1 a2 x1 (0 : Int64) x1 x4 h
      refine sm_aload_n (i := 0) (j := 2) (pc' := 267) dX12_carryOut_266 rfl rfl rfl ?_
      refine sm_getR (k := 11) (pc' := 270) kX12 (by decide) mw663 dX12_carryOut_267 rfl (fun x7 => ?_)
      refine sm_iload_n (i := 2) (j := 4) (pc' := 271) dX12_carryOut_270 rfl rfl rfl ?_
      refine sm_iald (t := 0) (pc' := 272) rfl dX12_carryOut_271 rfl (fun x8 => ?_)
      refine sm_bipush (v := (6 : Int32)) (pc' := 274) dX12_carryOut_272 rfl (by decide) ?_
      refine sm_icmp_ne (tgt := 281) (pc' := 277) dX12_carryOut_274 (by decide) rfl ?_ ?_
      · refine sm_aload_n (i := 0) (j := 2) (pc' := 282) dX12_carryOut_281 rfl rfl rfl ?_
        refine sm_getR (k := 39) (pc' := 285) kX12 (by decide) mw689 dX12_carryOut_282 rfl (fun x9 => ?_)
        refine sm_iload_n (i := 1) (j := 3) (pc' := 286) dX12_carryOut_285 rfl rfl rfl ?_
        refine sm_lald (t := 1) (pc' := 287) rfl dX12_carryOut_286 rfl (fun x10 => ?_)
        refine sm_lo (lv' := [(0, vR (some a0)), (1, vI a1), (2, vI a2), (4, vI x1)]) [2, 3, 4, 0] rfl ?_
        exact sX12_carryOut_287 l D aC B  K102 hK102 a0 a1 a2 x1 x10 x1 x4 h
      refine sm_lconst (v := (0 : Int64)) (pc' := 278) dX12_carryOut_277 rfl (by decide) ?_
      refine sm_goto (pc' := 287) dX12_carryOut_278 (by decide) ?_
      refine sm_lo (lv' := [(0, vR (some a0)), (1, vI a1), (2, vI a2), (4, vI x1)]) [2, 3, 4, 0] rfl ?_
      exact sX12_carryOut_287 l D aC B  K102 hK102 a0 a1 a2 x1 (0 : Int64) x1 x4 h
    refine sm_aload_n (i := 0) (j := 2) (pc' := 195) dX12_carryOut_194 rfl rfl rfl ?_
    refine sm_getR (k := 39) (pc' := 198) kX12 (by decide) mw689 dX12_carryOut_195 rfl (fun x11 => ?_)
    refine sm_iload_n (i := 1) (j := 3) (pc' := 199) dX12_carryOut_198 rfl rfl rfl ?_
    refine sm_lald (t := 1) (pc' := 200) rfl dX12_carryOut_199 rfl (fun x12 => ?_)
    refine sm_ldc2 (v := (6 : Int64)) (pc' := 203) dX12_carryOut_200 rfl mw729 ?_
    refine sm_lcmp (pc' := 204) dX12_carryOut_203 rfl ?_
    refine sm_if_ne (tgt := 221) (pc' := 207) dX12_carryOut_204 (by decide) rfl ?_ ?_
    · refine sm_aload_n (i := 0) (j := 2) (pc' := 222) dX12_carryOut_221 rfl rfl rfl ?_
      refine sm_getR (k := 39) (pc' := 225) kX12 (by decide) mw689 dX12_carryOut_222 rfl (fun x13 => ?_)
      refine sm_iload_n (i := 1) (j := 3) (pc' := 226) dX12_carryOut_225 rfl rfl rfl ?_
      refine sm_lald (t := 1) (pc' := 227) rfl dX12_carryOut_226 rfl (fun x14 => ?_)
      refine sm_ldc2 (v := (3 : Int64)) (pc' := 230) dX12_carryOut_227 rfl mw874 ?_
      refine sm_lcmp (pc' := 231) dX12_carryOut_230 rfl ?_
      refine sm_if_ge (tgt := 431) (pc' := 234) dX12_carryOut_231 (by decide) rfl ?_ ?_
      · refine sm_iincL (i := 1) (j := 3) (x := a1) (d := (1 : Int32)) (fun x15 => [(1, vI x15), (4, vI x1), (3, vI s0), (0, vR (some a0)), (2, vI a2)]) (pc' := 434) dX12_carryOut_431 rfl rfl (by decide) (by decide) (fun _ => rfl) (fun x15 => ?_)
        refine sm_goto (pc' := 102) dX12_carryOut_434 (by decide) ?_
        refine sm_lo (lv' := [(0, vR (some a0)), (1, vI x15)]) [3, 0] rfl ?_
        exact hK102 a0 x15 h
      refine sm_aload_n (i := 0) (j := 2) (pc' := 235) dX12_carryOut_234 rfl rfl rfl ?_
      refine sm_getR (k := 17) (pc' := 238) kX12 (by decide) mw669 dX12_carryOut_235 rfl (fun x16 => ?_)
      refine sm_iload (i := 4) (j := 0) (pc' := 240) dX12_carryOut_238 rfl rfl ?_
      refine sm_aload_n (i := 0) (j := 2) (pc' := 241) dX12_carryOut_240 rfl rfl rfl ?_
      refine sm_getR (k := 39) (pc' := 244) kX12 (by decide) mw689 dX12_carryOut_241 rfl (fun x17 => ?_)
      refine sm_iload_n (i := 1) (j := 3) (pc' := 245) dX12_carryOut_244 rfl rfl rfl ?_
      refine sm_lald (t := 1) (pc' := 246) rfl dX12_carryOut_245 rfl (fun x18 => ?_)
      refine sm_last (t := 1) (pc' := 247) rfl dX12_carryOut_246 rfl (fun h19 => ?_)
      refine sm_goto (pc' := 431) dX12_carryOut_247 (by decide) ?_
      refine sm_iincL (i := 1) (j := 3) (x := a1) (d := (1 : Int32)) (fun x20 => [(1, vI x20), (4, vI x1), (3, vI s0), (0, vR (some a0)), (2, vI a2)]) (pc' := 434) dX12_carryOut_431 rfl rfl (by decide) (by decide) (fun _ => rfl) (fun x20 => ?_)
      refine sm_goto (pc' := 102) dX12_carryOut_434 (by decide) ?_
      refine sm_lo (lv' := [(0, vR (some a0)), (1, vI x20)]) [3, 0] rfl ?_
      exact hK102 a0 x20 h19
    refine sm_aload_n (i := 0) (j := 2) (pc' := 208) dX12_carryOut_207 rfl rfl rfl ?_
    refine sm_aload_n (i := 0) (j := 2) (pc' := 209) dX12_carryOut_208 rfl rfl rfl ?_
    refine sm_getR (k := 15) (pc' := 212) kX12 (by decide) mw667 dX12_carryOut_209 rfl (fun x21 => ?_)
    refine sm_iload_n (i := 2) (j := 4) (pc' := 213) dX12_carryOut_212 rfl rfl rfl ?_
    refine sm_iald (t := 0) (pc' := 214) rfl dX12_carryOut_213 rfl (fun x22 => ?_)
    refine sm_iload_n (i := 3) (j := 1) (pc' := 215) dX12_carryOut_214 rfl rfl rfl ?_
    refine sm_cVU (pc' := 218) (ci := 12) (st := []) (F := fun b => fX12_dropRow b x22 s0 h) [vI x22, vI s0] yY_yX12_dropRow rfl mw733 mw734 mw735 (fun b => mX12_dropRow l D aC B b x22 s0 h) rfl (by decide) (by decide) (by exact Nat.le_of_ble_eq_true rfl) rfl dX12_carryOut_215 rfl (fun _ h23 => ?_)
    refine sm_goto (pc' := 431) dX12_carryOut_218 (by decide) ?_
    refine sm_iincL (i := 1) (j := 3) (x := a1) (d := (1 : Int32)) (fun x24 => [(1, vI x24), (4, vI x1), (3, vI s0), (0, vR (some a0)), (2, vI a2)]) (pc' := 434) dX12_carryOut_431 rfl rfl (by decide) (by decide) (fun _ => rfl) (fun x24 => ?_)
    refine sm_goto (pc' := 102) dX12_carryOut_434 (by decide) ?_
    refine sm_lo (lv' := [(0, vR (some a0)), (1, vI x24)]) [3, 0] rfl ?_
    exact hK102 a0 x24 h23
  refine sm_goto (pc' := 431) dX12_carryOut_174 (by decide) ?_
  refine sm_iincL (i := 1) (j := 2) (x := a1) (d := (1 : Int32)) (fun x26 => [(1, vI x26), (3, vI s0), (0, vR (some a0)), (2, vI a2)]) (pc' := 434) dX12_carryOut_431 rfl rfl (by decide) (by decide) (fun _ => rfl) (fun x26 => ?_)
  refine sm_goto (pc' := 102) dX12_carryOut_434 (by decide) ?_
  refine sm_lo (lv' := [(0, vR (some a0)), (1, vI x26)]) [2, 0] rfl ?_
  exact hK102 a0 x26 h
noncomputable def fX12_carryOut_102  : Nat → Nat → Int32 → sm_H → Option (Unit × sm_H)
  | 0 => fun _ _ _ => none
  | n + 1 => fun a0 a1 h =>
    (sm_I (sm_get h (some a0) 12 46)).bind fun x1 =>
    if x1 ≤ a1 then (
      some ((), h)
    ) else
    (sm_R (sm_get h (some a0) 12 36)).bind fun x2 =>
    (sm_R (sm_get h (some a0) 12 37)).bind fun x3 =>
    (sm_aI h x3 0 a1).bind fun x4 =>
    (sm_obj h (some a0) 12).bind fun b18 =>
    sm_cb (fX12_objectOf b18 x2 ((16 : Int32) * a1) x4 (2 : Int32) h) fun x5 h6 =>
    (sm_R (sm_get h6 (some a0) 12 15)).bind fun x7 =>
    (sm_aI h6 x7 0 x5).bind fun x8 =>
    if 0 ≤ x8 then (
      (sm_R (sm_get h6 (some a0) 12 15)).bind fun x9 =>
      (sm_aI h6 x9 0 x5).bind fun x10 =>
      (sm_R (sm_get h6 (some a0) 12 36)).bind fun x11 =>
      (sm_R (sm_get h6 (some a0) 12 10)).bind fun x12 =>
      (sm_aI h6 x12 0 x5).bind fun x13 =>
      (sm_aJ h6 x11 1 (((16 : Int32) * a1) + x13)).bind fun x14 =>
      (sm_obj h6 (some a0) 12).bind fun b17 =>
      sm_cb (fX12_placeOf b17 x10 x14 h6) fun x15 h16 =>
      fX12_carryOut_169 (fX12_carryOut_102 n) a0 a1 x5 x15 h16
    ) else
    fX12_carryOut_169 (fX12_carryOut_102 n) a0 a1 x5 (0 : Int32) h6
set_option maxRecDepth 100000 in
set_option maxHeartbeats 4000000 in
theorem sX12_carryOut_102 (l : Launch) (D : va_G) (aC : Nat → ClassId) (B : Nat)   (n : Nat) : ∀ (a0 : Nat) (a1 : Int32) (h : sm_H), zS l D aC B cX12_carryOut 6 RX12 2 52 none "carryOut" vlU (fX12_carryOut_102 n a0 a1 h) 102 [(0, vR (some a0)), (1, vI a1)] [] h := by
  induction n with
  | zero => intro a0 a1 h; exact sm_none
  | succ n ih =>
    intro a0 a1 h
    show zS l D aC B cX12_carryOut 6 RX12 2 52 none "carryOut" vlU (fX12_carryOut_102 (n + 1) a0 a1 h) 102 [(0, vR (some a0)), (1, vI a1)] [] h
    unfold fX12_carryOut_102
    refine sm_iload_n (i := 1) (j := 1) (pc' := 103) dX12_carryOut_102 rfl rfl rfl ?_
    refine sm_aload_n (i := 0) (j := 0) (pc' := 104) dX12_carryOut_103 rfl rfl rfl ?_
    refine sm_getI (k := 46) (pc' := 107) kX12 (by decide) mw778 dX12_carryOut_104 rfl (fun x1 => ?_)
    refine sm_icmp_ge (tgt := 437) (pc' := 110) dX12_carryOut_107 (by decide) rfl ?_ ?_
    · exact sm_vret rfl dX12_carryOut_437
    refine sm_aload_n (i := 0) (j := 0) (pc' := 111) dX12_carryOut_110 rfl rfl rfl ?_
    refine sm_aload_n (i := 0) (j := 0) (pc' := 112) dX12_carryOut_111 rfl rfl rfl ?_
    refine sm_getR (k := 36) (pc' := 115) kX12 (by decide) mw686 dX12_carryOut_112 rfl (fun x2 => ?_)
    refine sm_bipush (v := (16 : Int32)) (pc' := 117) dX12_carryOut_115 rfl (by decide) ?_
    refine sm_iload_n (i := 1) (j := 1) (pc' := 118) dX12_carryOut_117 rfl rfl rfl ?_
    refine sm_imul (pc' := 119) dX12_carryOut_118 rfl ?_
    refine sm_aload_n (i := 0) (j := 0) (pc' := 120) dX12_carryOut_119 rfl rfl rfl ?_
    refine sm_getR (k := 37) (pc' := 123) kX12 (by decide) mw687 dX12_carryOut_120 rfl (fun x3 => ?_)
    refine sm_iload_n (i := 1) (j := 1) (pc' := 124) dX12_carryOut_123 rfl rfl rfl ?_
    refine sm_iald (t := 0) (pc' := 125) rfl dX12_carryOut_124 rfl (fun x4 => ?_)
    refine sm_iconst (v := (2 : Int32)) (pc' := 126) dX12_carryOut_125 rfl (by decide) ?_
    refine sm_cVI (pc' := 129) (ci := 12) (st := []) (F := fun b => fX12_objectOf b x2 ((16 : Int32) * a1) x4 (2 : Int32) h) [vR x2, vI ((16 : Int32) * a1), vI x4, vI (2 : Int32)] yY_yX12_objectOf rfl mw804 mw808 mw809 (fun b => mX12_objectOf l D aC B b x2 ((16 : Int32) * a1) x4 (2 : Int32) h) rfl (by decide) (by decide) (by exact Nat.le_of_ble_eq_true rfl) rfl dX12_carryOut_126 rfl (fun x5 h6 => ?_)
    refine sm_istore_n (i := 2) (lv' := [(2, vI x5), (0, vR (some a0)), (1, vI a1)]) (pc' := 130) dX12_carryOut_129 rfl rfl (by decide) rfl ?_
    refine sm_aload_n (i := 0) (j := 1) (pc' := 131) dX12_carryOut_130 rfl rfl rfl ?_
    refine sm_getR (k := 15) (pc' := 134) kX12 (by decide) mw667 dX12_carryOut_131 rfl (fun x7 => ?_)
    refine sm_iload_n (i := 2) (j := 0) (pc' := 135) dX12_carryOut_134 rfl rfl rfl ?_
    refine sm_iald (t := 0) (pc' := 136) rfl dX12_carryOut_135 rfl (fun x8 => ?_)
    refine sm_if_ge (tgt := 143) (pc' := 139) dX12_carryOut_136 (by decide) rfl ?_ ?_
    · refine sm_aload_n (i := 0) (j := 1) (pc' := 144) dX12_carryOut_143 rfl rfl rfl ?_
      refine sm_aload_n (i := 0) (j := 1) (pc' := 145) dX12_carryOut_144 rfl rfl rfl ?_
      refine sm_getR (k := 15) (pc' := 148) kX12 (by decide) mw667 dX12_carryOut_145 rfl (fun x9 => ?_)
      refine sm_iload_n (i := 2) (j := 0) (pc' := 149) dX12_carryOut_148 rfl rfl rfl ?_
      refine sm_iald (t := 0) (pc' := 150) rfl dX12_carryOut_149 rfl (fun x10 => ?_)
      refine sm_aload_n (i := 0) (j := 1) (pc' := 151) dX12_carryOut_150 rfl rfl rfl ?_
      refine sm_getR (k := 36) (pc' := 154) kX12 (by decide) mw686 dX12_carryOut_151 rfl (fun x11 => ?_)
      refine sm_bipush (v := (16 : Int32)) (pc' := 156) dX12_carryOut_154 rfl (by decide) ?_
      refine sm_iload_n (i := 1) (j := 2) (pc' := 157) dX12_carryOut_156 rfl rfl rfl ?_
      refine sm_imul (pc' := 158) dX12_carryOut_157 rfl ?_
      refine sm_aload_n (i := 0) (j := 1) (pc' := 159) dX12_carryOut_158 rfl rfl rfl ?_
      refine sm_getR (k := 10) (pc' := 162) kX12 (by decide) mw662 dX12_carryOut_159 rfl (fun x12 => ?_)
      refine sm_iload_n (i := 2) (j := 0) (pc' := 163) dX12_carryOut_162 rfl rfl rfl ?_
      refine sm_iald (t := 0) (pc' := 164) rfl dX12_carryOut_163 rfl (fun x13 => ?_)
      refine sm_iadd (pc' := 165) dX12_carryOut_164 rfl ?_
      refine sm_lald (t := 1) (pc' := 166) rfl dX12_carryOut_165 rfl (fun x14 => ?_)
      refine sm_cVI (pc' := 169) (ci := 12) (st := []) (F := fun b => fX12_placeOf b x10 x14 h6) [vI x10, vJ x14] yY_yX12_placeOf rfl mw736 mw737 mw738 (fun b => mX12_placeOf l D aC B b x10 x14 h6) rfl (by decide) (by decide) (by exact Nat.le_of_ble_eq_true rfl) rfl dX12_carryOut_166 rfl (fun x15 h16 => ?_)
      refine sm_lo (lv' := [(0, vR (some a0)), (1, vI a1), (2, vI x5)]) [1, 2, 0] rfl ?_
      exact sX12_carryOut_169 l D aC B  (fX12_carryOut_102 n) ih a0 a1 x5 x15 h16
    refine sm_iconst (v := (0 : Int32)) (pc' := 140) dX12_carryOut_139 rfl (by decide) ?_
    refine sm_goto (pc' := 169) dX12_carryOut_140 (by decide) ?_
    refine sm_lo (lv' := [(0, vR (some a0)), (1, vI a1), (2, vI x5)]) [1, 2, 0] rfl ?_
    exact sX12_carryOut_169 l D aC B  (fX12_carryOut_102 n) ih a0 a1 x5 (0 : Int32) h6
noncomputable def fX12_carryOut_2  : Nat → Nat → Int32 → sm_H → Option (Unit × sm_H)
  | 0 => fun _ _ _ => none
  | n + 1 => fun a0 a1 h =>
    (sm_I (sm_get h (some a0) 12 46)).bind fun x1 =>
    if x1 ≤ a1 then (
      fX12_carryOut_102 sm_fuel a0 (0 : Int32) h
    ) else
    (sm_R (sm_get h (some a0) 12 36)).bind fun x2 =>
    (sm_R (sm_get h (some a0) 12 37)).bind fun x3 =>
    (sm_aI h x3 0 a1).bind fun x4 =>
    (sm_obj h (some a0) 12).bind fun b26 =>
    sm_cb (fX12_objectOf b26 x2 ((16 : Int32) * a1) x4 (2 : Int32) h) fun x5 h6 =>
    (sm_R (sm_get h6 (some a0) 12 16)).bind fun x7 =>
    (sm_aI h6 x7 2 x5).bind fun x8 =>
    if x8 = 0 then (
      sm_let (a1 + (1 : Int32)) fun x9 =>
      (fX12_carryOut_2 n) a0 x9 h6
    ) else
    (sm_R (sm_get h6 (some a0) 12 39)).bind fun x10 =>
    (sm_aJ h6 x10 1 a1).bind fun x11 =>
    sm_cb (fX12_in x11 (4 : Int64) (5 : Int64) h6) fun x12 h13 =>
    if x12 = 0 then (
      sm_let (a1 + (1 : Int32)) fun x14 =>
      (fX12_carryOut_2 n) a0 x14 h13
    ) else
    (sm_R (sm_get h13 (some a0) 12 15)).bind fun x15 =>
    (sm_aI h13 x15 0 x5).bind fun x16 =>
    (sm_R (sm_get h13 (some a0) 12 36)).bind fun x17 =>
    (sm_R (sm_get h13 (some a0) 12 10)).bind fun x18 =>
    (sm_aI h13 x18 0 x5).bind fun x19 =>
    (sm_aJ h13 x17 1 (((16 : Int32) * a1) + x19)).bind fun x20 =>
    (sm_R (sm_get h13 (some a0) 12 39)).bind fun x21 =>
    (sm_aJ h13 x21 1 a1).bind fun x22 =>
    (sm_obj h13 (some a0) 12).bind fun b25 =>
    sm_cb (fX12_makeRow b25 x16 (x20.toInt32) (x22 - (3 : Int64)) h13) fun _ h23 =>
    sm_let (a1 + (1 : Int32)) fun x24 =>
    (fX12_carryOut_2 n) a0 x24 h23
set_option maxRecDepth 100000 in
set_option maxHeartbeats 4000000 in
theorem sX12_carryOut_2 (l : Launch) (D : va_G) (aC : Nat → ClassId) (B : Nat)   (n : Nat) : ∀ (a0 : Nat) (a1 : Int32) (h : sm_H), zS l D aC B cX12_carryOut 6 RX12 2 52 none "carryOut" vlU (fX12_carryOut_2 n a0 a1 h) 2 [(0, vR (some a0)), (1, vI a1)] [] h := by
  induction n with
  | zero => intro a0 a1 h; exact sm_none
  | succ n ih =>
    intro a0 a1 h
    show zS l D aC B cX12_carryOut 6 RX12 2 52 none "carryOut" vlU (fX12_carryOut_2 (n + 1) a0 a1 h) 2 [(0, vR (some a0)), (1, vI a1)] [] h
    unfold fX12_carryOut_2
    refine sm_iload_n (i := 1) (j := 1) (pc' := 3) dX12_carryOut_2 rfl rfl rfl ?_
    refine sm_aload_n (i := 0) (j := 0) (pc' := 4) dX12_carryOut_3 rfl rfl rfl ?_
    refine sm_getI (k := 46) (pc' := 7) kX12 (by decide) mw778 dX12_carryOut_4 rfl (fun x1 => ?_)
    refine sm_icmp_ge (tgt := 100) (pc' := 10) dX12_carryOut_7 (by decide) rfl ?_ ?_
    · refine sm_iconst (v := (0 : Int32)) (pc' := 101) dX12_carryOut_100 rfl (by decide) ?_
      refine sm_istore_n (i := 1) (lv' := [(1, vI (0 : Int32)), (0, vR (some a0))]) (pc' := 102) dX12_carryOut_101 rfl rfl (by decide) rfl ?_
      refine sm_lo (lv' := [(0, vR (some a0)), (1, vI (0 : Int32))]) [1, 0] rfl ?_
      exact sX12_carryOut_102 l D aC B   sm_fuel a0 (0 : Int32) h
    refine sm_aload_n (i := 0) (j := 0) (pc' := 11) dX12_carryOut_10 rfl rfl rfl ?_
    refine sm_aload_n (i := 0) (j := 0) (pc' := 12) dX12_carryOut_11 rfl rfl rfl ?_
    refine sm_getR (k := 36) (pc' := 15) kX12 (by decide) mw686 dX12_carryOut_12 rfl (fun x2 => ?_)
    refine sm_bipush (v := (16 : Int32)) (pc' := 17) dX12_carryOut_15 rfl (by decide) ?_
    refine sm_iload_n (i := 1) (j := 1) (pc' := 18) dX12_carryOut_17 rfl rfl rfl ?_
    refine sm_imul (pc' := 19) dX12_carryOut_18 rfl ?_
    refine sm_aload_n (i := 0) (j := 0) (pc' := 20) dX12_carryOut_19 rfl rfl rfl ?_
    refine sm_getR (k := 37) (pc' := 23) kX12 (by decide) mw687 dX12_carryOut_20 rfl (fun x3 => ?_)
    refine sm_iload_n (i := 1) (j := 1) (pc' := 24) dX12_carryOut_23 rfl rfl rfl ?_
    refine sm_iald (t := 0) (pc' := 25) rfl dX12_carryOut_24 rfl (fun x4 => ?_)
    refine sm_iconst (v := (2 : Int32)) (pc' := 26) dX12_carryOut_25 rfl (by decide) ?_
    refine sm_cVI (pc' := 29) (ci := 12) (st := []) (F := fun b => fX12_objectOf b x2 ((16 : Int32) * a1) x4 (2 : Int32) h) [vR x2, vI ((16 : Int32) * a1), vI x4, vI (2 : Int32)] yY_yX12_objectOf rfl mw804 mw808 mw809 (fun b => mX12_objectOf l D aC B b x2 ((16 : Int32) * a1) x4 (2 : Int32) h) rfl (by decide) (by decide) (by exact Nat.le_of_ble_eq_true rfl) rfl dX12_carryOut_26 rfl (fun x5 h6 => ?_)
    refine sm_istore_n (i := 2) (lv' := [(2, vI x5), (0, vR (some a0)), (1, vI a1)]) (pc' := 30) dX12_carryOut_29 rfl rfl (by decide) rfl ?_
    refine sm_aload_n (i := 0) (j := 1) (pc' := 31) dX12_carryOut_30 rfl rfl rfl ?_
    refine sm_getR (k := 16) (pc' := 34) kX12 (by decide) mw668 dX12_carryOut_31 rfl (fun x7 => ?_)
    refine sm_iload_n (i := 2) (j := 0) (pc' := 35) dX12_carryOut_34 rfl rfl rfl ?_
    refine sm_zald (t := 2) (pc' := 36) rfl dX12_carryOut_35 rfl (fun x8 => ?_)
    refine sm_if_eq (tgt := 94) (pc' := 39) dX12_carryOut_36 (by decide) rfl ?_ ?_
    · refine sm_iincL (i := 1) (j := 2) (x := a1) (d := (1 : Int32)) (fun x9 => [(1, vI x9), (2, vI x5), (0, vR (some a0))]) (pc' := 97) dX12_carryOut_94 rfl rfl (by decide) (by decide) (fun _ => rfl) (fun x9 => ?_)
      refine sm_goto (pc' := 2) dX12_carryOut_97 (by decide) ?_
      refine sm_lo (lv' := [(0, vR (some a0)), (1, vI x9)]) [2, 0] rfl ?_
      exact ih a0 x9 h6
    refine sm_aload_n (i := 0) (j := 1) (pc' := 40) dX12_carryOut_39 rfl rfl rfl ?_
    refine sm_getR (k := 39) (pc' := 43) kX12 (by decide) mw689 dX12_carryOut_40 rfl (fun x10 => ?_)
    refine sm_iload_n (i := 1) (j := 2) (pc' := 44) dX12_carryOut_43 rfl rfl rfl ?_
    refine sm_lald (t := 1) (pc' := 45) rfl dX12_carryOut_44 rfl (fun x11 => ?_)
    refine sm_ldc2 (v := (4 : Int64)) (pc' := 48) dX12_carryOut_45 rfl mw761 ?_
    refine sm_ldc2 (v := (5 : Int64)) (pc' := 51) dX12_carryOut_48 rfl mw870 ?_
    refine sm_cSI (pc' := 54) (st := []) [vJ x11, vJ (4 : Int64), vJ (5 : Int64)] yY_yX12_in mw701 mw702 (mX12_in l D aC B x11 (4 : Int64) (5 : Int64) h6) rfl (by decide) (by decide) (by exact Nat.le_of_ble_eq_true rfl) rfl dX12_carryOut_51 rfl (fun x12 h13 => ?_)
    refine sm_if_eq (tgt := 94) (pc' := 57) dX12_carryOut_54 (by decide) rfl ?_ ?_
    · refine sm_iincL (i := 1) (j := 2) (x := a1) (d := (1 : Int32)) (fun x14 => [(1, vI x14), (2, vI x5), (0, vR (some a0))]) (pc' := 97) dX12_carryOut_94 rfl rfl (by decide) (by decide) (fun _ => rfl) (fun x14 => ?_)
      refine sm_goto (pc' := 2) dX12_carryOut_97 (by decide) ?_
      refine sm_lo (lv' := [(0, vR (some a0)), (1, vI x14)]) [2, 0] rfl ?_
      exact ih a0 x14 h13
    refine sm_aload_n (i := 0) (j := 1) (pc' := 58) dX12_carryOut_57 rfl rfl rfl ?_
    refine sm_aload_n (i := 0) (j := 1) (pc' := 59) dX12_carryOut_58 rfl rfl rfl ?_
    refine sm_getR (k := 15) (pc' := 62) kX12 (by decide) mw667 dX12_carryOut_59 rfl (fun x15 => ?_)
    refine sm_iload_n (i := 2) (j := 0) (pc' := 63) dX12_carryOut_62 rfl rfl rfl ?_
    refine sm_iald (t := 0) (pc' := 64) rfl dX12_carryOut_63 rfl (fun x16 => ?_)
    refine sm_aload_n (i := 0) (j := 1) (pc' := 65) dX12_carryOut_64 rfl rfl rfl ?_
    refine sm_getR (k := 36) (pc' := 68) kX12 (by decide) mw686 dX12_carryOut_65 rfl (fun x17 => ?_)
    refine sm_bipush (v := (16 : Int32)) (pc' := 70) dX12_carryOut_68 rfl (by decide) ?_
    refine sm_iload_n (i := 1) (j := 2) (pc' := 71) dX12_carryOut_70 rfl rfl rfl ?_
    refine sm_imul (pc' := 72) dX12_carryOut_71 rfl ?_
    refine sm_aload_n (i := 0) (j := 1) (pc' := 73) dX12_carryOut_72 rfl rfl rfl ?_
    refine sm_getR (k := 10) (pc' := 76) kX12 (by decide) mw662 dX12_carryOut_73 rfl (fun x18 => ?_)
    refine sm_iload_n (i := 2) (j := 0) (pc' := 77) dX12_carryOut_76 rfl rfl rfl ?_
    refine sm_iald (t := 0) (pc' := 78) rfl dX12_carryOut_77 rfl (fun x19 => ?_)
    refine sm_iadd (pc' := 79) dX12_carryOut_78 rfl ?_
    refine sm_lald (t := 1) (pc' := 80) rfl dX12_carryOut_79 rfl (fun x20 => ?_)
    refine sm_l2i (pc' := 81) dX12_carryOut_80 rfl ?_
    refine sm_aload_n (i := 0) (j := 1) (pc' := 82) dX12_carryOut_81 rfl rfl rfl ?_
    refine sm_getR (k := 39) (pc' := 85) kX12 (by decide) mw689 dX12_carryOut_82 rfl (fun x21 => ?_)
    refine sm_iload_n (i := 1) (j := 2) (pc' := 86) dX12_carryOut_85 rfl rfl rfl ?_
    refine sm_lald (t := 1) (pc' := 87) rfl dX12_carryOut_86 rfl (fun x22 => ?_)
    refine sm_ldc2 (v := (3 : Int64)) (pc' := 90) dX12_carryOut_87 rfl mw874 ?_
    refine sm_lsub (pc' := 91) dX12_carryOut_90 rfl ?_
    refine sm_cVU (pc' := 94) (ci := 12) (st := []) (F := fun b => fX12_makeRow b x16 (x20.toInt32) (x22 - (3 : Int64)) h13) [vI x16, vI (x20.toInt32), vJ (x22 - (3 : Int64))] yY_yX12_makeRow rfl mw730 mw731 mw732 (fun b => mX12_makeRow l D aC B b x16 (x20.toInt32) (x22 - (3 : Int64)) h13) rfl (by decide) (by decide) (by exact Nat.le_of_ble_eq_true rfl) rfl dX12_carryOut_91 rfl (fun _ h23 => ?_)
    refine sm_iincL (i := 1) (j := 2) (x := a1) (d := (1 : Int32)) (fun x24 => [(1, vI x24), (2, vI x5), (0, vR (some a0))]) (pc' := 97) dX12_carryOut_94 rfl rfl (by decide) (by decide) (fun _ => rfl) (fun x24 => ?_)
    refine sm_goto (pc' := 2) dX12_carryOut_97 (by decide) ?_
    refine sm_lo (lv' := [(0, vR (some a0)), (1, vI x24)]) [2, 0] rfl ?_
    exact ih a0 x24 h23
noncomputable def fX12_carryOut  (a0 : Nat) (h : sm_H) : Option (Unit × sm_H) :=
  fX12_carryOut_2 sm_fuel a0 (0 : Int32) h
set_option maxRecDepth 100000 in
set_option maxHeartbeats 4000000 in
theorem sX12_carryOut_0 (l : Launch) (D : va_G) (aC : Nat → ClassId) (B : Nat)   (a0 : Nat) (h : sm_H) : zS l D aC B cX12_carryOut 6 RX12 2 52 none "carryOut" vlU (fX12_carryOut a0 h) 0 [(0, vR (some a0))] [] h := by
  unfold fX12_carryOut
  refine sm_iconst (v := (0 : Int32)) (pc' := 1) dX12_carryOut_0 rfl (by decide) ?_
  refine sm_istore_n (i := 1) (lv' := [(1, vI (0 : Int32)), (0, vR (some a0))]) (pc' := 2) dX12_carryOut_1 rfl rfl (by decide) rfl ?_
  refine sm_lo (lv' := [(0, vR (some a0)), (1, vI (0 : Int32))]) [1, 0] rfl ?_
  exact sX12_carryOut_2 l D aC B   sm_fuel a0 (0 : Int32) h
set_option maxRecDepth 100000 in
theorem mX12_carryOut (l : Launch) (D : va_G) (aC : Nat → ClassId) (B : Nat) (a0 : Nat) (h : sm_H) : sm_M l D vwCl gAts aC B gTs gNs gOs yX12_carryOut cX12_carryOut 6 none 2 52 vlU [vR (some a0)] h (fX12_carryOut a0 h) := sm_meth [vR (some a0)] yY_yX12_carryOut gG gN (Nat.le_of_ble_eq_true rfl) rfl (sX12_carryOut_0 l D aC B a0 h)
-- M:TreeAgentModel.find()V
noncomputable def fX12_find_41 (K2 : Nat → Int32 → sm_H → Option (Unit × sm_H)) (a0 : Nat) (a1 : Int32) (h : sm_H) : Option (Unit × sm_H) :=
  (sm_I (sm_get h (some a0) 12 48)).bind fun x1 =>
  if x1 = 0 then (
    (sm_R (sm_get h (some a0) 12 38)).bind fun x3 =>
    (sm_aI h x3 0 ((20 : Int32) + a1)).bind fun x4 =>
    if x4 ≤ (127 : Int32) then (
      sm_let (a1 + (1 : Int32)) fun x5 =>
      K2 a0 x5 h
    ) else
    (sm_I (sm_get h (some a0) 12 56)).bind fun x6 =>
    if x6 = 0 then (
      (sm_put h (some a0) 12 56 (sm_v (vI (2 : Int32)))).bind fun h8 =>
      (sm_put h8 (some a0) 12 57 (sm_v (vI (a1 + (1 : Int32))))).bind fun h9 =>
      sm_let (a1 + (1 : Int32)) fun x10 =>
      K2 a0 x10 h9
    ) else
    sm_let (a1 + (1 : Int32)) fun x7 =>
    K2 a0 x7 h
  ) else
  sm_let (a1 + (1 : Int32)) fun x2 =>
  K2 a0 x2 h
set_option maxRecDepth 100000 in
set_option maxHeartbeats 4000000 in
theorem sX12_find_41 (l : Launch) (D : va_G) (aC : Nat → ClassId) (B : Nat) (K2 : Nat → Int32 → sm_H → Option (Unit × sm_H)) (hK2 : ∀ (a0 : Nat) (a1 : Int32) (h : sm_H), zS l D aC B cX12_find 2 RX12 3 82 none "find" vlU (K2 a0 a1 h) 2 [(0, vR (some a0)), (1, vI a1)] [] h) (a0 : Nat) (a1 : Int32) (h : sm_H) : zS l D aC B cX12_find 2 RX12 3 82 none "find" vlU (fX12_find_41 K2 a0 a1 h) 41 [(0, vR (some a0)), (1, vI a1)] [] h := by
  unfold fX12_find_41
  refine sm_aload_n (i := 0) (j := 0) (pc' := 42) dX12_find_41 rfl rfl rfl ?_
  refine sm_getI (k := 48) (pc' := 45) kX12 (by decide) mw795 dX12_find_42 rfl (fun x1 => ?_)
  refine sm_if_ne (tgt := 81) (pc' := 48) dX12_find_45 (by decide) rfl ?_ ?_
  · refine sm_iincL (i := 1) (j := 1) (x := a1) (d := (1 : Int32)) (fun x2 => [(1, vI x2), (0, vR (some a0))]) (pc' := 84) dX12_find_81 rfl rfl (by decide) (by decide) (fun _ => rfl) (fun x2 => ?_)
    refine sm_goto (pc' := 2) dX12_find_84 (by decide) ?_
    refine sm_lo (lv' := [(0, vR (some a0)), (1, vI x2)]) [1, 0] rfl ?_
    exact hK2 a0 x2 h
  refine sm_aload_n (i := 0) (j := 0) (pc' := 49) dX12_find_48 rfl rfl rfl ?_
  refine sm_getR (k := 38) (pc' := 52) kX12 (by decide) mw688 dX12_find_49 rfl (fun x3 => ?_)
  refine sm_bipush (v := (20 : Int32)) (pc' := 54) dX12_find_52 rfl (by decide) ?_
  refine sm_iload_n (i := 1) (j := 1) (pc' := 55) dX12_find_54 rfl rfl rfl ?_
  refine sm_iadd (pc' := 56) dX12_find_55 rfl ?_
  refine sm_iald (t := 0) (pc' := 57) rfl dX12_find_56 rfl (fun x4 => ?_)
  refine sm_bipush (v := (127 : Int32)) (pc' := 59) dX12_find_57 rfl (by decide) ?_
  refine sm_icmp_le (tgt := 81) (pc' := 62) dX12_find_59 (by decide) rfl ?_ ?_
  · refine sm_iincL (i := 1) (j := 1) (x := a1) (d := (1 : Int32)) (fun x5 => [(1, vI x5), (0, vR (some a0))]) (pc' := 84) dX12_find_81 rfl rfl (by decide) (by decide) (fun _ => rfl) (fun x5 => ?_)
    refine sm_goto (pc' := 2) dX12_find_84 (by decide) ?_
    refine sm_lo (lv' := [(0, vR (some a0)), (1, vI x5)]) [1, 0] rfl ?_
    exact hK2 a0 x5 h
  refine sm_aload_n (i := 0) (j := 0) (pc' := 63) dX12_find_62 rfl rfl rfl ?_
  refine sm_getI (k := 56) (pc' := 66) kX12 (by decide) mw835 dX12_find_63 rfl (fun x6 => ?_)
  refine sm_if_ne (tgt := 81) (pc' := 69) dX12_find_66 (by decide) rfl ?_ ?_
  · refine sm_iincL (i := 1) (j := 1) (x := a1) (d := (1 : Int32)) (fun x7 => [(1, vI x7), (0, vR (some a0))]) (pc' := 84) dX12_find_81 rfl rfl (by decide) (by decide) (fun _ => rfl) (fun x7 => ?_)
    refine sm_goto (pc' := 2) dX12_find_84 (by decide) ?_
    refine sm_lo (lv' := [(0, vR (some a0)), (1, vI x7)]) [1, 0] rfl ?_
    exact hK2 a0 x7 h
  refine sm_aload_n (i := 0) (j := 0) (pc' := 70) dX12_find_69 rfl rfl rfl ?_
  refine sm_iconst (v := (2 : Int32)) (pc' := 71) dX12_find_70 rfl (by decide) ?_
  refine sm_putI (k := 56) (pc' := 74) kX12 (by decide) mw835 rfl rfl dX12_find_71 rfl (fun h8 => ?_)
  refine sm_aload_n (i := 0) (j := 0) (pc' := 75) dX12_find_74 rfl rfl rfl ?_
  refine sm_iload_n (i := 1) (j := 1) (pc' := 76) dX12_find_75 rfl rfl rfl ?_
  refine sm_iconst (v := (1 : Int32)) (pc' := 77) dX12_find_76 rfl (by decide) ?_
  refine sm_iadd (pc' := 78) dX12_find_77 rfl ?_
  refine sm_putI (k := 57) (pc' := 81) kX12 (by decide) mw836 rfl rfl dX12_find_78 rfl (fun h9 => ?_)
  refine sm_iincL (i := 1) (j := 1) (x := a1) (d := (1 : Int32)) (fun x10 => [(1, vI x10), (0, vR (some a0))]) (pc' := 84) dX12_find_81 rfl rfl (by decide) (by decide) (fun _ => rfl) (fun x10 => ?_)
  refine sm_goto (pc' := 2) dX12_find_84 (by decide) ?_
  refine sm_lo (lv' := [(0, vR (some a0)), (1, vI x10)]) [1, 0] rfl ?_
  exact hK2 a0 x10 h9
noncomputable def fX12_find_2  : Nat → Nat → Int32 → sm_H → Option (Unit × sm_H)
  | 0 => fun _ _ _ => none
  | n + 1 => fun a0 a1 h =>
    (sm_I (sm_get h (some a0) 12 46)).bind fun x1 =>
    if x1 ≤ a1 then (
      (sm_I (sm_get h (some a0) 12 46)).bind fun x2 =>
      (sm_put h (some a0) 12 47 (sm_v (vI x2))).bind fun h3 =>
      some ((), h3)
    ) else
    (sm_I (sm_get h (some a0) 12 52)).bind fun x4 =>
    if x4 = (160 : Int32) then (
      (sm_obj h (some a0) 12).bind fun b8 =>
      sm_cb (fX12_get b8 a1 ((20 : Int32) + a1) h) fun _ h7 =>
      fX12_find_41 (fX12_find_2 n) a0 a1 h7
    ) else
    (sm_obj h (some a0) 12).bind fun b6 =>
    sm_cb (fX12_next b6 a1 ((20 : Int32) + a1) h) fun _ h5 =>
    fX12_find_41 (fX12_find_2 n) a0 a1 h5
set_option maxRecDepth 100000 in
set_option maxHeartbeats 4000000 in
theorem sX12_find_2 (l : Launch) (D : va_G) (aC : Nat → ClassId) (B : Nat)   (n : Nat) : ∀ (a0 : Nat) (a1 : Int32) (h : sm_H), zS l D aC B cX12_find 2 RX12 3 82 none "find" vlU (fX12_find_2 n a0 a1 h) 2 [(0, vR (some a0)), (1, vI a1)] [] h := by
  induction n with
  | zero => intro a0 a1 h; exact sm_none
  | succ n ih =>
    intro a0 a1 h
    show zS l D aC B cX12_find 2 RX12 3 82 none "find" vlU (fX12_find_2 (n + 1) a0 a1 h) 2 [(0, vR (some a0)), (1, vI a1)] [] h
    unfold fX12_find_2
    refine sm_iload_n (i := 1) (j := 1) (pc' := 3) dX12_find_2 rfl rfl rfl ?_
    refine sm_aload_n (i := 0) (j := 0) (pc' := 4) dX12_find_3 rfl rfl rfl ?_
    refine sm_getI (k := 46) (pc' := 7) kX12 (by decide) mw778 dX12_find_4 rfl (fun x1 => ?_)
    refine sm_icmp_ge (tgt := 87) (pc' := 10) dX12_find_7 (by decide) rfl ?_ ?_
    · refine sm_aload_n (i := 0) (j := 0) (pc' := 88) dX12_find_87 rfl rfl rfl ?_
      refine sm_aload_n (i := 0) (j := 0) (pc' := 89) dX12_find_88 rfl rfl rfl ?_
      refine sm_getI (k := 46) (pc' := 92) kX12 (by decide) mw778 dX12_find_89 rfl (fun x2 => ?_)
      refine sm_putI (k := 47) (pc' := 95) kX12 (by decide) mw860 rfl rfl dX12_find_92 rfl (fun h3 => ?_)
      exact sm_vret rfl dX12_find_95
    refine sm_aload_n (i := 0) (j := 0) (pc' := 11) dX12_find_10 rfl rfl rfl ?_
    refine sm_getI (k := 52) (pc' := 14) kX12 (by decide) mw794 dX12_find_11 rfl (fun x4 => ?_)
    refine sm_sipush (v := (160 : Int32)) (pc' := 17) dX12_find_14 rfl (by decide) ?_
    refine sm_icmp_ne (tgt := 32) (pc' := 20) dX12_find_17 (by decide) rfl ?_ ?_
    · refine sm_aload_n (i := 0) (j := 0) (pc' := 33) dX12_find_32 rfl rfl rfl ?_
      refine sm_iload_n (i := 1) (j := 1) (pc' := 34) dX12_find_33 rfl rfl rfl ?_
      refine sm_bipush (v := (20 : Int32)) (pc' := 36) dX12_find_34 rfl (by decide) ?_
      refine sm_iload_n (i := 1) (j := 1) (pc' := 37) dX12_find_36 rfl rfl rfl ?_
      refine sm_iadd (pc' := 38) dX12_find_37 rfl ?_
      refine sm_cVU (pc' := 41) (ci := 12) (st := []) (F := fun b => fX12_next b a1 ((20 : Int32) + a1) h) [vI a1, vI ((20 : Int32) + a1)] yY_yX12_next rfl mw861 mw865 mw866 (fun b => mX12_next l D aC B b a1 ((20 : Int32) + a1) h) rfl (by decide) (by decide) (by exact Nat.le_of_ble_eq_true rfl) rfl dX12_find_38 rfl (fun _ h5 => ?_)
      exact sX12_find_41 l D aC B  (fX12_find_2 n) ih a0 a1 h5
    refine sm_aload_n (i := 0) (j := 0) (pc' := 21) dX12_find_20 rfl rfl rfl ?_
    refine sm_iload_n (i := 1) (j := 1) (pc' := 22) dX12_find_21 rfl rfl rfl ?_
    refine sm_bipush (v := (20 : Int32)) (pc' := 24) dX12_find_22 rfl (by decide) ?_
    refine sm_iload_n (i := 1) (j := 1) (pc' := 25) dX12_find_24 rfl rfl rfl ?_
    refine sm_iadd (pc' := 26) dX12_find_25 rfl ?_
    refine sm_cVU (pc' := 29) (ci := 12) (st := []) (F := fun b => fX12_get b a1 ((20 : Int32) + a1) h) [vI a1, vI ((20 : Int32) + a1)] yY_yX12_get rfl mw881 mw882 mw883 (fun b => mX12_get l D aC B b a1 ((20 : Int32) + a1) h) rfl (by decide) (by decide) (by exact Nat.le_of_ble_eq_true rfl) rfl dX12_find_26 rfl (fun _ h7 => ?_)
    refine sm_goto (pc' := 41) dX12_find_29 (by decide) ?_
    exact sX12_find_41 l D aC B  (fX12_find_2 n) ih a0 a1 h7
noncomputable def fX12_find  (a0 : Nat) (h : sm_H) : Option (Unit × sm_H) :=
  fX12_find_2 sm_fuel a0 (0 : Int32) h
set_option maxRecDepth 100000 in
set_option maxHeartbeats 4000000 in
theorem sX12_find_0 (l : Launch) (D : va_G) (aC : Nat → ClassId) (B : Nat)   (a0 : Nat) (h : sm_H) : zS l D aC B cX12_find 2 RX12 3 82 none "find" vlU (fX12_find a0 h) 0 [(0, vR (some a0))] [] h := by
  unfold fX12_find
  refine sm_iconst (v := (0 : Int32)) (pc' := 1) dX12_find_0 rfl (by decide) ?_
  refine sm_istore_n (i := 1) (lv' := [(1, vI (0 : Int32)), (0, vR (some a0))]) (pc' := 2) dX12_find_1 rfl rfl (by decide) rfl ?_
  refine sm_lo (lv' := [(0, vR (some a0)), (1, vI (0 : Int32))]) [1, 0] rfl ?_
  exact sX12_find_2 l D aC B   sm_fuel a0 (0 : Int32) h
set_option maxRecDepth 100000 in
theorem mX12_find (l : Launch) (D : va_G) (aC : Nat → ClassId) (B : Nat) (a0 : Nat) (h : sm_H) : sm_M l D vwCl gAts aC B gTs gNs gOs yX12_find cX12_find 2 none 3 82 vlU [vR (some a0)] h (fX12_find a0 h) := sm_meth [vR (some a0)] yY_yX12_find gG gN (Nat.le_of_ble_eq_true rfl) rfl (sX12_find_0 l D aC B a0 h)
