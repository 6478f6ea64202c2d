-- M:TreeAgentModel.write(II)V
noncomputable def fX12_write_137  : Nat → Nat → Int32 → Int32 → Int32 → sm_H → Option (Unit × sm_H)
  | 0 => fun _ _ _ _ _ => none
  | n + 1 => fun a0 a1 a2 a3 h =>
    if (a1 + a2) ≤ a3 then (
      (sm_I (sm_get h (some a0) 12 64)).bind fun x1 =>
      (sm_put h (some a0) 12 65 (sm_v (vI x1))).bind fun h2 =>
      some ((), h2)
    ) else
    (sm_obj h (some a0) 12).bind fun b15 =>
    sm_cb (fX12_rowOctets b15 a3 h) fun x3 h4 =>
    (sm_obj h4 (some a0) 12).bind fun b14 =>
    sm_cb (fX12_head b14 (48 : Int32) x3 h4) fun _ h5 =>
    (sm_R (sm_get h5 (some a0) 12 36)).bind fun x6 =>
    (sm_R (sm_get h5 (some a0) 12 37)).bind fun x7 =>
    (sm_aI h5 x7 0 a3).bind fun x8 =>
    (sm_obj h5 (some a0) 12).bind fun b13 =>
    sm_cb (fX12_names b13 x6 ((16 : Int32) * a3) x8 h5) fun _ h9 =>
    (sm_obj h9 (some a0) 12).bind fun b12 =>
    sm_cb (fX12_writeValue b12 a3 h9) fun _ h10 =>
    sm_let (a3 + (1 : Int32)) fun x11 =>
    (fX12_write_137 n) a0 a1 a2 x11 h10
set_option maxRecDepth 100000 in
set_option maxHeartbeats 4000000 in
theorem sX12_write_137 (l : Launch) (D : va_G) (aC : Nat → ClassId) (B : Nat)   (n : Nat) : ∀ (a0 : Nat) (a1 : Int32) (a2 : Int32) (a3 : Int32) (h : sm_H), zS l D aC B cX12_write 4 RX12 6 135 none "write" vlU (fX12_write_137 n a0 a1 a2 a3 h) 137 [(0, vR (some a0)), (1, vI a1), (2, vI a2), (3, vI a3)] [] h := by
  induction n with
  | zero => intro a0 a1 a2 a3 h; exact sm_none
  | succ n ih =>
    intro a0 a1 a2 a3 h
    show zS l D aC B cX12_write 4 RX12 6 135 none "write" vlU (fX12_write_137 (n + 1) a0 a1 a2 a3 h) 137 [(0, vR (some a0)), (1, vI a1), (2, vI a2), (3, vI a3)] [] h
    unfold fX12_write_137
    refine sm_iload_n (i := 3) (j := 3) (pc' := 138) dX12_write_137 rfl rfl rfl ?_
    refine sm_iload_n (i := 1) (j := 1) (pc' := 139) dX12_write_138 rfl rfl rfl ?_
    refine sm_iload_n (i := 2) (j := 2) (pc' := 140) dX12_write_139 rfl rfl rfl ?_
    refine sm_iadd (pc' := 141) dX12_write_140 rfl ?_
    refine sm_icmp_ge (tgt := 184) (pc' := 144) dX12_write_141 (by decide) rfl ?_ ?_
    · refine sm_aload_n (i := 0) (j := 0) (pc' := 185) dX12_write_184 rfl rfl rfl ?_
      refine sm_aload_n (i := 0) (j := 0) (pc' := 186) dX12_write_185 rfl rfl rfl ?_
      refine sm_getI (k := 64) (pc' := 189) kX12 (by decide) mw843 dX12_write_186 rfl (fun x1 => ?_)
      refine sm_putI (k := 65) (pc' := 192) kX12 (by decide) mw856 rfl rfl dX12_write_189 rfl (fun h2 => ?_)
      exact sm_vret rfl dX12_write_192
    refine sm_aload_n (i := 0) (j := 0) (pc' := 145) dX12_write_144 rfl rfl rfl ?_
    refine sm_bipush (v := (48 : Int32)) (pc' := 147) dX12_write_145 rfl (by decide) ?_
    refine sm_aload_n (i := 0) (j := 0) (pc' := 148) dX12_write_147 rfl rfl rfl ?_
    refine sm_iload_n (i := 3) (j := 3) (pc' := 149) dX12_write_148 rfl rfl rfl ?_
    refine sm_cVI (pc' := 152) (ci := 12) (st := [vI (48 : Int32), vR (some a0)]) (F := fun b => fX12_rowOctets b a3 h) [vI a3] yY_yX12_rowOctets rfl mw832 mw833 mw834 (fun b => mX12_rowOctets l D aC B b a3 h) rfl (by decide) (by decide) (by exact Nat.le_of_ble_eq_true rfl) rfl dX12_write_149 rfl (fun x3 h4 => ?_)
    refine sm_cVU (pc' := 155) (ci := 12) (st := []) (F := fun b => fX12_head b (48 : Int32) x3 h4) [vI (48 : Int32), vI x3] yY_yX12_head rfl mw847 mw848 mw849 (fun b => mX12_head l D aC B b (48 : Int32) x3 h4) rfl (by decide) (by decide) (by exact Nat.le_of_ble_eq_true rfl) rfl dX12_write_152 rfl (fun _ h5 => ?_)
    refine sm_aload_n (i := 0) (j := 0) (pc' := 156) dX12_write_155 rfl rfl rfl ?_
    refine sm_aload_n (i := 0) (j := 0) (pc' := 157) dX12_write_156 rfl rfl rfl ?_
    refine sm_getR (k := 36) (pc' := 160) kX12 (by decide) mw686 dX12_write_157 rfl (fun x6 => ?_)
    refine sm_bipush (v := (16 : Int32)) (pc' := 162) dX12_write_160 rfl (by decide) ?_
    refine sm_iload_n (i := 3) (j := 3) (pc' := 163) dX12_write_162 rfl rfl rfl ?_
    refine sm_imul (pc' := 164) dX12_write_163 rfl ?_
    refine sm_aload_n (i := 0) (j := 0) (pc' := 165) dX12_write_164 rfl rfl rfl ?_
    refine sm_getR (k := 37) (pc' := 168) kX12 (by decide) mw687 dX12_write_165 rfl (fun x7 => ?_)
    refine sm_iload_n (i := 3) (j := 3) (pc' := 169) dX12_write_168 rfl rfl rfl ?_
    refine sm_iald (t := 0) (pc' := 170) rfl dX12_write_169 rfl (fun x8 => ?_)
    refine sm_cVU (pc' := 173) (ci := 12) (st := []) (F := fun b => fX12_names b x6 ((16 : Int32) * a3) x8 h5) [vR x6, vI ((16 : Int32) * a3), vI x8] yY_yX12_names rfl mw853 mw854 mw855 (fun b => mX12_names l D aC B b x6 ((16 : Int32) * a3) x8 h5) rfl (by decide) (by decide) (by exact Nat.le_of_ble_eq_true rfl) rfl dX12_write_170 rfl (fun _ h9 => ?_)
    refine sm_aload_n (i := 0) (j := 0) (pc' := 174) dX12_write_173 rfl rfl rfl ?_
    refine sm_iload_n (i := 3) (j := 3) (pc' := 175) dX12_write_174 rfl rfl rfl ?_
    refine sm_cVU (pc' := 178) (ci := 12) (st := []) (F := fun b => fX12_writeValue b a3 h9) [vI a3] yY_yX12_writeValue rfl mw857 mw858 mw859 (fun b => mX12_writeValue l D aC B b a3 h9) rfl (by decide) (by decide) (by exact Nat.le_of_ble_eq_true rfl) rfl dX12_write_175 rfl (fun _ h10 => ?_)
    refine sm_iincL (i := 3) (j := 3) (x := a3) (d := (1 : Int32)) (fun x11 => [(3, vI x11), (0, vR (some a0)), (1, vI a1), (2, vI a2)]) (pc' := 181) dX12_write_178 rfl rfl (by decide) (by decide) (fun _ => rfl) (fun x11 => ?_)
    refine sm_goto (pc' := 137) dX12_write_181 (by decide) ?_
    refine sm_lo (lv' := [(0, vR (some a0)), (1, vI a1), (2, vI a2), (3, vI x11)]) [1, 2, 3, 0] rfl ?_
    exact ih a0 a1 a2 x11 h10
noncomputable def fX12_write_51  : Nat → Nat → Int32 → Int32 → Int32 → sm_H → Option (Unit × sm_H)
  | 0 => fun _ _ _ _ _ => none
  | n + 1 => fun a0 a1 a2 a3 h =>
    (sm_I (sm_get h (some a0) 12 51)).bind fun x1 =>
    if x1 ≤ a3 then (
      (sm_obj h (some a0) 12).bind fun b20 =>
      sm_cb (fX12_bodyOctets b20 a1 a2 h) fun x2 h3 =>
      (sm_obj h3 (some a0) 12).bind fun b19 =>
      sm_cb (fX12_head b19 (162 : Int32) x2 h3) fun _ h4 =>
      (sm_I (sm_get h4 (some a0) 12 53)).bind fun x5 =>
      (sm_obj h4 (some a0) 12).bind fun b18 =>
      sm_cb (fX12_writeNumber b18 (2 : Int32) (x5.toInt64) h4) fun _ h6 =>
      (sm_I (sm_get h6 (some a0) 12 56)).bind fun x7 =>
      (sm_obj h6 (some a0) 12).bind fun b17 =>
      sm_cb (fX12_writeNumber b17 (2 : Int32) (x7.toInt64) h6) fun _ h8 =>
      (sm_I (sm_get h8 (some a0) 12 57)).bind fun x9 =>
      (sm_obj h8 (some a0) 12).bind fun b16 =>
      sm_cb (fX12_writeNumber b16 (2 : Int32) (x9.toInt64) h8) fun _ h10 =>
      (sm_obj h10 (some a0) 12).bind fun b15 =>
      sm_cb (fX12_rowsOctets b15 a1 a2 h10) fun x11 h12 =>
      (sm_obj h12 (some a0) 12).bind fun b14 =>
      sm_cb (fX12_head b14 (48 : Int32) x11 h12) fun _ h13 =>
      fX12_write_137 sm_fuel a0 a1 a2 a1 h13
    ) else
    (sm_R (sm_get h (some a0) 12 1)).bind fun x21 =>
    (sm_I (sm_get h (some a0) 12 50)).bind fun x22 =>
    (sm_aI h x21 3 (x22 + a3)).bind fun x23 =>
    (sm_obj h (some a0) 12).bind fun b26 =>
    sm_cb (fX12_put b26 x23 h) fun _ h24 =>
    sm_let (a3 + (1 : Int32)) fun x25 =>
    (fX12_write_51 n) a0 a1 a2 x25 h24
set_option maxRecDepth 100000 in
set_option maxHeartbeats 4000000 in
theorem sX12_write_51 (l : Launch) (D : va_G) (aC : Nat → ClassId) (B : Nat)   (n : Nat) : ∀ (a0 : Nat) (a1 : Int32) (a2 : Int32) (a3 : Int32) (h : sm_H), zS l D aC B cX12_write 4 RX12 6 135 none "write" vlU (fX12_write_51 n a0 a1 a2 a3 h) 51 [(0, vR (some a0)), (1, vI a1), (2, vI a2), (3, vI a3)] [] h := by
  induction n with
  | zero => intro a0 a1 a2 a3 h; exact sm_none
  | succ n ih =>
    intro a0 a1 a2 a3 h
    show zS l D aC B cX12_write 4 RX12 6 135 none "write" vlU (fX12_write_51 (n + 1) a0 a1 a2 a3 h) 51 [(0, vR (some a0)), (1, vI a1), (2, vI a2), (3, vI a3)] [] h
    unfold fX12_write_51
    refine sm_iload_n (i := 3) (j := 3) (pc' := 52) dX12_write_51 rfl rfl rfl ?_
    refine sm_aload_n (i := 0) (j := 0) (pc' := 53) dX12_write_52 rfl rfl rfl ?_
    refine sm_getI (k := 51) (pc' := 56) kX12 (by decide) mw792 dX12_write_53 rfl (fun x1 => ?_)
    refine sm_icmp_ge (tgt := 80) (pc' := 59) dX12_write_56 (by decide) rfl ?_ ?_
    · refine sm_aload_n (i := 0) (j := 0) (pc' := 81) dX12_write_80 rfl rfl rfl ?_
      refine sm_sipush (v := (162 : Int32)) (pc' := 84) dX12_write_81 rfl (by decide) ?_
      refine sm_aload_n (i := 0) (j := 0) (pc' := 85) dX12_write_84 rfl rfl rfl ?_
      refine sm_iload_n (i := 1) (j := 1) (pc' := 86) dX12_write_85 rfl rfl rfl ?_
      refine sm_iload_n (i := 2) (j := 2) (pc' := 87) dX12_write_86 rfl rfl rfl ?_
      refine sm_cVI (pc' := 90) (ci := 12) (st := [vI (162 : Int32), vR (some a0)]) (F := fun b => fX12_bodyOctets b a1 a2 h) [vI a1, vI a2] yY_yX12_bodyOctets rfl mw840 mw841 mw842 (fun b => mX12_bodyOctets l D aC B b a1 a2 h) rfl (by decide) (by decide) (by exact Nat.le_of_ble_eq_true rfl) rfl dX12_write_87 rfl (fun x2 h3 => ?_)
      refine sm_cVU (pc' := 93) (ci := 12) (st := []) (F := fun b => fX12_head b (162 : Int32) x2 h3) [vI (162 : Int32), vI x2] yY_yX12_head rfl mw847 mw848 mw849 (fun b => mX12_head l D aC B b (162 : Int32) x2 h3) rfl (by decide) (by decide) (by exact Nat.le_of_ble_eq_true rfl) rfl dX12_write_90 rfl (fun _ h4 => ?_)
      refine sm_aload_n (i := 0) (j := 0) (pc' := 94) dX12_write_93 rfl rfl rfl ?_
      refine sm_iconst (v := (2 : Int32)) (pc' := 95) dX12_write_94 rfl (by decide) ?_
      refine sm_aload_n (i := 0) (j := 0) (pc' := 96) dX12_write_95 rfl rfl rfl ?_
      refine sm_getI (k := 53) (pc' := 99) kX12 (by decide) mw790 dX12_write_96 rfl (fun x5 => ?_)
      refine sm_i2l (pc' := 100) dX12_write_99 rfl ?_
      refine sm_cVU (pc' := 103) (ci := 12) (st := []) (F := fun b => fX12_writeNumber b (2 : Int32) (x5.toInt64) h4) [vI (2 : Int32), vJ (x5.toInt64)] yY_yX12_writeNumber rfl mw850 mw851 mw852 (fun b => mX12_writeNumber l D aC B b (2 : Int32) (x5.toInt64) h4) rfl (by decide) (by decide) (by exact Nat.le_of_ble_eq_true rfl) rfl dX12_write_100 rfl (fun _ h6 => ?_)
      refine sm_aload_n (i := 0) (j := 0) (pc' := 104) dX12_write_103 rfl rfl rfl ?_
      refine sm_iconst (v := (2 : Int32)) (pc' := 105) dX12_write_104 rfl (by decide) ?_
      refine sm_aload_n (i := 0) (j := 0) (pc' := 106) dX12_write_105 rfl rfl rfl ?_
      refine sm_getI (k := 56) (pc' := 109) kX12 (by decide) mw835 dX12_write_106 rfl (fun x7 => ?_)
      refine sm_i2l (pc' := 110) dX12_write_109 rfl ?_
      refine sm_cVU (pc' := 113) (ci := 12) (st := []) (F := fun b => fX12_writeNumber b (2 : Int32) (x7.toInt64) h6) [vI (2 : Int32), vJ (x7.toInt64)] yY_yX12_writeNumber rfl mw850 mw851 mw852 (fun b => mX12_writeNumber l D aC B b (2 : Int32) (x7.toInt64) h6) rfl (by decide) (by decide) (by exact Nat.le_of_ble_eq_true rfl) rfl dX12_write_110 rfl (fun _ h8 => ?_)
      refine sm_aload_n (i := 0) (j := 0) (pc' := 114) dX12_write_113 rfl rfl rfl ?_
      refine sm_iconst (v := (2 : Int32)) (pc' := 115) dX12_write_114 rfl (by decide) ?_
      refine sm_aload_n (i := 0) (j := 0) (pc' := 116) dX12_write_115 rfl rfl rfl ?_
      refine sm_getI (k := 57) (pc' := 119) kX12 (by decide) mw836 dX12_write_116 rfl (fun x9 => ?_)
      refine sm_i2l (pc' := 120) dX12_write_119 rfl ?_
      refine sm_cVU (pc' := 123) (ci := 12) (st := []) (F := fun b => fX12_writeNumber b (2 : Int32) (x9.toInt64) h8) [vI (2 : Int32), vJ (x9.toInt64)] yY_yX12_writeNumber rfl mw850 mw851 mw852 (fun b => mX12_writeNumber l D aC B b (2 : Int32) (x9.toInt64) h8) rfl (by decide) (by decide) (by exact Nat.le_of_ble_eq_true rfl) rfl dX12_write_120 rfl (fun _ h10 => ?_)
      refine sm_aload_n (i := 0) (j := 0) (pc' := 124) dX12_write_123 rfl rfl rfl ?_
      refine sm_bipush (v := (48 : Int32)) (pc' := 126) dX12_write_124 rfl (by decide) ?_
      refine sm_aload_n (i := 0) (j := 0) (pc' := 127) dX12_write_126 rfl rfl rfl ?_
      refine sm_iload_n (i := 1) (j := 1) (pc' := 128) dX12_write_127 rfl rfl rfl ?_
      refine sm_iload_n (i := 2) (j := 2) (pc' := 129) dX12_write_128 rfl rfl rfl ?_
      refine sm_cVI (pc' := 132) (ci := 12) (st := [vI (48 : Int32), vR (some a0)]) (F := fun b => fX12_rowsOctets b a1 a2 h10) [vI a1, vI a2] yY_yX12_rowsOctets rfl mw837 mw838 mw839 (fun b => mX12_rowsOctets l D aC B b a1 a2 h10) rfl (by decide) (by decide) (by exact Nat.le_of_ble_eq_true rfl) rfl dX12_write_129 rfl (fun x11 h12 => ?_)
      refine sm_cVU (pc' := 135) (ci := 12) (st := []) (F := fun b => fX12_head b (48 : Int32) x11 h12) [vI (48 : Int32), vI x11] yY_yX12_head rfl mw847 mw848 mw849 (fun b => mX12_head l D aC B b (48 : Int32) x11 h12) rfl (by decide) (by decide) (by exact Nat.le_of_ble_eq_true rfl) rfl dX12_write_132 rfl (fun _ h13 => ?_)
      refine sm_iload_n (i := 1) (j := 1) (pc' := 136) dX12_write_135 rfl rfl rfl ?_
      refine sm_istore_n (i := 3) (lv' := [(3, vI a1), (0, vR (some a0)), (1, vI a1), (2, vI a2)]) (pc' := 137) dX12_write_136 rfl rfl (by decide) rfl ?_
      refine sm_lo (lv' := [(0, vR (some a0)), (1, vI a1), (2, vI a2), (3, vI a1)]) [1, 2, 3, 0] rfl ?_
      exact sX12_write_137 l D aC B   sm_fuel a0 a1 a2 a1 h13
    refine sm_aload_n (i := 0) (j := 0) (pc' := 60) dX12_write_59 rfl rfl rfl ?_
    refine sm_aload_n (i := 0) (j := 0) (pc' := 61) dX12_write_60 rfl rfl rfl ?_
    refine sm_getR (k := 1) (pc' := 64) kX12 (by decide) mw657 dX12_write_61 rfl (fun x21 => ?_)
    refine sm_aload_n (i := 0) (j := 0) (pc' := 65) dX12_write_64 rfl rfl rfl ?_
    refine sm_getI (k := 50) (pc' := 68) kX12 (by decide) mw791 dX12_write_65 rfl (fun x22 => ?_)
    refine sm_iload_n (i := 3) (j := 3) (pc' := 69) dX12_write_68 rfl rfl rfl ?_
    refine sm_iadd (pc' := 70) dX12_write_69 rfl ?_
    refine sm_bald (t := 3) (pc' := 71) rfl dX12_write_70 rfl (fun x23 => ?_)
    refine sm_cVU (pc' := 74) (ci := 12) (st := []) (F := fun b => fX12_put b x23 h) [vI x23] yY_yX12_put rfl mw844 mw845 mw846 (fun b => mX12_put l D aC B b x23 h) rfl (by decide) (by decide) (by exact Nat.le_of_ble_eq_true rfl) rfl dX12_write_71 rfl (fun _ h24 => ?_)
    refine sm_iincL (i := 3) (j := 3) (x := a3) (d := (1 : Int32)) (fun x25 => [(3, vI x25), (0, vR (some a0)), (1, vI a1), (2, vI a2)]) (pc' := 77) dX12_write_74 rfl rfl (by decide) (by decide) (fun _ => rfl) (fun x25 => ?_)
    refine sm_goto (pc' := 51) dX12_write_77 (by decide) ?_
    refine sm_lo (lv' := [(0, vR (some a0)), (1, vI a1), (2, vI a2), (3, vI x25)]) [1, 2, 3, 0] rfl ?_
    exact ih a0 a1 a2 x25 h24
noncomputable def fX12_write  (a0 : Nat) (a1 : Int32) (a2 : Int32) (h : sm_H) : Option (Unit × sm_H) :=
  (sm_put h (some a0) 12 64 (sm_v (vI (0 : Int32)))).bind fun h1 =>
  (sm_I (sm_get h1 (some a0) 12 51)).bind fun x2 =>
  sm_cb (fX12_around x2 h1) fun x3 h4 =>
  (sm_obj h4 (some a0) 12).bind fun b17 =>
  sm_cb (fX12_bodyOctets b17 a1 a2 h4) fun x5 h6 =>
  sm_cb (fX12_around x5 h6) fun x7 h8 =>
  (sm_obj h8 (some a0) 12).bind fun b16 =>
  sm_cb (fX12_head b16 (48 : Int32) (((3 : Int32) + x3) + x7) h8) fun _ h9 =>
  (sm_I (sm_get h9 (some a0) 12 48)).bind fun x10 =>
  (sm_obj h9 (some a0) 12).bind fun b15 =>
  sm_cb (fX12_writeNumber b15 (2 : Int32) (x10.toInt64) h9) fun _ h11 =>
  (sm_I (sm_get h11 (some a0) 12 51)).bind fun x12 =>
  (sm_obj h11 (some a0) 12).bind fun b14 =>
  sm_cb (fX12_head b14 (4 : Int32) x12 h11) fun _ h13 =>
  fX12_write_51 sm_fuel a0 a1 a2 (0 : Int32) h13
set_option maxRecDepth 100000 in
set_option maxHeartbeats 4000000 in
theorem sX12_write_0 (l : Launch) (D : va_G) (aC : Nat → ClassId) (B : Nat)   (a0 : Nat) (a1 : Int32) (a2 : Int32) (h : sm_H) : zS l D aC B cX12_write 4 RX12 6 135 none "write" vlU (fX12_write a0 a1 a2 h) 0 [(0, vR (some a0)), (1, vI a1), (2, vI a2)] [] h := by
  unfold fX12_write
  refine sm_aload_n (i := 0) (j := 0) (pc' := 1) dX12_write_0 rfl rfl rfl ?_
  refine sm_iconst (v := (0 : Int32)) (pc' := 2) dX12_write_1 rfl (by decide) ?_
  refine sm_putI (k := 64) (pc' := 5) kX12 (by decide) mw843 rfl rfl dX12_write_2 rfl (fun h1 => ?_)
  refine sm_aload_n (i := 0) (j := 0) (pc' := 6) dX12_write_5 rfl rfl rfl ?_
  refine sm_bipush (v := (48 : Int32)) (pc' := 8) dX12_write_6 rfl (by decide) ?_
  refine sm_iconst (v := (3 : Int32)) (pc' := 9) dX12_write_8 rfl (by decide) ?_
  refine sm_aload_n (i := 0) (j := 0) (pc' := 10) dX12_write_9 rfl rfl rfl ?_
  refine sm_getI (k := 51) (pc' := 13) kX12 (by decide) mw792 dX12_write_10 rfl (fun x2 => ?_)
  refine sm_cSI (pc' := 16) (st := [vI (3 : Int32), vI (48 : Int32), vR (some a0)]) [vI x2] yY_yX12_around mw827 mw829 (mX12_around l D aC B x2 h1) rfl (by decide) (by decide) (by exact Nat.le_of_ble_eq_true rfl) rfl dX12_write_13 rfl (fun x3 h4 => ?_)
  refine sm_iadd (pc' := 17) dX12_write_16 rfl ?_
  refine sm_aload_n (i := 0) (j := 0) (pc' := 18) dX12_write_17 rfl rfl rfl ?_
  refine sm_iload_n (i := 1) (j := 1) (pc' := 19) dX12_write_18 rfl rfl rfl ?_
  refine sm_iload_n (i := 2) (j := 2) (pc' := 20) dX12_write_19 rfl rfl rfl ?_
  refine sm_cVI (pc' := 23) (ci := 12) (st := [vI ((3 : Int32) + x3), vI (48 : Int32), vR (some a0)]) (F := fun b => fX12_bodyOctets b a1 a2 h4) [vI a1, vI a2] yY_yX12_bodyOctets rfl mw840 mw841 mw842 (fun b => mX12_bodyOctets l D aC B b a1 a2 h4) rfl (by decide) (by decide) (by exact Nat.le_of_ble_eq_true rfl) rfl dX12_write_20 rfl (fun x5 h6 => ?_)
  refine sm_cSI (pc' := 26) (st := [vI ((3 : Int32) + x3), vI (48 : Int32), vR (some a0)]) [vI x5] yY_yX12_around mw827 mw829 (mX12_around l D aC B x5 h6) rfl (by decide) (by decide) (by exact Nat.le_of_ble_eq_true rfl) rfl dX12_write_23 rfl (fun x7 h8 => ?_)
  refine sm_iadd (pc' := 27) dX12_write_26 rfl ?_
  refine sm_cVU (pc' := 30) (ci := 12) (st := []) (F := fun b => fX12_head b (48 : Int32) (((3 : Int32) + x3) + x7) h8) [vI (48 : Int32), vI (((3 : Int32) + x3) + x7)] yY_yX12_head rfl mw847 mw848 mw849 (fun b => mX12_head l D aC B b (48 : Int32) (((3 : Int32) + x3) + x7) h8) rfl (by decide) (by decide) (by exact Nat.le_of_ble_eq_true rfl) rfl dX12_write_27 rfl (fun _ h9 => ?_)
  refine sm_aload_n (i := 0) (j := 0) (pc' := 31) dX12_write_30 rfl rfl rfl ?_
  refine sm_iconst (v := (2 : Int32)) (pc' := 32) dX12_write_31 rfl (by decide) ?_
  refine sm_aload_n (i := 0) (j := 0) (pc' := 33) dX12_write_32 rfl rfl rfl ?_
  refine sm_getI (k := 48) (pc' := 36) kX12 (by decide) mw795 dX12_write_33 rfl (fun x10 => ?_)
  refine sm_i2l (pc' := 37) dX12_write_36 rfl ?_
  refine sm_cVU (pc' := 40) (ci := 12) (st := []) (F := fun b => fX12_writeNumber b (2 : Int32) (x10.toInt64) h9) [vI (2 : Int32), vJ (x10.toInt64)] yY_yX12_writeNumber rfl mw850 mw851 mw852 (fun b => mX12_writeNumber l D aC B b (2 : Int32) (x10.toInt64) h9) rfl (by decide) (by decide) (by exact Nat.le_of_ble_eq_true rfl) rfl dX12_write_37 rfl (fun _ h11 => ?_)
  refine sm_aload_n (i := 0) (j := 0) (pc' := 41) dX12_write_40 rfl rfl rfl ?_
  refine sm_iconst (v := (4 : Int32)) (pc' := 42) dX12_write_41 rfl (by decide) ?_
  refine sm_aload_n (i := 0) (j := 0) (pc' := 43) dX12_write_42 rfl rfl rfl ?_
  refine sm_getI (k := 51) (pc' := 46) kX12 (by decide) mw792 dX12_write_43 rfl (fun x12 => ?_)
  refine sm_cVU (pc' := 49) (ci := 12) (st := []) (F := fun b => fX12_head b (4 : Int32) x12 h11) [vI (4 : Int32), vI x12] yY_yX12_head rfl mw847 mw848 mw849 (fun b => mX12_head l D aC B b (4 : Int32) x12 h11) rfl (by decide) (by decide) (by exact Nat.le_of_ble_eq_true rfl) rfl dX12_write_46 rfl (fun _ h13 => ?_)
  refine sm_iconst (v := (0 : Int32)) (pc' := 50) dX12_write_49 rfl (by decide) ?_
  refine sm_istore_n (i := 3) (lv' := [(3, vI (0 : Int32)), (0, vR (some a0)), (1, vI a1), (2, vI a2)]) (pc' := 51) dX12_write_50 rfl rfl (by decide) rfl ?_
  refine sm_lo (lv' := [(0, vR (some a0)), (1, vI a1), (2, vI a2), (3, vI (0 : Int32))]) [1, 2, 3, 0] rfl ?_
  exact sX12_write_51 l D aC B   sm_fuel a0 a1 a2 (0 : Int32) h13
set_option maxRecDepth 100000 in
theorem mX12_write (l : Launch) (D : va_G) (aC : Nat → ClassId) (B : Nat) (a0 : Nat) (a1 : Int32) (a2 : Int32) (h : sm_H) : sm_M l D vwCl gAts aC B gTs gNs gOs yX12_write cX12_write 4 none 6 135 vlU [vR (some a0), vI a1, vI a2] h (fX12_write a0 a1 a2 h) := sm_meth [vR (some a0), vI a1, vI a2] yY_yX12_write gG gN (Nat.le_of_ble_eq_true rfl) rfl (sX12_write_0 l D aC B a0 a1 a2 h)
-- M:TreeAgentModel.oneMore(I)Z
noncomputable def fX12_oneMore  (a0 : Nat) (a1 : Int32) (h : sm_H) : Option (Int32 × sm_H) :=
  (sm_I (sm_get h (some a0) 12 47)).bind fun x1 =>
  if x1 = (40 : Int32) then (
    some ((0 : Int32), h)
  ) else
  (sm_I (sm_get h (some a0) 12 47)).bind fun x2 =>
  (sm_obj h (some a0) 12).bind fun b11 =>
  sm_cb (fX12_next b11 a1 ((20 : Int32) + x2) h) fun _ h3 =>
  (sm_I (sm_get h3 (some a0) 12 47)).bind fun x4 =>
  (sm_obj h3 (some a0) 12).bind fun b10 =>
  sm_cb (fX12_allOctets b10 (20 : Int32) (x4 + (1 : Int32)) h3) fun x5 h6 =>
  (sm_I (sm_get h6 (some a0) 12 5)).bind fun x7 =>
  if x5 ≤ x7 then (
    (sm_I (sm_get h6 (some a0) 12 47)).bind fun x8 =>
    (sm_put h6 (some a0) 12 47 (sm_v (vI (x8 + (1 : Int32))))).bind fun h9 =>
    some ((1 : Int32), h9)
  ) else
  some ((0 : Int32), h6)
set_option maxRecDepth 100000 in
set_option maxHeartbeats 4000000 in
theorem sX12_oneMore_0 (l : Launch) (D : va_G) (aC : Nat → ClassId) (B : Nat)   (a0 : Nat) (a1 : Int32) (h : sm_H) : zS l D aC B cX12_oneMore 2 RX12 7 157 (some .boolean) "oneMore" vlI (fX12_oneMore a0 a1 h) 0 [(0, vR (some a0)), (1, vI a1)] [] h := by
  unfold fX12_oneMore
  refine sm_aload_n (i := 0) (j := 0) (pc' := 1) dX12_oneMore_0 rfl rfl rfl ?_
  refine sm_getI (k := 47) (pc' := 4) kX12 (by decide) mw860 dX12_oneMore_1 rfl (fun x1 => ?_)
  refine sm_bipush (v := (40 : Int32)) (pc' := 6) dX12_oneMore_4 rfl (by decide) ?_
  refine sm_icmp_ne (tgt := 11) (pc' := 9) dX12_oneMore_6 (by decide) rfl ?_ ?_
  · refine sm_aload_n (i := 0) (j := 0) (pc' := 12) dX12_oneMore_11 rfl rfl rfl ?_
    refine sm_iload_n (i := 1) (j := 1) (pc' := 13) dX12_oneMore_12 rfl rfl rfl ?_
    refine sm_bipush (v := (20 : Int32)) (pc' := 15) dX12_oneMore_13 rfl (by decide) ?_
    refine sm_aload_n (i := 0) (j := 0) (pc' := 16) dX12_oneMore_15 rfl rfl rfl ?_
    refine sm_getI (k := 47) (pc' := 19) kX12 (by decide) mw860 dX12_oneMore_16 rfl (fun x2 => ?_)
    refine sm_iadd (pc' := 20) dX12_oneMore_19 rfl ?_
    refine sm_cVU (pc' := 23) (ci := 12) (st := []) (F := fun b => fX12_next b a1 ((20 : Int32) + x2) h) [vI a1, vI ((20 : Int32) + x2)] yY_yX12_next rfl mw861 mw865 mw866 (fun b => mX12_next l D aC B b a1 ((20 : Int32) + x2) h) rfl (by decide) (by decide) (by exact Nat.le_of_ble_eq_true rfl) rfl dX12_oneMore_20 rfl (fun _ h3 => ?_)
    refine sm_aload_n (i := 0) (j := 0) (pc' := 24) dX12_oneMore_23 rfl rfl rfl ?_
    refine sm_bipush (v := (20 : Int32)) (pc' := 26) dX12_oneMore_24 rfl (by decide) ?_
    refine sm_aload_n (i := 0) (j := 0) (pc' := 27) dX12_oneMore_26 rfl rfl rfl ?_
    refine sm_getI (k := 47) (pc' := 30) kX12 (by decide) mw860 dX12_oneMore_27 rfl (fun x4 => ?_)
    refine sm_iconst (v := (1 : Int32)) (pc' := 31) dX12_oneMore_30 rfl (by decide) ?_
    refine sm_iadd (pc' := 32) dX12_oneMore_31 rfl ?_
    refine sm_cVI (pc' := 35) (ci := 12) (st := []) (F := fun b => fX12_allOctets b (20 : Int32) (x4 + (1 : Int32)) h3) [vI (20 : Int32), vI (x4 + (1 : Int32))] yY_yX12_allOctets rfl mw862 mw863 mw864 (fun b => mX12_allOctets l D aC B b (20 : Int32) (x4 + (1 : Int32)) h3) rfl (by decide) (by decide) (by exact Nat.le_of_ble_eq_true rfl) rfl dX12_oneMore_32 rfl (fun x5 h6 => ?_)
    refine sm_aload_n (i := 0) (j := 0) (pc' := 36) dX12_oneMore_35 rfl rfl rfl ?_
    refine sm_getI (k := 5) (pc' := 39) kX12 (by decide) mw659 dX12_oneMore_36 rfl (fun x7 => ?_)
    refine sm_icmp_le (tgt := 44) (pc' := 42) dX12_oneMore_39 (by decide) rfl ?_ ?_
    · refine sm_aload_n (i := 0) (j := 0) (pc' := 45) dX12_oneMore_44 rfl rfl rfl ?_
      refine sm_dup (pc' := 46) rfl dX12_oneMore_45 rfl ?_
      refine sm_getI (k := 47) (pc' := 49) kX12 (by decide) mw860 dX12_oneMore_46 rfl (fun x8 => ?_)
      refine sm_iconst (v := (1 : Int32)) (pc' := 50) dX12_oneMore_49 rfl (by decide) ?_
      refine sm_iadd (pc' := 51) dX12_oneMore_50 rfl ?_
      refine sm_putI (k := 47) (pc' := 54) kX12 (by decide) mw860 rfl rfl dX12_oneMore_51 rfl (fun h9 => ?_)
      refine sm_iconst (v := (1 : Int32)) (pc' := 55) dX12_oneMore_54 rfl (by decide) ?_
      exact sm_zret1 rfl dX12_oneMore_55
    refine sm_iconst (v := (0 : Int32)) (pc' := 43) dX12_oneMore_42 rfl (by decide) ?_
    exact sm_zret0 rfl dX12_oneMore_43
  refine sm_iconst (v := (0 : Int32)) (pc' := 10) dX12_oneMore_9 rfl (by decide) ?_
  exact sm_zret0 rfl dX12_oneMore_10
set_option maxRecDepth 100000 in
theorem mX12_oneMore (l : Launch) (D : va_G) (aC : Nat → ClassId) (B : Nat) (a0 : Nat) (a1 : Int32) (h : sm_H) : sm_M l D vwCl gAts aC B gTs gNs gOs yX12_oneMore cX12_oneMore 2 (some .boolean) 7 157 vlI [vR (some a0), vI a1] h (fX12_oneMore a0 a1 h) := sm_meth [vR (some a0), vI a1] yY_yX12_oneMore gG gN (Nat.le_of_ble_eq_true rfl) rfl (sX12_oneMore_0 l D aC B a0 a1 h)
-- M:TreeAgentModel.many()V
noncomputable def fX12_many_184 (K72 : Nat → Int32 → Int32 → Int32 → Int32 → sm_H → Option (Unit × sm_H)) (a0 : Nat) (a1 : Int32) (a2 : Int32) (a3 : Int32) (a4 : Int32) (a5 : Int32) (h : sm_H) : Option (Unit × sm_H) :=
  if a3 = 0 then (
    sm_let (a4 + (1 : Int32)) fun x1 =>
    K72 a0 a1 a2 (0 : Int32) x1 h
  ) else
  if a5 = 0 then (
    sm_let (a4 + (1 : Int32)) fun x3 =>
    K72 a0 a1 a2 (1 : Int32) x3 h
  ) else
  sm_let (a4 + (1 : Int32)) fun x2 =>
  K72 a0 a1 a2 (0 : Int32) x2 h
set_option maxRecDepth 100000 in
set_option maxHeartbeats 4000000 in
theorem sX12_many_184 (l : Launch) (D : va_G) (aC : Nat → ClassId) (B : Nat) (K72 : Nat → Int32 → Int32 → Int32 → Int32 → sm_H → Option (Unit × sm_H)) (hK72 : ∀ (a0 : Nat) (a1 : Int32) (a2 : Int32) (a3 : Int32) (a4 : Int32) (h : sm_H), zS l D aC B cX12_many 9 RX12 8 178 none "many" vlU (K72 a0 a1 a2 a3 a4 h) 72 [(0, vR (some a0)), (1, vI a1), (2, vI a2), (3, vI a3), (4, vI a4)] [] h) (a0 : Nat) (a1 : Int32) (a2 : Int32) (a3 : Int32) (a4 : Int32) (a5 : Int32) (h : sm_H) : zS l D aC B cX12_many 9 RX12 8 178 none "many" vlU (fX12_many_184 K72 a0 a1 a2 a3 a4 a5 h) 184 [(0, vR (some a0)), (1, vI a1), (2, vI a2), (3, vI a3), (4, vI a4), (5, vI a5)] [] h := by
  unfold fX12_many_184
  refine sm_iload_n (i := 3) (j := 3) (pc' := 185) dX12_many_184 rfl rfl rfl ?_
  refine sm_if_eq (tgt := 197) (pc' := 188) dX12_many_185 (by decide) rfl ?_ ?_
  · refine sm_iconst (v := (0 : Int32)) (pc' := 198) dX12_many_197 rfl (by decide) ?_
    refine sm_istore_n (i := 3) (lv' := [(3, vI (0 : Int32)), (0, vR (some a0)), (1, vI a1), (2, vI a2), (4, vI a4), (5, vI a5)]) (pc' := 199) dX12_many_198 rfl rfl (by decide) rfl ?_
    refine sm_iincL (i := 4) (j := 4) (x := a4) (d := (1 : Int32)) (fun x1 => [(4, vI x1), (3, vI (0 : Int32)), (0, vR (some a0)), (1, vI a1), (2, vI a2), (5, vI a5)]) (pc' := 202) dX12_many_199 rfl rfl (by decide) (by decide) (fun _ => rfl) (fun x1 => ?_)
    refine sm_goto (pc' := 72) dX12_many_202 (by decide) ?_
    refine sm_lo (lv' := [(0, vR (some a0)), (1, vI a1), (2, vI a2), (3, vI (0 : Int32)), (4, vI x1)]) [2, 3, 4, 1, 0] rfl ?_
    exact hK72 a0 a1 a2 (0 : Int32) x1 h
  refine sm_iload (i := 5) (j := 5) (pc' := 190) dX12_many_188 rfl rfl ?_
  refine sm_if_ne (tgt := 197) (pc' := 193) dX12_many_190 (by decide) rfl ?_ ?_
  · refine sm_iconst (v := (0 : Int32)) (pc' := 198) dX12_many_197 rfl (by decide) ?_
    refine sm_istore_n (i := 3) (lv' := [(3, vI (0 : Int32)), (0, vR (some a0)), (1, vI a1), (2, vI a2), (4, vI a4), (5, vI a5)]) (pc' := 199) dX12_many_198 rfl rfl (by decide) rfl ?_
    refine sm_iincL (i := 4) (j := 4) (x := a4) (d := (1 : Int32)) (fun x2 => [(4, vI x2), (3, vI (0 : Int32)), (0, vR (some a0)), (1, vI a1), (2, vI a2), (5, vI a5)]) (pc' := 202) dX12_many_199 rfl rfl (by decide) (by decide) (fun _ => rfl) (fun x2 => ?_)
    refine sm_goto (pc' := 72) dX12_many_202 (by decide) ?_
    refine sm_lo (lv' := [(0, vR (some a0)), (1, vI a1), (2, vI a2), (3, vI (0 : Int32)), (4, vI x2)]) [2, 3, 4, 1, 0] rfl ?_
    exact hK72 a0 a1 a2 (0 : Int32) x2 h
  refine sm_iconst (v := (1 : Int32)) (pc' := 194) dX12_many_193 rfl (by decide) ?_
  refine sm_goto (pc' := 198) dX12_many_194 (by decide) ?_
  refine sm_istore_n (i := 3) (lv' := [(3, vI (1 : Int32)), (0, vR (some a0)), (1, vI a1), (2, vI a2), (4, vI a4), (5, vI a5)]) (pc' := 199) dX12_many_198 rfl rfl (by decide) rfl ?_
  refine sm_iincL (i := 4) (j := 4) (x := a4) (d := (1 : Int32)) (fun x3 => [(4, vI x3), (3, vI (1 : Int32)), (0, vR (some a0)), (1, vI a1), (2, vI a2), (5, vI a5)]) (pc' := 202) dX12_many_199 rfl rfl (by decide) (by decide) (fun _ => rfl) (fun x3 => ?_)
  refine sm_goto (pc' := 72) dX12_many_202 (by decide) ?_
  refine sm_lo (lv' := [(0, vR (some a0)), (1, vI a1), (2, vI a2), (3, vI (1 : Int32)), (4, vI x3)]) [2, 3, 4, 1, 0] rfl ?_
  exact hK72 a0 a1 a2 (1 : Int32) x3 h
noncomputable def fX12_many_133 (K72 : Nat → Int32 → Int32 → Int32 → Int32 → sm_H → Option (Unit × sm_H)) (K103 : Nat → Int32 → Int32 → Int32 → Int32 → Int32 → Int32 → Int32 → sm_H → Option (Unit × sm_H)) (a0 : Nat) (a1 : Int32) (a2 : Int32) (a4 : Int32) (a5 : Int32) (a6 : Int32) (a7 : Int32) (s0 : Int32) (h : sm_H) : Option (Unit × sm_H) :=
  (sm_obj h (some a0) 12).bind fun b10 =>
  sm_cb (fX12_oneMore b10 s0 h) fun x1 h2 =>
  if a5 = 0 then (
    sm_let (a7 + (1 : Int32)) fun x3 =>
    K103 a0 a1 a2 x1 a4 (0 : Int32) a6 x3 h2
  ) else
  if x1 = 0 then (
    sm_let (a7 + (1 : Int32)) fun x4 =>
    K103 a0 a1 a2 x1 a4 (0 : Int32) a6 x4 h2
  ) else
  (sm_R (sm_get h2 (some a0) 12 38)).bind fun x5 =>
  (sm_I (sm_get h2 (some a0) 12 47)).bind fun x6 =>
  (sm_aI h2 x5 0 (((20 : Int32) + x6) - (1 : Int32))).bind fun x7 =>
  if x7 = (130 : Int32) then (
    sm_let (a7 + (1 : Int32)) fun x9 =>
    K103 a0 a1 a2 x1 a4 (1 : Int32) a6 x9 h2
  ) else
  sm_let (a7 + (1 : Int32)) fun x8 =>
  K103 a0 a1 a2 x1 a4 (0 : Int32) a6 x8 h2
set_option maxRecDepth 100000 in
set_option maxHeartbeats 4000000 in
theorem sX12_many_133 (l : Launch) (D : va_G) (aC : Nat → ClassId) (B : Nat) (K72 : Nat → Int32 → Int32 → Int32 → Int32 → sm_H → Option (Unit × sm_H)) (K103 : Nat → Int32 → Int32 → Int32 → Int32 → Int32 → Int32 → Int32 → sm_H → Option (Unit × sm_H)) (hK72 : ∀ (a0 : Nat) (a1 : Int32) (a2 : Int32) (a3 : Int32) (a4 : Int32) (h : sm_H), zS l D aC B cX12_many 9 RX12 8 178 none "many" vlU (K72 a0 a1 a2 a3 a4 h) 72 [(0, vR (some a0)), (1, vI a1), (2, vI a2), (3, vI a3), (4, vI a4)] [] h) (hK103 : ∀ (a0 : Nat) (a1 : Int32) (a2 : Int32) (a3 : Int32) (a4 : Int32) (a5 : Int32) (a6 : Int32) (a7 : Int32) (h : sm_H), zS l D aC B cX12_many 9 RX12 8 178 none "many" vlU (K103 a0 a1 a2 a3 a4 a5 a6 a7 h) 103 [(0, vR (some a0)), (1, vI a1), (2, vI a2), (3, vI a3), (4, vI a4), (5, vI a5), (6, vI a6), (7, vI a7)] [] h) (a0 : Nat) (a1 : Int32) (a2 : Int32) (a4 : Int32) (a5 : Int32) (a6 : Int32) (a7 : Int32) (s0 : Int32) (h : sm_H) : zS l D aC B cX12_many 9 RX12 8 178 none "many" vlU (fX12_many_133 K72 K103 a0 a1 a2 a4 a5 a6 a7 s0 h) 133 [(0, vR (some a0)), (1, vI a1), (2, vI a2), (4, vI a4), (5, vI a5), (6, vI a6), (7, vI a7)] [vI s0] h := by
  unfold fX12_many_133
  refine sm_istore (i := 8) (lv' := [(8, vI s0), (0, vR (some a0)), (1, vI a1), (2, vI a2), (4, vI a4), (5, vI a5), (6, vI a6), (7, vI a7)]) (pc' := 135) dX12_many_133 rfl (by decide) rfl ?_
  refine sm_aload_n (i := 0) (j := 1) (pc' := 136) dX12_many_135 rfl rfl rfl ?_
  refine sm_iload (i := 8) (j := 0) (pc' := 138) dX12_many_136 rfl rfl ?_
  refine sm_cVI (pc' := 141) (ci := 12) (st := []) (F := fun b => fX12_oneMore b s0 h) [vI s0] yY_yX12_oneMore rfl mw867 mw868 mw869 (fun b => mX12_oneMore l D aC B b s0 h) rfl (by decide) (by decide) (by exact Nat.le_of_ble_eq_true rfl) rfl dX12_many_138 rfl (fun x1 h2 => ?_)
  refine sm_istore_n (i := 3) (lv' := [(3, vI x1), (8, vI s0), (0, vR (some a0)), (1, vI a1), (2, vI a2), (4, vI a4), (5, vI a5), (6, vI a6), (7, vI a7)]) (pc' := 142) dX12_many_141 rfl rfl (by decide) rfl ?_
  refine sm_iload (i := 5) (j := 6) (pc' := 144) dX12_many_142 rfl rfl ?_
  refine sm_if_eq (tgt := 175) (pc' := 147) dX12_many_144 (by decide) rfl ?_ ?_
  · refine sm_iconst (v := (0 : Int32)) (pc' := 176) dX12_many_175 rfl (by decide) ?_
    refine sm_istore (i := 5) (lv' := [(5, vI (0 : Int32)), (3, vI x1), (8, vI s0), (0, vR (some a0)), (1, vI a1), (2, vI a2), (4, vI a4), (6, vI a6), (7, vI a7)]) (pc' := 178) dX12_many_176 rfl (by decide) rfl ?_
    refine sm_iincL (i := 7) (j := 8) (x := a7) (d := (1 : Int32)) (fun x3 => [(7, vI x3), (5, vI (0 : Int32)), (3, vI x1), (8, vI s0), (0, vR (some a0)), (1, vI a1), (2, vI a2), (4, vI a4), (6, vI a6)]) (pc' := 181) dX12_many_178 rfl rfl (by decide) (by decide) (fun _ => rfl) (fun x3 => ?_)
    refine sm_goto (pc' := 103) dX12_many_181 (by decide) ?_
    refine sm_lo (lv' := [(0, vR (some a0)), (1, vI a1), (2, vI a2), (3, vI x1), (4, vI a4), (5, vI (0 : Int32)), (6, vI a6), (7, vI x3)]) [4, 5, 6, 2, 7, 1, 8, 0] rfl ?_
    exact hK103 a0 a1 a2 x1 a4 (0 : Int32) a6 x3 h2
  refine sm_iload_n (i := 3) (j := 0) (pc' := 148) dX12_many_147 rfl rfl rfl ?_
  refine sm_if_eq (tgt := 175) (pc' := 151) dX12_many_148 (by decide) rfl ?_ ?_
  · refine sm_iconst (v := (0 : Int32)) (pc' := 176) dX12_many_175 rfl (by decide) ?_
    refine sm_istore (i := 5) (lv' := [(5, vI (0 : Int32)), (3, vI x1), (8, vI s0), (0, vR (some a0)), (1, vI a1), (2, vI a2), (4, vI a4), (6, vI a6), (7, vI a7)]) (pc' := 178) dX12_many_176 rfl (by decide) rfl ?_
    refine sm_iincL (i := 7) (j := 8) (x := a7) (d := (1 : Int32)) (fun x4 => [(7, vI x4), (5, vI (0 : Int32)), (3, vI x1), (8, vI s0), (0, vR (some a0)), (1, vI a1), (2, vI a2), (4, vI a4), (6, vI a6)]) (pc' := 181) dX12_many_178 rfl rfl (by decide) (by decide) (fun _ => rfl) (fun x4 => ?_)
    refine sm_goto (pc' := 103) dX12_many_181 (by decide) ?_
    refine sm_lo (lv' := [(0, vR (some a0)), (1, vI a1), (2, vI a2), (3, vI x1), (4, vI a4), (5, vI (0 : Int32)), (6, vI a6), (7, vI x4)]) [4, 5, 6, 2, 7, 1, 8, 0] rfl ?_
    exact hK103 a0 a1 a2 x1 a4 (0 : Int32) a6 x4 h2
  refine sm_aload_n (i := 0) (j := 2) (pc' := 152) dX12_many_151 rfl rfl rfl ?_
  refine sm_getR (k := 38) (pc' := 155) kX12 (by decide) mw688 dX12_many_152 rfl (fun x5 => ?_)
  refine sm_bipush (v := (20 : Int32)) (pc' := 157) dX12_many_155 rfl (by decide) ?_
  refine sm_aload_n (i := 0) (j := 2) (pc' := 158) dX12_many_157 rfl rfl rfl ?_
  refine sm_getI (k := 47) (pc' := 161) kX12 (by decide) mw860 dX12_many_158 rfl (fun x6 => ?_)
  refine sm_iadd (pc' := 162) dX12_many_161 rfl ?_
  refine sm_iconst (v := (1 : Int32)) (pc' := 163) dX12_many_162 rfl (by decide) ?_
  refine sm_isub (pc' := 164) dX12_many_163 rfl ?_
  refine sm_iald (t := 0) (pc' := 165) rfl dX12_many_164 rfl (fun x7 => ?_)
  refine sm_sipush (v := (130 : Int32)) (pc' := 168) dX12_many_165 rfl (by decide) ?_
  refine sm_icmp_ne (tgt := 175) (pc' := 171) dX12_many_168 (by decide) rfl ?_ ?_
  · refine sm_iconst (v := (0 : Int32)) (pc' := 176) dX12_many_175 rfl (by decide) ?_
    refine sm_istore (i := 5) (lv' := [(5, vI (0 : Int32)), (3, vI x1), (8, vI s0), (0, vR (some a0)), (1, vI a1), (2, vI a2), (4, vI a4), (6, vI a6), (7, vI a7)]) (pc' := 178) dX12_many_176 rfl (by decide) rfl ?_
    refine sm_iincL (i := 7) (j := 8) (x := a7) (d := (1 : Int32)) (fun x8 => [(7, vI x8), (5, vI (0 : Int32)), (3, vI x1), (8, vI s0), (0, vR (some a0)), (1, vI a1), (2, vI a2), (4, vI a4), (6, vI a6)]) (pc' := 181) dX12_many_178 rfl rfl (by decide) (by decide) (fun _ => rfl) (fun x8 => ?_)
    refine sm_goto (pc' := 103) dX12_many_181 (by decide) ?_
    refine sm_lo (lv' := [(0, vR (some a0)), (1, vI a1), (2, vI a2), (3, vI x1), (4, vI a4), (5, vI (0 : Int32)), (6, vI a6), (7, vI x8)]) [4, 5, 6, 2, 7, 1, 8, 0] rfl ?_
    exact hK103 a0 a1 a2 x1 a4 (0 : Int32) a6 x8 h2
  refine sm_iconst (v := (1 : Int32)) (pc' := 172) dX12_many_171 rfl (by decide) ?_
  refine sm_goto (pc' := 176) dX12_many_172 (by decide) ?_
  refine sm_istore (i := 5) (lv' := [(5, vI (1 : Int32)), (3, vI x1), (8, vI s0), (0, vR (some a0)), (1, vI a1), (2, vI a2), (4, vI a4), (6, vI a6), (7, vI a7)]) (pc' := 178) dX12_many_176 rfl (by decide) rfl ?_
  refine sm_iincL (i := 7) (j := 8) (x := a7) (d := (1 : Int32)) (fun x9 => [(7, vI x9), (5, vI (1 : Int32)), (3, vI x1), (8, vI s0), (0, vR (some a0)), (1, vI a1), (2, vI a2), (4, vI a4), (6, vI a6)]) (pc' := 181) dX12_many_178 rfl rfl (by decide) (by decide) (fun _ => rfl) (fun x9 => ?_)
  refine sm_goto (pc' := 103) dX12_many_181 (by decide) ?_
  refine sm_lo (lv' := [(0, vR (some a0)), (1, vI a1), (2, vI a2), (3, vI x1), (4, vI a4), (5, vI (1 : Int32)), (6, vI a6), (7, vI x9)]) [4, 5, 6, 2, 7, 1, 8, 0] rfl ?_
  exact hK103 a0 a1 a2 x1 a4 (1 : Int32) a6 x9 h2
noncomputable def fX12_many_103 (K72 : Nat → Int32 → Int32 → Int32 → Int32 → sm_H → Option (Unit × sm_H)) : Nat → Nat → Int32 → Int32 → Int32 → Int32 → Int32 → Int32 → Int32 → sm_H → Option (Unit × sm_H)
  | 0 => fun _ _ _ _ _ _ _ _ _ => none
  | n + 1 => fun a0 a1 a2 a3 a4 a5 a6 a7 h =>
    if a2 ≤ a7 then (
      fX12_many_184 K72 a0 a1 a2 a3 a4 a5 h
    ) else
    if a3 = 0 then (
      fX12_many_184 K72 a0 a1 a2 a3 a4 a5 h
    ) else
    if a4 = 0 then (
      fX12_many_133 K72 (fX12_many_103 K72 n) a0 a1 a2 a4 a5 a6 a7 (a1 + a7) h
    ) else
    fX12_many_133 K72 (fX12_many_103 K72 n) a0 a1 a2 a4 a5 a6 a7 (((20 : Int32) + a6) + a7) h
set_option maxRecDepth 100000 in
set_option maxHeartbeats 4000000 in
theorem sX12_many_103 (l : Launch) (D : va_G) (aC : Nat → ClassId) (B : Nat) (K72 : Nat → Int32 → Int32 → Int32 → Int32 → sm_H → Option (Unit × sm_H)) (hK72 : ∀ (a0 : Nat) (a1 : Int32) (a2 : Int32) (a3 : Int32) (a4 : Int32) (h : sm_H), zS l D aC B cX12_many 9 RX12 8 178 none "many" vlU (K72 a0 a1 a2 a3 a4 h) 72 [(0, vR (some a0)), (1, vI a1), (2, vI a2), (3, vI a3), (4, vI a4)] [] h) (n : Nat) : ∀ (a0 : Nat) (a1 : Int32) (a2 : Int32) (a3 : Int32) (a4 : Int32) (a5 : Int32) (a6 : Int32) (a7 : Int32) (h : sm_H), zS l D aC B cX12_many 9 RX12 8 178 none "many" vlU (fX12_many_103 K72 n a0 a1 a2 a3 a4 a5 a6 a7 h) 103 [(0, vR (some a0)), (1, vI a1), (2, vI a2), (3, vI a3), (4, vI a4), (5, vI a5), (6, vI a6), (7, vI a7)] [] h := by
  induction n with
  | zero => intro a0 a1 a2 a3 a4 a5 a6 a7 h; exact sm_none
  | succ n ih =>
    intro a0 a1 a2 a3 a4 a5 a6 a7 h
    show zS l D aC B cX12_many 9 RX12 8 178 none "many" vlU (fX12_many_103 K72 (n + 1) a0 a1 a2 a3 a4 a5 a6 a7 h) 103 [(0, vR (some a0)), (1, vI a1), (2, vI a2), (3, vI a3), (4, vI a4), (5, vI a5), (6, vI a6), (7, vI a7)] [] h
    unfold fX12_many_103
    refine sm_iload (i := 7) (j := 7) (pc' := 105) dX12_many_103 rfl rfl ?_
    refine sm_iload_n (i := 2) (j := 2) (pc' := 106) dX12_many_105 rfl rfl rfl ?_
    refine sm_icmp_ge (tgt := 184) (pc' := 109) dX12_many_106 (by decide) rfl ?_ ?_
    · refine sm_lo (lv' := [(0, vR (some a0)), (1, vI a1), (2, vI a2), (3, vI a3), (4, vI a4), (5, vI a5)]) [0, 1, 2, 3, 4, 5] rfl ?_
      exact sX12_many_184 l D aC B  K72 hK72 a0 a1 a2 a3 a4 a5 h
    refine sm_iload_n (i := 3) (j := 3) (pc' := 110) dX12_many_109 rfl rfl rfl ?_
    refine sm_if_eq (tgt := 184) (pc' := 113) dX12_many_110 (by decide) rfl ?_ ?_
    · refine sm_lo (lv' := [(0, vR (some a0)), (1, vI a1), (2, vI a2), (3, vI a3), (4, vI a4), (5, vI a5)]) [0, 1, 2, 3, 4, 5] rfl ?_
      exact sX12_many_184 l D aC B  K72 hK72 a0 a1 a2 a3 a4 a5 h
    refine sm_iload (i := 4) (j := 4) (pc' := 115) dX12_many_113 rfl rfl ?_
    refine sm_if_ne (tgt := 125) (pc' := 118) dX12_many_115 (by decide) rfl ?_ ?_
    · refine sm_bipush (v := (20 : Int32)) (pc' := 127) dX12_many_125 rfl (by decide) ?_
      refine sm_iload (i := 6) (j := 6) (pc' := 129) dX12_many_127 rfl rfl ?_
      refine sm_iadd (pc' := 130) dX12_many_129 rfl ?_
      refine sm_iload (i := 7) (j := 7) (pc' := 132) dX12_many_130 rfl rfl ?_
      refine sm_iadd (pc' := 133) dX12_many_132 rfl ?_
      refine sm_lo (lv' := [(0, vR (some a0)), (1, vI a1), (2, vI a2), (4, vI a4), (5, vI a5), (6, vI a6), (7, vI a7)]) [0, 1, 2, 4, 5, 6, 7] rfl ?_
      exact sX12_many_133 l D aC B  K72 (fX12_many_103 K72 n) hK72 ih a0 a1 a2 a4 a5 a6 a7 (((20 : Int32) + a6) + a7) h
    refine sm_iload_n (i := 1) (j := 1) (pc' := 119) dX12_many_118 rfl rfl rfl ?_
    refine sm_iload (i := 7) (j := 7) (pc' := 121) dX12_many_119 rfl rfl ?_
    refine sm_iadd (pc' := 122) dX12_many_121 rfl ?_
    refine sm_goto (pc' := 133) dX12_many_122 (by decide) ?_
    refine sm_lo (lv' := [(0, vR (some a0)), (1, vI a1), (2, vI a2), (4, vI a4), (5, vI a5), (6, vI a6), (7, vI a7)]) [0, 1, 2, 4, 5, 6, 7] rfl ?_
    exact sX12_many_133 l D aC B  K72 (fX12_many_103 K72 n) hK72 ih a0 a1 a2 a4 a5 a6 a7 (a1 + a7) h
noncomputable def fX12_many_72  : Nat → Nat → Int32 → Int32 → Int32 → Int32 → sm_H → Option (Unit × sm_H)
  | 0 => fun _ _ _ _ _ _ => none
  | n + 1 => fun a0 a1 a2 a3 a4 h =>
    (sm_I (sm_get h (some a0) 12 55)).bind fun x1 =>
    if x1 ≤ a4 then (
      some ((), h)
    ) else
    if a3 = 0 then (
      some ((), h)
    ) else
    if a2 ≤ 0 then (
      some ((), h)
    ) else
    (sm_I (sm_get h (some a0) 12 47)).bind fun x2 =>
    sm_let (x2 - a2) fun x3 =>
    fX12_many_103 (fX12_many_72 n) sm_fuel a0 a1 a2 a3 a4 (1 : Int32) x3 (0 : Int32) h
set_option maxRecDepth 100000 in
set_option maxHeartbeats 4000000 in
theorem sX12_many_72 (l : Launch) (D : va_G) (aC : Nat → ClassId) (B : Nat)   (n : Nat) : ∀ (a0 : Nat) (a1 : Int32) (a2 : Int32) (a3 : Int32) (a4 : Int32) (h : sm_H), zS l D aC B cX12_many 9 RX12 8 178 none "many" vlU (fX12_many_72 n a0 a1 a2 a3 a4 h) 72 [(0, vR (some a0)), (1, vI a1), (2, vI a2), (3, vI a3), (4, vI a4)] [] h := by
  induction n with
  | zero => intro a0 a1 a2 a3 a4 h; exact sm_none
  | succ n ih =>
    intro a0 a1 a2 a3 a4 h
    show zS l D aC B cX12_many 9 RX12 8 178 none "many" vlU (fX12_many_72 (n + 1) a0 a1 a2 a3 a4 h) 72 [(0, vR (some a0)), (1, vI a1), (2, vI a2), (3, vI a3), (4, vI a4)] [] h
    unfold fX12_many_72
    refine sm_iload (i := 4) (j := 4) (pc' := 74) dX12_many_72 rfl rfl ?_
    refine sm_aload_n (i := 0) (j := 0) (pc' := 75) dX12_many_74 rfl rfl rfl ?_
    refine sm_getI (k := 55) (pc' := 78) kX12 (by decide) mw785 dX12_many_75 rfl (fun x1 => ?_)
    refine sm_icmp_ge (tgt := 205) (pc' := 81) dX12_many_78 (by decide) rfl ?_ ?_
    · exact sm_vret rfl dX12_many_205
    refine sm_iload_n (i := 3) (j := 3) (pc' := 82) dX12_many_81 rfl rfl rfl ?_
    refine sm_if_eq (tgt := 205) (pc' := 85) dX12_many_82 (by decide) rfl ?_ ?_
    · exact sm_vret rfl dX12_many_205
    refine sm_iload_n (i := 2) (j := 2) (pc' := 86) dX12_many_85 rfl rfl rfl ?_
    refine sm_if_le (tgt := 205) (pc' := 89) dX12_many_86 (by decide) rfl ?_ ?_
    · exact sm_vret rfl dX12_many_205
    refine sm_iconst (v := (1 : Int32)) (pc' := 90) dX12_many_89 rfl (by decide) ?_
    refine sm_istore (i := 5) (lv' := [(5, vI (1 : Int32)), (0, vR (some a0)), (1, vI a1), (2, vI a2), (3, vI a3), (4, vI a4)]) (pc' := 92) dX12_many_90 rfl (by decide) rfl ?_
    refine sm_aload_n (i := 0) (j := 1) (pc' := 93) dX12_many_92 rfl rfl rfl ?_
    refine sm_getI (k := 47) (pc' := 96) kX12 (by decide) mw860 dX12_many_93 rfl (fun x2 => ?_)
    refine sm_iload_n (i := 2) (j := 3) (pc' := 97) dX12_many_96 rfl rfl rfl ?_
    refine sm_isub (pc' := 98) dX12_many_97 rfl ?_
    refine sm_letIv (fun x3 => ?_)
    refine sm_istore (i := 6) (lv' := [(6, vI x3), (5, vI (1 : Int32)), (0, vR (some a0)), (1, vI a1), (2, vI a2), (3, vI a3), (4, vI a4)]) (pc' := 100) dX12_many_98 rfl (by decide) rfl ?_
    refine sm_iconst (v := (0 : Int32)) (pc' := 101) dX12_many_100 rfl (by decide) ?_
    refine sm_istore (i := 7) (lv' := [(7, vI (0 : Int32)), (6, vI x3), (5, vI (1 : Int32)), (0, vR (some a0)), (1, vI a1), (2, vI a2), (3, vI a3), (4, vI a4)]) (pc' := 103) dX12_many_101 rfl (by decide) rfl ?_
    refine sm_lo (lv' := [(0, vR (some a0)), (1, vI a1), (2, vI a2), (3, vI a3), (4, vI a4), (5, vI (1 : Int32)), (6, vI x3), (7, vI (0 : Int32))]) [3, 4, 5, 6, 7, 2, 1, 0] rfl ?_
    exact sX12_many_103 l D aC B  (fX12_many_72 n) ih sm_fuel a0 a1 a2 a3 a4 (1 : Int32) x3 (0 : Int32) h
noncomputable def fX12_many_46  : Nat → Nat → Int32 → Int32 → Int32 → Int32 → sm_H → Option (Unit × sm_H)
  | 0 => fun _ _ _ _ _ _ => none
  | n + 1 => fun a0 a1 a2 a3 a4 h =>
    if a1 ≤ a4 then (
      fX12_many_72 sm_fuel a0 a1 a2 a3 (0 : Int32) h
    ) else
    if a3 = 0 then (
      fX12_many_72 sm_fuel a0 a1 a2 a3 (0 : Int32) h
    ) else
    (sm_obj h (some a0) 12).bind fun b4 =>
    sm_cb (fX12_oneMore b4 a4 h) fun x1 h2 =>
    sm_let (a4 + (1 : Int32)) fun x3 =>
    (fX12_many_46 n) a0 a1 a2 x1 x3 h2
set_option maxRecDepth 100000 in
set_option maxHeartbeats 4000000 in
theorem sX12_many_46 (l : Launch) (D : va_G) (aC : Nat → ClassId) (B : Nat)   (n : Nat) : ∀ (a0 : Nat) (a1 : Int32) (a2 : Int32) (a3 : Int32) (a4 : Int32) (h : sm_H), zS l D aC B cX12_many 9 RX12 8 178 none "many" vlU (fX12_many_46 n a0 a1 a2 a3 a4 h) 46 [(0, vR (some a0)), (1, vI a1), (2, vI a2), (3, vI a3), (4, vI a4)] [] h := by
  induction n with
  | zero => intro a0 a1 a2 a3 a4 h; exact sm_none
  | succ n ih =>
    intro a0 a1 a2 a3 a4 h
    show zS l D aC B cX12_many 9 RX12 8 178 none "many" vlU (fX12_many_46 (n + 1) a0 a1 a2 a3 a4 h) 46 [(0, vR (some a0)), (1, vI a1), (2, vI a2), (3, vI a3), (4, vI a4)] [] h
    unfold fX12_many_46
    refine sm_iload (i := 4) (j := 4) (pc' := 48) dX12_many_46 rfl rfl ?_
    refine sm_iload_n (i := 1) (j := 1) (pc' := 49) dX12_many_48 rfl rfl rfl ?_
    refine sm_icmp_ge (tgt := 69) (pc' := 52) dX12_many_49 (by decide) rfl ?_ ?_
    · refine sm_iconst (v := (0 : Int32)) (pc' := 70) dX12_many_69 rfl (by decide) ?_
      refine sm_istore (i := 4) (lv' := [(4, vI (0 : Int32)), (0, vR (some a0)), (1, vI a1), (2, vI a2), (3, vI a3)]) (pc' := 72) dX12_many_70 rfl (by decide) rfl ?_
      refine sm_lo (lv' := [(0, vR (some a0)), (1, vI a1), (2, vI a2), (3, vI a3), (4, vI (0 : Int32))]) [1, 2, 3, 4, 0] rfl ?_
      exact sX12_many_72 l D aC B   sm_fuel a0 a1 a2 a3 (0 : Int32) h
    refine sm_iload_n (i := 3) (j := 3) (pc' := 53) dX12_many_52 rfl rfl rfl ?_
    refine sm_if_eq (tgt := 69) (pc' := 56) dX12_many_53 (by decide) rfl ?_ ?_
    · refine sm_iconst (v := (0 : Int32)) (pc' := 70) dX12_many_69 rfl (by decide) ?_
      refine sm_istore (i := 4) (lv' := [(4, vI (0 : Int32)), (0, vR (some a0)), (1, vI a1), (2, vI a2), (3, vI a3)]) (pc' := 72) dX12_many_70 rfl (by decide) rfl ?_
      refine sm_lo (lv' := [(0, vR (some a0)), (1, vI a1), (2, vI a2), (3, vI a3), (4, vI (0 : Int32))]) [1, 2, 3, 4, 0] rfl ?_
      exact sX12_many_72 l D aC B   sm_fuel a0 a1 a2 a3 (0 : Int32) h
    refine sm_aload_n (i := 0) (j := 0) (pc' := 57) dX12_many_56 rfl rfl rfl ?_
    refine sm_iload (i := 4) (j := 4) (pc' := 59) dX12_many_57 rfl rfl ?_
    refine sm_cVI (pc' := 62) (ci := 12) (st := []) (F := fun b => fX12_oneMore b a4 h) [vI a4] yY_yX12_oneMore rfl mw867 mw868 mw869 (fun b => mX12_oneMore l D aC B b a4 h) rfl (by decide) (by decide) (by exact Nat.le_of_ble_eq_true rfl) rfl dX12_many_59 rfl (fun x1 h2 => ?_)
    refine sm_istore_n (i := 3) (lv' := [(3, vI x1), (0, vR (some a0)), (1, vI a1), (2, vI a2), (4, vI a4)]) (pc' := 63) dX12_many_62 rfl rfl (by decide) rfl ?_
    refine sm_iincL (i := 4) (j := 4) (x := a4) (d := (1 : Int32)) (fun x3 => [(4, vI x3), (3, vI x1), (0, vR (some a0)), (1, vI a1), (2, vI a2)]) (pc' := 66) dX12_many_63 rfl rfl (by decide) (by decide) (fun _ => rfl) (fun x3 => ?_)
    refine sm_goto (pc' := 46) dX12_many_66 (by decide) ?_
    refine sm_lo (lv' := [(0, vR (some a0)), (1, vI a1), (2, vI a2), (3, vI x1), (4, vI x3)]) [2, 3, 4, 1, 0] rfl ?_
    exact ih a0 a1 a2 x1 x3 h2
noncomputable def fX12_many_33  (a0 : Nat) (s0 : Int32) (h : sm_H) : Option (Unit × sm_H) :=
  (sm_I (sm_get h (some a0) 12 46)).bind fun x1 =>
  sm_let (x1 - s0) fun x2 =>
  fX12_many_46 sm_fuel a0 s0 x2 (1 : Int32) (0 : Int32) h
set_option maxRecDepth 100000 in
set_option maxHeartbeats 4000000 in
theorem sX12_many_33 (l : Launch) (D : va_G) (aC : Nat → ClassId) (B : Nat)   (a0 : Nat) (s0 : Int32) (h : sm_H) : zS l D aC B cX12_many 9 RX12 8 178 none "many" vlU (fX12_many_33 a0 s0 h) 33 [(0, vR (some a0))] [vI s0] h := by
  unfold fX12_many_33
  refine sm_istore_n (i := 1) (lv' := [(1, vI s0), (0, vR (some a0))]) (pc' := 34) dX12_many_33 rfl rfl (by decide) rfl ?_
  refine sm_aload_n (i := 0) (j := 1) (pc' := 35) dX12_many_34 rfl rfl rfl ?_
  refine sm_getI (k := 46) (pc' := 38) kX12 (by decide) mw778 dX12_many_35 rfl (fun x1 => ?_)
  refine sm_iload_n (i := 1) (j := 0) (pc' := 39) dX12_many_38 rfl rfl rfl ?_
  refine sm_isub (pc' := 40) dX12_many_39 rfl ?_
  refine sm_letIv (fun x2 => ?_)
  refine sm_istore_n (i := 2) (lv' := [(2, vI x2), (1, vI s0), (0, vR (some a0))]) (pc' := 41) dX12_many_40 rfl rfl (by decide) rfl ?_
  refine sm_iconst (v := (1 : Int32)) (pc' := 42) dX12_many_41 rfl (by decide) ?_
  refine sm_istore_n (i := 3) (lv' := [(3, vI (1 : Int32)), (2, vI x2), (1, vI s0), (0, vR (some a0))]) (pc' := 43) dX12_many_42 rfl rfl (by decide) rfl ?_
  refine sm_iconst (v := (0 : Int32)) (pc' := 44) dX12_many_43 rfl (by decide) ?_
  refine sm_istore (i := 4) (lv' := [(4, vI (0 : Int32)), (3, vI (1 : Int32)), (2, vI x2), (1, vI s0), (0, vR (some a0))]) (pc' := 46) dX12_many_44 rfl (by decide) rfl ?_
  refine sm_lo (lv' := [(0, vR (some a0)), (1, vI s0), (2, vI x2), (3, vI (1 : Int32)), (4, vI (0 : Int32))]) [4, 3, 2, 1, 0] rfl ?_
  exact sX12_many_46 l D aC B   sm_fuel a0 s0 x2 (1 : Int32) (0 : Int32) h
noncomputable def fX12_many  (a0 : Nat) (h : sm_H) : Option (Unit × sm_H) :=
  (sm_I (sm_get h (some a0) 12 54)).bind fun x1 =>
  if 0 ≤ x1 then (
    (sm_I (sm_get h (some a0) 12 54)).bind fun x2 =>
    (sm_I (sm_get h (some a0) 12 46)).bind fun x3 =>
    if x2 ≤ x3 then (
      (sm_I (sm_get h (some a0) 12 54)).bind fun x4 =>
      fX12_many_33 a0 x4 h
    ) else
    (sm_I (sm_get h (some a0) 12 46)).bind fun x5 =>
    fX12_many_33 a0 x5 h
  ) else
  fX12_many_33 a0 (0 : Int32) h
set_option maxRecDepth 100000 in
set_option maxHeartbeats 4000000 in
theorem sX12_many_0 (l : Launch) (D : va_G) (aC : Nat → ClassId) (B : Nat)   (a0 : Nat) (h : sm_H) : zS l D aC B cX12_many 9 RX12 8 178 none "many" vlU (fX12_many a0 h) 0 [(0, vR (some a0))] [] h := by
  unfold fX12_many
  refine sm_aload_n (i := 0) (j := 0) (pc' := 1) dX12_many_0 rfl rfl rfl ?_
  refine sm_getI (k := 54) (pc' := 4) kX12 (by decide) mw786 dX12_many_1 rfl (fun x1 => ?_)
  refine sm_if_ge (tgt := 11) (pc' := 7) dX12_many_4 (by decide) rfl ?_ ?_
  · refine sm_aload_n (i := 0) (j := 0) (pc' := 12) dX12_many_11 rfl rfl rfl ?_
    refine sm_getI (k := 54) (pc' := 15) kX12 (by decide) mw786 dX12_many_12 rfl (fun x2 => ?_)
    refine sm_aload_n (i := 0) (j := 0) (pc' := 16) dX12_many_15 rfl rfl rfl ?_
    refine sm_getI (k := 46) (pc' := 19) kX12 (by decide) mw778 dX12_many_16 rfl (fun x3 => ?_)
    refine sm_icmp_le (tgt := 29) (pc' := 22) dX12_many_19 (by decide) rfl ?_ ?_
    · refine sm_aload_n (i := 0) (j := 0) (pc' := 30) dX12_many_29 rfl rfl rfl ?_
      refine sm_getI (k := 54) (pc' := 33) kX12 (by decide) mw786 dX12_many_30 rfl (fun x4 => ?_)
      exact sX12_many_33 l D aC B  a0 x4 h
    refine sm_aload_n (i := 0) (j := 0) (pc' := 23) dX12_many_22 rfl rfl rfl ?_
    refine sm_getI (k := 46) (pc' := 26) kX12 (by decide) mw778 dX12_many_23 rfl (fun x5 => ?_)
    refine sm_goto (pc' := 33) dX12_many_26 (by decide) ?_
    exact sX12_many_33 l D aC B  a0 x5 h
  refine sm_iconst (v := (0 : Int32)) (pc' := 8) dX12_many_7 rfl (by decide) ?_
  refine sm_goto (pc' := 33) dX12_many_8 (by decide) ?_
  exact sX12_many_33 l D aC B  a0 (0 : Int32) h
set_option maxRecDepth 100000 in
theorem mX12_many (l : Launch) (D : va_G) (aC : Nat → ClassId) (B : Nat) (a0 : Nat) (h : sm_H) : sm_M l D vwCl gAts aC B gTs gNs gOs yX12_many cX12_many 9 none 8 178 vlU [vR (some a0)] h (fX12_many a0 h) := sm_meth [vR (some a0)] yY_yX12_many gG gN (Nat.le_of_ble_eq_true rfl) rfl (sX12_many_0 l D aC B a0 h)
-- M:TreeAgentModel.fail(II)V
noncomputable def fX12_fail_48  (a0 : Nat) (a2 : Int32) (s0 : Option Nat) (h : sm_H) : Option (Unit × sm_H) :=
  (sm_put h s0 12 56 (sm_v (vI (2 : Int32)))).bind fun h1 =>
  (sm_put h1 (some a0) 12 57 (sm_v (vI (a2 + (1 : Int32))))).bind fun h2 =>
  some ((), h2)
set_option maxRecDepth 100000 in
set_option maxHeartbeats 4000000 in
theorem sX12_fail_48 (l : Launch) (D : va_G) (aC : Nat → ClassId) (B : Nat)   (a0 : Nat) (a2 : Int32) (s0 : Option Nat) (h : sm_H) : zS l D aC B cX12_fail 3 RX12 0 0 none "fail" vlU (fX12_fail_48 a0 a2 s0 h) 48 [(0, vR (some a0)), (2, vI a2)] [vR s0] h := by
  unfold fX12_fail_48
  refine sm_iconst (v := (2 : Int32)) (pc' := 49) dX12_fail_48 rfl (by decide) ?_
  refine sm_goto (pc' := 53) dX12_fail_49 (by decide) ?_
  refine sm_putI (k := 56) (pc' := 56) kX12 (by decide) mw835 rfl rfl dX12_fail_53 rfl (fun h1 => ?_)
  refine sm_aload_n (i := 0) (j := 0) (pc' := 57) dX12_fail_56 rfl rfl rfl ?_
  refine sm_iload_n (i := 2) (j := 1) (pc' := 58) dX12_fail_57 rfl rfl rfl ?_
  refine sm_iconst (v := (1 : Int32)) (pc' := 59) dX12_fail_58 rfl (by decide) ?_
  refine sm_iadd (pc' := 60) dX12_fail_59 rfl ?_
  refine sm_putI (k := 57) (pc' := 63) kX12 (by decide) mw836 rfl rfl dX12_fail_60 rfl (fun h2 => ?_)
  exact sm_vret rfl dX12_fail_63
noncomputable def fX12_fail  (a0 : Nat) (a1 : Int32) (a2 : Int32) (h : sm_H) : Option (Unit × sm_H) :=
  (sm_I (sm_get h (some a0) 12 56)).bind fun x1 =>
  if x1 = 0 then (
    (sm_I (sm_get h (some a0) 12 48)).bind fun x2 =>
    if x2 = (1 : Int32) then (
      (sm_put h (some a0) 12 56 (sm_v (vI a1))).bind fun h7 =>
      (sm_put h7 (some a0) 12 57 (sm_v (vI (a2 + (1 : Int32))))).bind fun h8 =>
      some ((), h8)
    ) else
    if a1 = (13 : Int32) then (
      (sm_put h (some a0) 12 56 (sm_v (vI (5 : Int32)))).bind fun h5 =>
      (sm_put h5 (some a0) 12 57 (sm_v (vI (a2 + (1 : Int32))))).bind fun h6 =>
      some ((), h6)
    ) else
    if a1 = (6 : Int32) then (
      fX12_fail_48 a0 a2 (some a0) h
    ) else
    if a1 = (17 : Int32) then (
      fX12_fail_48 a0 a2 (some a0) h
    ) else
    if a1 = (18 : Int32) then (
      fX12_fail_48 a0 a2 (some a0) h
    ) else
    (sm_put h (some a0) 12 56 (sm_v (vI (3 : Int32)))).bind fun h3 =>
    (sm_put h3 (some a0) 12 57 (sm_v (vI (a2 + (1 : Int32))))).bind fun h4 =>
    some ((), h4)
  ) else
  some ((), h)
set_option maxRecDepth 100000 in
set_option maxHeartbeats 4000000 in
theorem sX12_fail_0 (l : Launch) (D : va_G) (aC : Nat → ClassId) (B : Nat)   (a0 : Nat) (a1 : Int32) (a2 : Int32) (h : sm_H) : zS l D aC B cX12_fail 3 RX12 0 0 none "fail" vlU (fX12_fail a0 a1 a2 h) 0 [(0, vR (some a0)), (1, vI a1), (2, vI a2)] [] h := by
  unfold fX12_fail
  refine sm_aload_n (i := 0) (j := 0) (pc' := 1) dX12_fail_0 rfl rfl rfl ?_
  refine sm_getI (k := 56) (pc' := 4) kX12 (by decide) mw835 dX12_fail_1 rfl (fun x1 => ?_)
  refine sm_if_ne (tgt := 63) (pc' := 7) dX12_fail_4 (by decide) rfl ?_ ?_
  · exact sm_vret rfl dX12_fail_63
  refine sm_aload_n (i := 0) (j := 0) (pc' := 8) dX12_fail_7 rfl rfl rfl ?_
  refine sm_aload_n (i := 0) (j := 0) (pc' := 9) dX12_fail_8 rfl rfl rfl ?_
  refine sm_getI (k := 48) (pc' := 12) kX12 (by decide) mw795 dX12_fail_9 rfl (fun x2 => ?_)
  refine sm_iconst (v := (1 : Int32)) (pc' := 13) dX12_fail_12 rfl (by decide) ?_
  refine sm_icmp_ne (tgt := 20) (pc' := 16) dX12_fail_13 (by decide) rfl ?_ ?_
  · refine sm_iload_n (i := 1) (j := 1) (pc' := 21) dX12_fail_20 rfl rfl rfl ?_
    refine sm_bipush (v := (13 : Int32)) (pc' := 23) dX12_fail_21 rfl (by decide) ?_
    refine sm_icmp_ne (tgt := 30) (pc' := 26) dX12_fail_23 (by decide) rfl ?_ ?_
    · refine sm_iload_n (i := 1) (j := 1) (pc' := 31) dX12_fail_30 rfl rfl rfl ?_
      refine sm_bipush (v := (6 : Int32)) (pc' := 33) dX12_fail_31 rfl (by decide) ?_
      refine sm_icmp_eq (tgt := 48) (pc' := 36) dX12_fail_33 (by decide) rfl ?_ ?_
      · refine sm_lo (lv' := [(0, vR (some a0)), (2, vI a2)]) [0, 2] rfl ?_
        exact sX12_fail_48 l D aC B  a0 a2 (some a0) h
      refine sm_iload_n (i := 1) (j := 1) (pc' := 37) dX12_fail_36 rfl rfl rfl ?_
      refine sm_bipush (v := (17 : Int32)) (pc' := 39) dX12_fail_37 rfl (by decide) ?_
      refine sm_icmp_eq (tgt := 48) (pc' := 42) dX12_fail_39 (by decide) rfl ?_ ?_
      · refine sm_lo (lv' := [(0, vR (some a0)), (2, vI a2)]) [0, 2] rfl ?_
        exact sX12_fail_48 l D aC B  a0 a2 (some a0) h
      refine sm_iload_n (i := 1) (j := 1) (pc' := 43) dX12_fail_42 rfl rfl rfl ?_
      refine sm_bipush (v := (18 : Int32)) (pc' := 45) dX12_fail_43 rfl (by decide) ?_
      refine sm_icmp_ne (tgt := 52) (pc' := 48) dX12_fail_45 (by decide) rfl ?_ ?_
      · refine sm_iconst (v := (3 : Int32)) (pc' := 53) dX12_fail_52 rfl (by decide) ?_
        refine sm_putI (k := 56) (pc' := 56) kX12 (by decide) mw835 rfl rfl dX12_fail_53 rfl (fun h3 => ?_)
        refine sm_aload_n (i := 0) (j := 0) (pc' := 57) dX12_fail_56 rfl rfl rfl ?_
        refine sm_iload_n (i := 2) (j := 2) (pc' := 58) dX12_fail_57 rfl rfl rfl ?_
        refine sm_iconst (v := (1 : Int32)) (pc' := 59) dX12_fail_58 rfl (by decide) ?_
        refine sm_iadd (pc' := 60) dX12_fail_59 rfl ?_
        refine sm_putI (k := 57) (pc' := 63) kX12 (by decide) mw836 rfl rfl dX12_fail_60 rfl (fun h4 => ?_)
        exact sm_vret rfl dX12_fail_63
      refine sm_lo (lv' := [(0, vR (some a0)), (2, vI a2)]) [0, 2] rfl ?_
      exact sX12_fail_48 l D aC B  a0 a2 (some a0) h
    refine sm_iconst (v := (5 : Int32)) (pc' := 27) dX12_fail_26 rfl (by decide) ?_
    refine sm_goto (pc' := 53) dX12_fail_27 (by decide) ?_
    refine sm_putI (k := 56) (pc' := 56) kX12 (by decide) mw835 rfl rfl dX12_fail_53 rfl (fun h5 => ?_)
    refine sm_aload_n (i := 0) (j := 0) (pc' := 57) dX12_fail_56 rfl rfl rfl ?_
    refine sm_iload_n (i := 2) (j := 2) (pc' := 58) dX12_fail_57 rfl rfl rfl ?_
    refine sm_iconst (v := (1 : Int32)) (pc' := 59) dX12_fail_58 rfl (by decide) ?_
    refine sm_iadd (pc' := 60) dX12_fail_59 rfl ?_
    refine sm_putI (k := 57) (pc' := 63) kX12 (by decide) mw836 rfl rfl dX12_fail_60 rfl (fun h6 => ?_)
    exact sm_vret rfl dX12_fail_63
  refine sm_iload_n (i := 1) (j := 1) (pc' := 17) dX12_fail_16 rfl rfl rfl ?_
  refine sm_goto (pc' := 53) dX12_fail_17 (by decide) ?_
  refine sm_putI (k := 56) (pc' := 56) kX12 (by decide) mw835 rfl rfl dX12_fail_53 rfl (fun h7 => ?_)
  refine sm_aload_n (i := 0) (j := 0) (pc' := 57) dX12_fail_56 rfl rfl rfl ?_
  refine sm_iload_n (i := 2) (j := 2) (pc' := 58) dX12_fail_57 rfl rfl rfl ?_
  refine sm_iconst (v := (1 : Int32)) (pc' := 59) dX12_fail_58 rfl (by decide) ?_
  refine sm_iadd (pc' := 60) dX12_fail_59 rfl ?_
  refine sm_putI (k := 57) (pc' := 63) kX12 (by decide) mw836 rfl rfl dX12_fail_60 rfl (fun h8 => ?_)
  exact sm_vret rfl dX12_fail_63
set_option maxRecDepth 100000 in
theorem mX12_fail (l : Launch) (D : va_G) (aC : Nat → ClassId) (B : Nat) (a0 : Nat) (a1 : Int32) (a2 : Int32) (h : sm_H) : sm_M l D vwCl gAts aC B gTs gNs gOs yX12_fail cX12_fail 3 none 0 0 vlU [vR (some a0), vI a1, vI a2] h (fX12_fail a0 a1 a2 h) := sm_meth [vR (some a0), vI a1, vI a2] yY_yX12_fail gG gN (Nat.le_of_ble_eq_true rfl) rfl (sX12_fail_0 l D aC B a0 a1 a2 h)
-- M:TreeAgentModel.isMaking(IIJ)Z
noncomputable def fX12_isMaking  (a0 : Nat) (a1 : Int32) (a2 : Int32) (a3 : Int64) (h : sm_H) : Option (Int32 × sm_H) :=
  (sm_R (sm_get h (some a0) 12 36)).bind fun x1 =>
  (sm_R (sm_get h (some a0) 12 37)).bind fun x2 =>
  (sm_aI h x2 0 a1).bind fun x3 =>
  (sm_obj h (some a0) 12).bind fun b24 =>
  sm_cb (fX12_objectOf b24 x1 ((16 : Int32) * a1) x3 (2 : Int32) h) fun x4 h5 =>
  if x4 < 0 then (
    some ((0 : Int32), h5)
  ) else
  (sm_R (sm_get h5 (some a0) 12 16)).bind fun x6 =>
  (sm_aI h5 x6 2 x4).bind fun x7 =>
  if x7 = 0 then (
    some ((0 : Int32), h5)
  ) else
  (sm_R (sm_get h5 (some a0) 12 15)).bind fun x8 =>
  (sm_aI h5 x8 0 x4).bind fun x9 =>
  if x9 = a2 then (
    (sm_R (sm_get h5 (some a0) 12 37)).bind fun x10 =>
    (sm_aI h5 x10 0 a1).bind fun x11 =>
    (sm_R (sm_get h5 (some a0) 12 10)).bind fun x12 =>
    (sm_aI h5 x12 0 x4).bind fun x13 =>
    if x11 = (x13 + (1 : Int32)) then (
      (sm_R (sm_get h5 (some a0) 12 36)).bind fun x14 =>
      (sm_R (sm_get h5 (some a0) 12 10)).bind fun x15 =>
      (sm_aI h5 x15 0 x4).bind fun x16 =>
      (sm_aJ h5 x14 1 (((16 : Int32) * a1) + x16)).bind fun x17 =>
      if (lg_cmp x17 a3) = 0 then (
        (sm_R (sm_get h5 (some a0) 12 38)).bind fun x18 =>
        (sm_aI h5 x18 0 a1).bind fun x19 =>
        if x19 = (2 : Int32) then (
          (sm_R (sm_get h5 (some a0) 12 39)).bind fun x20 =>
          (sm_aJ h5 x20 1 a1).bind fun x21 =>
          sm_cb (fX12_in x21 (4 : Int64) (5 : Int64) h5) fun x22 h23 =>
          if x22 = 0 then (
            some ((0 : Int32), h23)
          ) else
          some ((1 : Int32), h23)
        ) else
        some ((0 : Int32), h5)
      ) else
      some ((0 : Int32), h5)
    ) else
    some ((0 : Int32), h5)
  ) else
  some ((0 : Int32), h5)
set_option maxRecDepth 100000 in
set_option maxHeartbeats 4000000 in
theorem sX12_isMaking_0 (l : Launch) (D : va_G) (aC : Nat → ClassId) (B : Nat)   (a0 : Nat) (a1 : Int32) (a2 : Int32) (a3 : Int64) (h : sm_H) : zS l D aC B cX12_isMaking 6 RX12 2 52 (some .boolean) "isMaking" vlI (fX12_isMaking a0 a1 a2 a3 h) 0 [(0, vR (some a0)), (1, vI a1), (2, vI a2), (3, vJ a3)] [] h := by
  unfold fX12_isMaking
  refine sm_aload_n (i := 0) (j := 0) (pc' := 1) dX12_isMaking_0 rfl rfl rfl ?_
  refine sm_aload_n (i := 0) (j := 0) (pc' := 2) dX12_isMaking_1 rfl rfl rfl ?_
  refine sm_getR (k := 36) (pc' := 5) kX12 (by decide) mw686 dX12_isMaking_2 rfl (fun x1 => ?_)
  refine sm_bipush (v := (16 : Int32)) (pc' := 7) dX12_isMaking_5 rfl (by decide) ?_
  refine sm_iload_n (i := 1) (j := 1) (pc' := 8) dX12_isMaking_7 rfl rfl rfl ?_
  refine sm_imul (pc' := 9) dX12_isMaking_8 rfl ?_
  refine sm_aload_n (i := 0) (j := 0) (pc' := 10) dX12_isMaking_9 rfl rfl rfl ?_
  refine sm_getR (k := 37) (pc' := 13) kX12 (by decide) mw687 dX12_isMaking_10 rfl (fun x2 => ?_)
  refine sm_iload_n (i := 1) (j := 1) (pc' := 14) dX12_isMaking_13 rfl rfl rfl ?_
  refine sm_iald (t := 0) (pc' := 15) rfl dX12_isMaking_14 rfl (fun x3 => ?_)
  refine sm_iconst (v := (2 : Int32)) (pc' := 16) dX12_isMaking_15 rfl (by decide) ?_
  refine sm_cVI (pc' := 19) (ci := 12) (st := []) (F := fun b => fX12_objectOf b x1 ((16 : Int32) * a1) x3 (2 : Int32) h) [vR x1, vI ((16 : Int32) * a1), vI x3, vI (2 : Int32)] yY_yX12_objectOf rfl mw804 mw808 mw809 (fun b => mX12_objectOf l D aC B b x1 ((16 : Int32) * a1) x3 (2 : Int32) h) rfl (by decide) (by decide) (by exact Nat.le_of_ble_eq_true rfl) rfl dX12_isMaking_16 rfl (fun x4 h5 => ?_)
  refine sm_istore (i := 5) (lv' := [(5, vI x4), (0, vR (some a0)), (1, vI a1), (2, vI a2), (3, vJ a3)]) (pc' := 21) dX12_isMaking_19 rfl (by decide) rfl ?_
  refine sm_iload (i := 5) (j := 0) (pc' := 23) dX12_isMaking_21 rfl rfl ?_
  refine sm_if_lt (tgt := 119) (pc' := 26) dX12_isMaking_23 (by decide) rfl ?_ ?_
  · refine sm_iconst (v := (0 : Int32)) (pc' := 120) dX12_isMaking_119 rfl (by decide) ?_
    exact sm_zret0 rfl dX12_isMaking_120
  refine sm_aload_n (i := 0) (j := 1) (pc' := 27) dX12_isMaking_26 rfl rfl rfl ?_
  refine sm_getR (k := 16) (pc' := 30) kX12 (by decide) mw668 dX12_isMaking_27 rfl (fun x6 => ?_)
  refine sm_iload (i := 5) (j := 0) (pc' := 32) dX12_isMaking_30 rfl rfl ?_
  refine sm_zald (t := 2) (pc' := 33) rfl dX12_isMaking_32 rfl (fun x7 => ?_)
  refine sm_if_eq (tgt := 119) (pc' := 36) dX12_isMaking_33 (by decide) rfl ?_ ?_
  · refine sm_iconst (v := (0 : Int32)) (pc' := 120) dX12_isMaking_119 rfl (by decide) ?_
    exact sm_zret0 rfl dX12_isMaking_120
  refine sm_aload_n (i := 0) (j := 1) (pc' := 37) dX12_isMaking_36 rfl rfl rfl ?_
  refine sm_getR (k := 15) (pc' := 40) kX12 (by decide) mw667 dX12_isMaking_37 rfl (fun x8 => ?_)
  refine sm_iload (i := 5) (j := 0) (pc' := 42) dX12_isMaking_40 rfl rfl ?_
  refine sm_iald (t := 0) (pc' := 43) rfl dX12_isMaking_42 rfl (fun x9 => ?_)
  refine sm_iload_n (i := 2) (j := 3) (pc' := 44) dX12_isMaking_43 rfl rfl rfl ?_
  refine sm_icmp_ne (tgt := 119) (pc' := 47) dX12_isMaking_44 (by decide) rfl ?_ ?_
  · refine sm_iconst (v := (0 : Int32)) (pc' := 120) dX12_isMaking_119 rfl (by decide) ?_
    exact sm_zret0 rfl dX12_isMaking_120
  refine sm_aload_n (i := 0) (j := 1) (pc' := 48) dX12_isMaking_47 rfl rfl rfl ?_
  refine sm_getR (k := 37) (pc' := 51) kX12 (by decide) mw687 dX12_isMaking_48 rfl (fun x10 => ?_)
  refine sm_iload_n (i := 1) (j := 2) (pc' := 52) dX12_isMaking_51 rfl rfl rfl ?_
  refine sm_iald (t := 0) (pc' := 53) rfl dX12_isMaking_52 rfl (fun x11 => ?_)
  refine sm_aload_n (i := 0) (j := 1) (pc' := 54) dX12_isMaking_53 rfl rfl rfl ?_
  refine sm_getR (k := 10) (pc' := 57) kX12 (by decide) mw662 dX12_isMaking_54 rfl (fun x12 => ?_)
  refine sm_iload (i := 5) (j := 0) (pc' := 59) dX12_isMaking_57 rfl rfl ?_
  refine sm_iald (t := 0) (pc' := 60) rfl dX12_isMaking_59 rfl (fun x13 => ?_)
  refine sm_iconst (v := (1 : Int32)) (pc' := 61) dX12_isMaking_60 rfl (by decide) ?_
  refine sm_iadd (pc' := 62) dX12_isMaking_61 rfl ?_
  refine sm_icmp_ne (tgt := 119) (pc' := 65) dX12_isMaking_62 (by decide) rfl ?_ ?_
  · refine sm_iconst (v := (0 : Int32)) (pc' := 120) dX12_isMaking_119 rfl (by decide) ?_
    exact sm_zret0 rfl dX12_isMaking_120
  refine sm_aload_n (i := 0) (j := 1) (pc' := 66) dX12_isMaking_65 rfl rfl rfl ?_
  refine sm_getR (k := 36) (pc' := 69) kX12 (by decide) mw686 dX12_isMaking_66 rfl (fun x14 => ?_)
  refine sm_bipush (v := (16 : Int32)) (pc' := 71) dX12_isMaking_69 rfl (by decide) ?_
  refine sm_iload_n (i := 1) (j := 2) (pc' := 72) dX12_isMaking_71 rfl rfl rfl ?_
  refine sm_imul (pc' := 73) dX12_isMaking_72 rfl ?_
  refine sm_aload_n (i := 0) (j := 1) (pc' := 74) dX12_isMaking_73 rfl rfl rfl ?_
  refine sm_getR (k := 10) (pc' := 77) kX12 (by decide) mw662 dX12_isMaking_74 rfl (fun x15 => ?_)
  refine sm_iload (i := 5) (j := 0) (pc' := 79) dX12_isMaking_77 rfl rfl ?_
  refine sm_iald (t := 0) (pc' := 80) rfl dX12_isMaking_79 rfl (fun x16 => ?_)
  refine sm_iadd (pc' := 81) dX12_isMaking_80 rfl ?_
  refine sm_lald (t := 1) (pc' := 82) rfl dX12_isMaking_81 rfl (fun x17 => ?_)
  refine sm_lload_n (i := 3) (j := 4) (pc' := 83) dX12_isMaking_82 rfl rfl rfl ?_
  refine sm_lcmp (pc' := 84) dX12_isMaking_83 rfl ?_
  refine sm_if_ne (tgt := 119) (pc' := 87) dX12_isMaking_84 (by decide) rfl ?_ ?_
  · refine sm_iconst (v := (0 : Int32)) (pc' := 120) dX12_isMaking_119 rfl (by decide) ?_
    exact sm_zret0 rfl dX12_isMaking_120
  refine sm_aload_n (i := 0) (j := 1) (pc' := 88) dX12_isMaking_87 rfl rfl rfl ?_
  refine sm_getR (k := 38) (pc' := 91) kX12 (by decide) mw688 dX12_isMaking_88 rfl (fun x18 => ?_)
  refine sm_iload_n (i := 1) (j := 2) (pc' := 92) dX12_isMaking_91 rfl rfl rfl ?_
  refine sm_iald (t := 0) (pc' := 93) rfl dX12_isMaking_92 rfl (fun x19 => ?_)
  refine sm_iconst (v := (2 : Int32)) (pc' := 94) dX12_isMaking_93 rfl (by decide) ?_
  refine sm_icmp_ne (tgt := 119) (pc' := 97) dX12_isMaking_94 (by decide) rfl ?_ ?_
  · refine sm_iconst (v := (0 : Int32)) (pc' := 120) dX12_isMaking_119 rfl (by decide) ?_
    exact sm_zret0 rfl dX12_isMaking_120
  refine sm_aload_n (i := 0) (j := 1) (pc' := 98) dX12_isMaking_97 rfl rfl rfl ?_
  refine sm_getR (k := 39) (pc' := 101) kX12 (by decide) mw689 dX12_isMaking_98 rfl (fun x20 => ?_)
  refine sm_iload_n (i := 1) (j := 2) (pc' := 102) dX12_isMaking_101 rfl rfl rfl ?_
  refine sm_lald (t := 1) (pc' := 103) rfl dX12_isMaking_102 rfl (fun x21 => ?_)
  refine sm_ldc2 (v := (4 : Int64)) (pc' := 106) dX12_isMaking_103 rfl mw761 ?_
  refine sm_ldc2 (v := (5 : Int64)) (pc' := 109) dX12_isMaking_106 rfl mw870 ?_
  refine sm_cSI (pc' := 112) (st := []) [vJ x21, vJ (4 : Int64), vJ (5 : Int64)] yY_yX12_in mw701 mw702 (mX12_in l D aC B x21 (4 : Int64) (5 : Int64) h5) rfl (by decide) (by decide) (by exact Nat.le_of_ble_eq_true rfl) rfl dX12_isMaking_109 rfl (fun x22 h23 => ?_)
  refine sm_if_eq (tgt := 119) (pc' := 115) dX12_isMaking_112 (by decide) rfl ?_ ?_
  · refine sm_iconst (v := (0 : Int32)) (pc' := 120) dX12_isMaking_119 rfl (by decide) ?_
    exact sm_zret0 rfl dX12_isMaking_120
  refine sm_iconst (v := (1 : Int32)) (pc' := 116) dX12_isMaking_115 rfl (by decide) ?_
  refine sm_goto (pc' := 120) dX12_isMaking_116 (by decide) ?_
  exact sm_zret1 rfl dX12_isMaking_120
set_option maxRecDepth 100000 in
theorem mX12_isMaking (l : Launch) (D : va_G) (aC : Nat → ClassId) (B : Nat) (a0 : Nat) (a1 : Int32) (a2 : Int32) (a3 : Int64) (h : sm_H) : sm_M l D vwCl gAts aC B gTs gNs gOs yX12_isMaking cX12_isMaking 6 (some .boolean) 2 52 vlI [vR (some a0), vI a1, vI a2, vJ a3] h (fX12_isMaking a0 a1 a2 a3 h) := sm_meth [vR (some a0), vI a1, vI a2, vJ a3] yY_yX12_isMaking gG gN (Nat.le_of_ble_eq_true rfl) rfl (sX12_isMaking_0 l D aC B a0 a1 a2 a3 h)
-- M:TreeAgentModel.checkPlace(II)V
noncomputable def fX12_checkPlace_379  (a0 : Nat) (a1 : Int32) (a9 : Int32) (a10 : Int64) (h : sm_H) : Option (Unit × sm_H) :=
  sm_cb (fX12_in a10 (4 : Int64) (5 : Int64) h) fun x1 h2 =>
  if x1 = 0 then (
    some ((), h2)
  ) else
  if a9 < (16 : Int32) then (
    some ((), h2)
  ) else
  (sm_obj h2 (some a0) 12).bind fun b4 =>
  sm_cb (fX12_fail b4 (13 : Int32) a1 h2) fun _ h3 =>
  some ((), h3)
set_option maxRecDepth 100000 in
set_option maxHeartbeats 4000000 in
theorem sX12_checkPlace_379 (l : Launch) (D : va_G) (aC : Nat → ClassId) (B : Nat)   (a0 : Nat) (a1 : Int32) (a9 : Int32) (a10 : Int64) (h : sm_H) : zS l D aC B cX12_checkPlace 12 RX12 3 77 none "checkPlace" vlU (fX12_checkPlace_379 a0 a1 a9 a10 h) 379 [(0, vR (some a0)), (1, vI a1), (9, vI a9), (10, vJ a10)] [] h := by
  unfold fX12_checkPlace_379
  refine sm_lload (i := 10) (j := 3) (pc' := 381) dX12_checkPlace_379 rfl rfl ?_
  refine sm_ldc2 (v := (4 : Int64)) (pc' := 384) dX12_checkPlace_381 rfl mw761 ?_
  refine sm_ldc2 (v := (5 : Int64)) (pc' := 387) dX12_checkPlace_384 rfl mw870 ?_
  refine sm_cSI (pc' := 390) (st := []) [vJ a10, vJ (4 : Int64), vJ (5 : Int64)] yY_yX12_in mw701 mw702 (mX12_in l D aC B a10 (4 : Int64) (5 : Int64) h) rfl (by decide) (by decide) (by exact Nat.le_of_ble_eq_true rfl) rfl dX12_checkPlace_387 rfl (fun x1 h2 => ?_)
  refine sm_if_eq (tgt := 407) (pc' := 393) dX12_checkPlace_390 (by decide) rfl ?_ ?_
  · exact sm_vret rfl dX12_checkPlace_407
  refine sm_iload (i := 9) (j := 2) (pc' := 395) dX12_checkPlace_393 rfl rfl ?_
  refine sm_bipush (v := (16 : Int32)) (pc' := 397) dX12_checkPlace_395 rfl (by decide) ?_
  refine sm_icmp_lt (tgt := 407) (pc' := 400) dX12_checkPlace_397 (by decide) rfl ?_ ?_
  · exact sm_vret rfl dX12_checkPlace_407
  refine sm_aload_n (i := 0) (j := 0) (pc' := 401) dX12_checkPlace_400 rfl rfl rfl ?_
  refine sm_bipush (v := (13 : Int32)) (pc' := 403) dX12_checkPlace_401 rfl (by decide) ?_
  refine sm_iload_n (i := 1) (j := 1) (pc' := 404) dX12_checkPlace_403 rfl rfl rfl ?_
  refine sm_cVU (pc' := 407) (ci := 12) (st := []) (F := fun b => fX12_fail b (13 : Int32) a1 h2) [vI (13 : Int32), vI a1] yY_yX12_fail rfl mw871 mw872 mw873 (fun b => mX12_fail l D aC B b (13 : Int32) a1 h2) rfl (by decide) (by decide) (by exact Nat.le_of_ble_eq_true rfl) rfl dX12_checkPlace_404 rfl (fun _ h3 => ?_)
  exact sm_vret rfl dX12_checkPlace_407
noncomputable def fX12_checkPlace_345  (a0 : Nat) (a1 : Int32) (a6 : Int32) (a8 : Int32) (a9 : Int32) (a10 : Int64) (h : sm_H) : Option (Unit × sm_H) :=
  sm_cb (fX12_in a10 (4 : Int64) (5 : Int64) h) fun x1 h2 =>
  if x1 = 0 then (
    fX12_checkPlace_379 a0 a1 a9 a10 h2
  ) else
  if a6 = 0 then (
    if a8 = 0 then (
      fX12_checkPlace_379 a0 a1 a9 a10 h2
    ) else
    (sm_obj h2 (some a0) 12).bind fun b6 =>
    sm_cb (fX12_fail b6 (12 : Int32) a1 h2) fun _ h5 =>
    some ((), h5)
  ) else
  (sm_obj h2 (some a0) 12).bind fun b4 =>
  sm_cb (fX12_fail b4 (12 : Int32) a1 h2) fun _ h3 =>
  some ((), h3)
set_option maxRecDepth 100000 in
set_option maxHeartbeats 4000000 in
theorem sX12_checkPlace_345 (l : Launch) (D : va_G) (aC : Nat → ClassId) (B : Nat)   (a0 : Nat) (a1 : Int32) (a6 : Int32) (a8 : Int32) (a9 : Int32) (a10 : Int64) (h : sm_H) : zS l D aC B cX12_checkPlace 12 RX12 3 77 none "checkPlace" vlU (fX12_checkPlace_345 a0 a1 a6 a8 a9 a10 h) 345 [(0, vR (some a0)), (1, vI a1), (6, vI a6), (8, vI a8), (9, vI a9), (10, vJ a10)] [] h := by
  unfold fX12_checkPlace_345
  refine sm_lload (i := 10) (j := 5) (pc' := 347) dX12_checkPlace_345 rfl rfl ?_
  refine sm_ldc2 (v := (4 : Int64)) (pc' := 350) dX12_checkPlace_347 rfl mw761 ?_
  refine sm_ldc2 (v := (5 : Int64)) (pc' := 353) dX12_checkPlace_350 rfl mw870 ?_
  refine sm_cSI (pc' := 356) (st := []) [vJ a10, vJ (4 : Int64), vJ (5 : Int64)] yY_yX12_in mw701 mw702 (mX12_in l D aC B a10 (4 : Int64) (5 : Int64) h) rfl (by decide) (by decide) (by exact Nat.le_of_ble_eq_true rfl) rfl dX12_checkPlace_353 rfl (fun x1 h2 => ?_)
  refine sm_if_eq (tgt := 379) (pc' := 359) dX12_checkPlace_356 (by decide) rfl ?_ ?_
  · refine sm_lo (lv' := [(0, vR (some a0)), (1, vI a1), (9, vI a9), (10, vJ a10)]) [0, 1, 4, 5] rfl ?_
    exact sX12_checkPlace_379 l D aC B  a0 a1 a9 a10 h2
  refine sm_iload (i := 6) (j := 2) (pc' := 361) dX12_checkPlace_359 rfl rfl ?_
  refine sm_if_ne (tgt := 369) (pc' := 364) dX12_checkPlace_361 (by decide) rfl ?_ ?_
  · refine sm_aload_n (i := 0) (j := 0) (pc' := 370) dX12_checkPlace_369 rfl rfl rfl ?_
    refine sm_bipush (v := (12 : Int32)) (pc' := 372) dX12_checkPlace_370 rfl (by decide) ?_
    refine sm_iload_n (i := 1) (j := 1) (pc' := 373) dX12_checkPlace_372 rfl rfl rfl ?_
    refine sm_cVU (pc' := 376) (ci := 12) (st := []) (F := fun b => fX12_fail b (12 : Int32) a1 h2) [vI (12 : Int32), vI a1] yY_yX12_fail rfl mw871 mw872 mw873 (fun b => mX12_fail l D aC B b (12 : Int32) a1 h2) rfl (by decide) (by decide) (by exact Nat.le_of_ble_eq_true rfl) rfl dX12_checkPlace_373 rfl (fun _ h3 => ?_)
    refine sm_goto (pc' := 407) dX12_checkPlace_376 (by decide) ?_
    exact sm_vret rfl dX12_checkPlace_407
  refine sm_iload (i := 8) (j := 3) (pc' := 366) dX12_checkPlace_364 rfl rfl ?_
  refine sm_if_eq (tgt := 379) (pc' := 369) dX12_checkPlace_366 (by decide) rfl ?_ ?_
  · refine sm_lo (lv' := [(0, vR (some a0)), (1, vI a1), (9, vI a9), (10, vJ a10)]) [0, 1, 4, 5] rfl ?_
    exact sX12_checkPlace_379 l D aC B  a0 a1 a9 a10 h2
  refine sm_aload_n (i := 0) (j := 0) (pc' := 370) dX12_checkPlace_369 rfl rfl rfl ?_
  refine sm_bipush (v := (12 : Int32)) (pc' := 372) dX12_checkPlace_370 rfl (by decide) ?_
  refine sm_iload_n (i := 1) (j := 1) (pc' := 373) dX12_checkPlace_372 rfl rfl rfl ?_
  refine sm_cVU (pc' := 376) (ci := 12) (st := []) (F := fun b => fX12_fail b (12 : Int32) a1 h2) [vI (12 : Int32), vI a1] yY_yX12_fail rfl mw871 mw872 mw873 (fun b => mX12_fail l D aC B b (12 : Int32) a1 h2) rfl (by decide) (by decide) (by exact Nat.le_of_ble_eq_true rfl) rfl dX12_checkPlace_373 rfl (fun _ h5 => ?_)
  refine sm_goto (pc' := 407) dX12_checkPlace_376 (by decide) ?_
  exact sm_vret rfl dX12_checkPlace_407
noncomputable def fX12_checkPlace_194  : Nat → Nat → Int32 → Int32 → Int32 → Int32 → Int32 → Int32 → Int32 → Int32 → sm_H → Option (Unit × sm_H)
  | 0 => fun _ _ _ _ _ _ _ _ _ _ => none
  | n + 1 => fun a0 a1 a2 a5 a6 a7 a8 a9 a10 h =>
    if a1 ≤ a10 then (
      (sm_R (sm_get h (some a0) 12 16)).bind fun x1 =>
      (sm_aI h x1 2 a2).bind fun x2 =>
      if x2 = 0 then (
        if a6 = 0 then (
          if a7 = 0 then (
            (sm_obj h (some a0) 12).bind fun b8 =>
            sm_cb (fX12_fail b8 (18 : Int32) a1 h) fun _ h7 =>
            some ((), h7)
          ) else
          some ((), h)
        ) else
        some ((), h)
      ) else
      (sm_R (sm_get h (some a0) 12 39)).bind fun x3 =>
      (sm_aJ h x3 1 a1).bind fun x4 =>
      if 0 ≤ (lg_cmp x4 (3 : Int64)) then (
        fX12_checkPlace_345 a0 a1 a6 a8 a9 x4 h
      ) else
      if a6 = 0 then (
        (sm_obj h (some a0) 12).bind fun b6 =>
        sm_cb (fX12_fail b6 (12 : Int32) a1 h) fun _ h5 =>
        some ((), h5)
      ) else
      fX12_checkPlace_345 a0 a1 a6 a8 a9 x4 h
    ) else
    (sm_R (sm_get h (some a0) 12 36)).bind fun x9 =>
    (sm_R (sm_get h (some a0) 12 37)).bind fun x10 =>
    (sm_aI h x10 0 a10).bind fun x11 =>
    (sm_obj h (some a0) 12).bind fun b36 =>
    sm_cb (fX12_objectOf b36 x9 ((16 : Int32) * a10) x11 (2 : Int32) h) fun x12 h13 =>
    if x12 < 0 then (
      sm_let (a9 + (0 : Int32)) fun x14 =>
      sm_let (a10 + (1 : Int32)) fun x15 =>
      (fX12_checkPlace_194 n) a0 a1 a2 a5 a6 a7 a8 x14 x15 h13
    ) else
    (sm_R (sm_get h13 (some a0) 12 16)).bind fun x16 =>
    (sm_aI h13 x16 2 x12).bind fun x17 =>
    if x17 = 0 then (
      sm_let (a9 + (0 : Int32)) fun x18 =>
      sm_let (a10 + (1 : Int32)) fun x19 =>
      (fX12_checkPlace_194 n) a0 a1 a2 a5 a6 a7 a8 x18 x19 h13
    ) else
    (sm_R (sm_get h13 (some a0) 12 15)).bind fun x20 =>
    (sm_aI h13 x20 0 x12).bind fun x21 =>
    if x21 = a5 then (
      (sm_R (sm_get h13 (some a0) 12 38)).bind fun x24 =>
      (sm_aI h13 x24 0 a10).bind fun x25 =>
      if x25 = (2 : Int32) then (
        (sm_R (sm_get h13 (some a0) 12 39)).bind fun x28 =>
        (sm_aJ h13 x28 1 a10).bind fun x29 =>
        sm_cb (fX12_in x29 (4 : Int64) (5 : Int64) h13) fun x30 h31 =>
        if x30 = 0 then (
          sm_let (a9 + (0 : Int32)) fun x32 =>
          sm_let (a10 + (1 : Int32)) fun x33 =>
          (fX12_checkPlace_194 n) a0 a1 a2 a5 a6 a7 a8 x32 x33 h31
        ) else
        sm_let (a9 + (1 : Int32)) fun x34 =>
        sm_let (a10 + (1 : Int32)) fun x35 =>
        (fX12_checkPlace_194 n) a0 a1 a2 a5 a6 a7 a8 x34 x35 h31
      ) else
      sm_let (a9 + (0 : Int32)) fun x26 =>
      sm_let (a10 + (1 : Int32)) fun x27 =>
      (fX12_checkPlace_194 n) a0 a1 a2 a5 a6 a7 a8 x26 x27 h13
    ) else
    sm_let (a9 + (0 : Int32)) fun x22 =>
    sm_let (a10 + (1 : Int32)) fun x23 =>
    (fX12_checkPlace_194 n) a0 a1 a2 a5 a6 a7 a8 x22 x23 h13
set_option maxRecDepth 100000 in
set_option maxHeartbeats 4000000 in
theorem sX12_checkPlace_194 (l : Launch) (D : va_G) (aC : Nat → ClassId) (B : Nat)   (n : Nat) : ∀ (a0 : Nat) (a1 : Int32) (a2 : Int32) (a5 : Int32) (a6 : Int32) (a7 : Int32) (a8 : Int32) (a9 : Int32) (a10 : Int32) (h : sm_H), zS l D aC B cX12_checkPlace 12 RX12 3 77 none "checkPlace" vlU (fX12_checkPlace_194 n a0 a1 a2 a5 a6 a7 a8 a9 a10 h) 194 [(0, vR (some a0)), (1, vI a1), (2, vI a2), (5, vI a5), (6, vI a6), (7, vI a7), (8, vI a8), (9, vI a9), (10, vI a10)] [] h := by
  induction n with
  | zero => intro a0 a1 a2 a5 a6 a7 a8 a9 a10 h; exact sm_none
  | succ n ih =>
    intro a0 a1 a2 a5 a6 a7 a8 a9 a10 h
    show zS l D aC B cX12_checkPlace 12 RX12 3 77 none "checkPlace" vlU (fX12_checkPlace_194 (n + 1) a0 a1 a2 a5 a6 a7 a8 a9 a10 h) 194 [(0, vR (some a0)), (1, vI a1), (2, vI a2), (5, vI a5), (6, vI a6), (7, vI a7), (8, vI a8), (9, vI a9), (10, vI a10)] [] h
    unfold fX12_checkPlace_194
    refine sm_iload (i := 10) (j := 8) (pc' := 196) dX12_checkPlace_194 rfl rfl ?_
    refine sm_iload_n (i := 1) (j := 1) (pc' := 197) dX12_checkPlace_196 rfl rfl rfl ?_
    refine sm_icmp_ge (tgt := 296) (pc' := 200) dX12_checkPlace_197 (by decide) rfl ?_ ?_
    · refine sm_aload_n (i := 0) (j := 0) (pc' := 297) dX12_checkPlace_296 rfl rfl rfl ?_
      refine sm_getR (k := 16) (pc' := 300) kX12 (by decide) mw668 dX12_checkPlace_297 rfl (fun x1 => ?_)
      refine sm_iload_n (i := 2) (j := 2) (pc' := 301) dX12_checkPlace_300 rfl rfl rfl ?_
      refine sm_zald (t := 2) (pc' := 302) rfl dX12_checkPlace_301 rfl (fun x2 => ?_)
      refine sm_if_ne (tgt := 323) (pc' := 305) dX12_checkPlace_302 (by decide) rfl ?_ ?_
      · refine sm_aload_n (i := 0) (j := 0) (pc' := 324) dX12_checkPlace_323 rfl rfl rfl ?_
        refine sm_getR (k := 39) (pc' := 327) kX12 (by decide) mw689 dX12_checkPlace_324 rfl (fun x3 => ?_)
        refine sm_iload_n (i := 1) (j := 1) (pc' := 328) dX12_checkPlace_327 rfl rfl rfl ?_
        refine sm_lald (t := 1) (pc' := 329) rfl dX12_checkPlace_328 rfl (fun x4 => ?_)
        refine sm_lstore (i := 10) (lv' := [(10, vJ x4), (0, vR (some a0)), (1, vI a1), (2, vI a2), (5, vI a5), (6, vI a6), (7, vI a7), (8, vI a8), (9, vI a9)]) (pc' := 331) dX12_checkPlace_329 rfl (by decide) rfl ?_
        refine sm_lload (i := 10) (j := 0) (pc' := 333) dX12_checkPlace_331 rfl rfl ?_
        refine sm_ldc2 (v := (3 : Int64)) (pc' := 336) dX12_checkPlace_333 rfl mw874 ?_
        refine sm_lcmp (pc' := 337) dX12_checkPlace_336 rfl ?_
        refine sm_if_ge (tgt := 345) (pc' := 340) dX12_checkPlace_337 (by decide) rfl ?_ ?_
        · refine sm_lo (lv' := [(0, vR (some a0)), (1, vI a1), (6, vI a6), (8, vI a8), (9, vI a9), (10, vJ x4)]) [1, 2, 5, 7, 8, 0] rfl ?_
          exact sX12_checkPlace_345 l D aC B  a0 a1 a6 a8 a9 x4 h
        refine sm_iload (i := 6) (j := 5) (pc' := 342) dX12_checkPlace_340 rfl rfl ?_
        refine sm_if_eq (tgt := 369) (pc' := 345) dX12_checkPlace_342 (by decide) rfl ?_ ?_
        · refine sm_aload_n (i := 0) (j := 1) (pc' := 370) dX12_checkPlace_369 rfl rfl rfl ?_
          refine sm_bipush (v := (12 : Int32)) (pc' := 372) dX12_checkPlace_370 rfl (by decide) ?_
          refine sm_iload_n (i := 1) (j := 2) (pc' := 373) dX12_checkPlace_372 rfl rfl rfl ?_
          refine sm_cVU (pc' := 376) (ci := 12) (st := []) (F := fun b => fX12_fail b (12 : Int32) a1 h) [vI (12 : Int32), vI a1] yY_yX12_fail rfl mw871 mw872 mw873 (fun b => mX12_fail l D aC B b (12 : Int32) a1 h) rfl (by decide) (by decide) (by exact Nat.le_of_ble_eq_true rfl) rfl dX12_checkPlace_373 rfl (fun _ h5 => ?_)
          refine sm_goto (pc' := 407) dX12_checkPlace_376 (by decide) ?_
          exact sm_vret rfl dX12_checkPlace_407
        refine sm_lo (lv' := [(0, vR (some a0)), (1, vI a1), (6, vI a6), (8, vI a8), (9, vI a9), (10, vJ x4)]) [1, 2, 5, 7, 8, 0] rfl ?_
        exact sX12_checkPlace_345 l D aC B  a0 a1 a6 a8 a9 x4 h
      refine sm_iload (i := 6) (j := 4) (pc' := 307) dX12_checkPlace_305 rfl rfl ?_
      refine sm_if_ne (tgt := 322) (pc' := 310) dX12_checkPlace_307 (by decide) rfl ?_ ?_
      · exact sm_vret rfl dX12_checkPlace_322
      refine sm_iload (i := 7) (j := 5) (pc' := 312) dX12_checkPlace_310 rfl rfl ?_
      refine sm_if_ne (tgt := 322) (pc' := 315) dX12_checkPlace_312 (by decide) rfl ?_ ?_
      · exact sm_vret rfl dX12_checkPlace_322
      refine sm_aload_n (i := 0) (j := 0) (pc' := 316) dX12_checkPlace_315 rfl rfl rfl ?_
      refine sm_bipush (v := (18 : Int32)) (pc' := 318) dX12_checkPlace_316 rfl (by decide) ?_
      refine sm_iload_n (i := 1) (j := 1) (pc' := 319) dX12_checkPlace_318 rfl rfl rfl ?_
      refine sm_cVU (pc' := 322) (ci := 12) (st := []) (F := fun b => fX12_fail b (18 : Int32) a1 h) [vI (18 : Int32), vI a1] yY_yX12_fail rfl mw871 mw872 mw873 (fun b => mX12_fail l D aC B b (18 : Int32) a1 h) rfl (by decide) (by decide) (by exact Nat.le_of_ble_eq_true rfl) rfl dX12_checkPlace_319 rfl (fun _ h7 => ?_)
      exact sm_vret rfl dX12_checkPlace_322
    refine sm_aload_n (i := 0) (j := 0) (pc' := 201) dX12_checkPlace_200 rfl rfl rfl ?_
    refine sm_aload_n (i := 0) (j := 0) (pc' := 202) dX12_checkPlace_201 rfl rfl rfl ?_
    refine sm_getR (k := 36) (pc' := 205) kX12 (by decide) mw686 dX12_checkPlace_202 rfl (fun x9 => ?_)
    refine sm_bipush (v := (16 : Int32)) (pc' := 207) dX12_checkPlace_205 rfl (by decide) ?_
    refine sm_iload (i := 10) (j := 8) (pc' := 209) dX12_checkPlace_207 rfl rfl ?_
    refine sm_imul (pc' := 210) dX12_checkPlace_209 rfl ?_
    refine sm_aload_n (i := 0) (j := 0) (pc' := 211) dX12_checkPlace_210 rfl rfl rfl ?_
    refine sm_getR (k := 37) (pc' := 214) kX12 (by decide) mw687 dX12_checkPlace_211 rfl (fun x10 => ?_)
    refine sm_iload (i := 10) (j := 8) (pc' := 216) dX12_checkPlace_214 rfl rfl ?_
    refine sm_iald (t := 0) (pc' := 217) rfl dX12_checkPlace_216 rfl (fun x11 => ?_)
    refine sm_iconst (v := (2 : Int32)) (pc' := 218) dX12_checkPlace_217 rfl (by decide) ?_
    refine sm_cVI (pc' := 221) (ci := 12) (st := []) (F := fun b => fX12_objectOf b x9 ((16 : Int32) * a10) x11 (2 : Int32) h) [vR x9, vI ((16 : Int32) * a10), vI x11, vI (2 : Int32)] yY_yX12_objectOf rfl mw804 mw808 mw809 (fun b => mX12_objectOf l D aC B b x9 ((16 : Int32) * a10) x11 (2 : Int32) h) rfl (by decide) (by decide) (by exact Nat.le_of_ble_eq_true rfl) rfl dX12_checkPlace_218 rfl (fun x12 h13 => ?_)
    refine sm_istore (i := 11) (lv' := [(11, vI x12), (0, vR (some a0)), (1, vI a1), (2, vI a2), (5, vI a5), (6, vI a6), (7, vI a7), (8, vI a8), (9, vI a9), (10, vI a10)]) (pc' := 223) dX12_checkPlace_221 rfl (by decide) rfl ?_
    refine sm_iload (i := 9) (j := 8) (pc' := 225) dX12_checkPlace_223 rfl rfl ?_
    refine sm_iload (i := 11) (j := 0) (pc' := 227) dX12_checkPlace_225 rfl rfl ?_
    refine sm_if_lt (tgt := 286) (pc' := 230) dX12_checkPlace_227 (by decide) rfl ?_ ?_
    · refine sm_iconst (v := (0 : Int32)) (pc' := 287) dX12_checkPlace_286 rfl (by decide) ?_
      refine sm_iadd (pc' := 288) dX12_checkPlace_287 rfl ?_
      refine sm_letIv (fun x14 => ?_)
      refine sm_istore (i := 9) (lv' := [(9, vI x14), (11, vI x12), (0, vR (some a0)), (1, vI a1), (2, vI a2), (5, vI a5), (6, vI a6), (7, vI a7), (8, vI a8), (10, vI a10)]) (pc' := 290) dX12_checkPlace_288 rfl (by decide) rfl ?_
      refine sm_iincL (i := 10) (j := 9) (x := a10) (d := (1 : Int32)) (fun x15 => [(10, vI x15), (9, vI x14), (11, vI x12), (0, vR (some a0)), (1, vI a1), (2, vI a2), (5, vI a5), (6, vI a6), (7, vI a7), (8, vI a8)]) (pc' := 293) dX12_checkPlace_290 rfl rfl (by decide) (by decide) (fun _ => rfl) (fun x15 => ?_)
      refine sm_goto (pc' := 194) dX12_checkPlace_293 (by decide) ?_
      refine sm_lo (lv' := [(0, vR (some a0)), (1, vI a1), (2, vI a2), (5, vI a5), (6, vI a6), (7, vI a7), (8, vI a8), (9, vI x14), (10, vI x15)]) [3, 4, 5, 6, 7, 8, 9, 1, 0] rfl ?_
      exact ih a0 a1 a2 a5 a6 a7 a8 x14 x15 h13
    refine sm_aload_n (i := 0) (j := 1) (pc' := 231) dX12_checkPlace_230 rfl rfl rfl ?_
    refine sm_getR (k := 16) (pc' := 234) kX12 (by decide) mw668 dX12_checkPlace_231 rfl (fun x16 => ?_)
    refine sm_iload (i := 11) (j := 0) (pc' := 236) dX12_checkPlace_234 rfl rfl ?_
    refine sm_zald (t := 2) (pc' := 237) rfl dX12_checkPlace_236 rfl (fun x17 => ?_)
    refine sm_if_eq (tgt := 286) (pc' := 240) dX12_checkPlace_237 (by decide) rfl ?_ ?_
    · refine sm_iconst (v := (0 : Int32)) (pc' := 287) dX12_checkPlace_286 rfl (by decide) ?_
      refine sm_iadd (pc' := 288) dX12_checkPlace_287 rfl ?_
      refine sm_letIv (fun x18 => ?_)
      refine sm_istore (i := 9) (lv' := [(9, vI x18), (11, vI x12), (0, vR (some a0)), (1, vI a1), (2, vI a2), (5, vI a5), (6, vI a6), (7, vI a7), (8, vI a8), (10, vI a10)]) (pc' := 290) dX12_checkPlace_288 rfl (by decide) rfl ?_
      refine sm_iincL (i := 10) (j := 9) (x := a10) (d := (1 : Int32)) (fun x19 => [(10, vI x19), (9, vI x18), (11, vI x12), (0, vR (some a0)), (1, vI a1), (2, vI a2), (5, vI a5), (6, vI a6), (7, vI a7), (8, vI a8)]) (pc' := 293) dX12_checkPlace_290 rfl rfl (by decide) (by decide) (fun _ => rfl) (fun x19 => ?_)
      refine sm_goto (pc' := 194) dX12_checkPlace_293 (by decide) ?_
      refine sm_lo (lv' := [(0, vR (some a0)), (1, vI a1), (2, vI a2), (5, vI a5), (6, vI a6), (7, vI a7), (8, vI a8), (9, vI x18), (10, vI x19)]) [3, 4, 5, 6, 7, 8, 9, 1, 0] rfl ?_
      exact ih a0 a1 a2 a5 a6 a7 a8 x18 x19 h13
    refine sm_aload_n (i := 0) (j := 1) (pc' := 241) dX12_checkPlace_240 rfl rfl rfl ?_
    refine sm_getR (k := 15) (pc' := 244) kX12 (by decide) mw667 dX12_checkPlace_241 rfl (fun x20 => ?_)
    refine sm_iload (i := 11) (j := 0) (pc' := 246) dX12_checkPlace_244 rfl rfl ?_
    refine sm_iald (t := 0) (pc' := 247) rfl dX12_checkPlace_246 rfl (fun x21 => ?_)
    refine sm_iload (i := 5) (j := 4) (pc' := 249) dX12_checkPlace_247 rfl rfl ?_
    refine sm_icmp_ne (tgt := 286) (pc' := 252) dX12_checkPlace_249 (by decide) rfl ?_ ?_
    · refine sm_iconst (v := (0 : Int32)) (pc' := 287) dX12_checkPlace_286 rfl (by decide) ?_
      refine sm_iadd (pc' := 288) dX12_checkPlace_287 rfl ?_
      refine sm_letIv (fun x22 => ?_)
      refine sm_istore (i := 9) (lv' := [(9, vI x22), (11, vI x12), (0, vR (some a0)), (1, vI a1), (2, vI a2), (5, vI a5), (6, vI a6), (7, vI a7), (8, vI a8), (10, vI a10)]) (pc' := 290) dX12_checkPlace_288 rfl (by decide) rfl ?_
      refine sm_iincL (i := 10) (j := 9) (x := a10) (d := (1 : Int32)) (fun x23 => [(10, vI x23), (9, vI x22), (11, vI x12), (0, vR (some a0)), (1, vI a1), (2, vI a2), (5, vI a5), (6, vI a6), (7, vI a7), (8, vI a8)]) (pc' := 293) dX12_checkPlace_290 rfl rfl (by decide) (by decide) (fun _ => rfl) (fun x23 => ?_)
      refine sm_goto (pc' := 194) dX12_checkPlace_293 (by decide) ?_
      refine sm_lo (lv' := [(0, vR (some a0)), (1, vI a1), (2, vI a2), (5, vI a5), (6, vI a6), (7, vI a7), (8, vI a8), (9, vI x22), (10, vI x23)]) [3, 4, 5, 6, 7, 8, 9, 1, 0] rfl ?_
      exact ih a0 a1 a2 a5 a6 a7 a8 x22 x23 h13
    refine sm_aload_n (i := 0) (j := 1) (pc' := 253) dX12_checkPlace_252 rfl rfl rfl ?_
    refine sm_getR (k := 38) (pc' := 256) kX12 (by decide) mw688 dX12_checkPlace_253 rfl (fun x24 => ?_)
    refine sm_iload (i := 10) (j := 9) (pc' := 258) dX12_checkPlace_256 rfl rfl ?_
    refine sm_iald (t := 0) (pc' := 259) rfl dX12_checkPlace_258 rfl (fun x25 => ?_)
    refine sm_iconst (v := (2 : Int32)) (pc' := 260) dX12_checkPlace_259 rfl (by decide) ?_
    refine sm_icmp_ne (tgt := 286) (pc' := 263) dX12_checkPlace_260 (by decide) rfl ?_ ?_
    · refine sm_iconst (v := (0 : Int32)) (pc' := 287) dX12_checkPlace_286 rfl (by decide) ?_
      refine sm_iadd (pc' := 288) dX12_checkPlace_287 rfl ?_
      refine sm_letIv (fun x26 => ?_)
      refine sm_istore (i := 9) (lv' := [(9, vI x26), (11, vI x12), (0, vR (some a0)), (1, vI a1), (2, vI a2), (5, vI a5), (6, vI a6), (7, vI a7), (8, vI a8), (10, vI a10)]) (pc' := 290) dX12_checkPlace_288 rfl (by decide) rfl ?_
      refine sm_iincL (i := 10) (j := 9) (x := a10) (d := (1 : Int32)) (fun x27 => [(10, vI x27), (9, vI x26), (11, vI x12), (0, vR (some a0)), (1, vI a1), (2, vI a2), (5, vI a5), (6, vI a6), (7, vI a7), (8, vI a8)]) (pc' := 293) dX12_checkPlace_290 rfl rfl (by decide) (by decide) (fun _ => rfl) (fun x27 => ?_)
      refine sm_goto (pc' := 194) dX12_checkPlace_293 (by decide) ?_
      refine sm_lo (lv' := [(0, vR (some a0)), (1, vI a1), (2, vI a2), (5, vI a5), (6, vI a6), (7, vI a7), (8, vI a8), (9, vI x26), (10, vI x27)]) [3, 4, 5, 6, 7, 8, 9, 1, 0] rfl ?_
      exact ih a0 a1 a2 a5 a6 a7 a8 x26 x27 h13
    refine sm_aload_n (i := 0) (j := 1) (pc' := 264) dX12_checkPlace_263 rfl rfl rfl ?_
    refine sm_getR (k := 39) (pc' := 267) kX12 (by decide) mw689 dX12_checkPlace_264 rfl (fun x28 => ?_)
    refine sm_iload (i := 10) (j := 9) (pc' := 269) dX12_checkPlace_267 rfl rfl ?_
    refine sm_lald (t := 1) (pc' := 270) rfl dX12_checkPlace_269 rfl (fun x29 => ?_)
    refine sm_ldc2 (v := (4 : Int64)) (pc' := 273) dX12_checkPlace_270 rfl mw761 ?_
    refine sm_ldc2 (v := (5 : Int64)) (pc' := 276) dX12_checkPlace_273 rfl mw870 ?_
    refine sm_cSI (pc' := 279) (st := [vI a9]) [vJ x29, vJ (4 : Int64), vJ (5 : Int64)] yY_yX12_in mw701 mw702 (mX12_in l D aC B x29 (4 : Int64) (5 : Int64) h13) rfl (by decide) (by decide) (by exact Nat.le_of_ble_eq_true rfl) rfl dX12_checkPlace_276 rfl (fun x30 h31 => ?_)
    refine sm_if_eq (tgt := 286) (pc' := 282) dX12_checkPlace_279 (by decide) rfl ?_ ?_
    · refine sm_iconst (v := (0 : Int32)) (pc' := 287) dX12_checkPlace_286 rfl (by decide) ?_
      refine sm_iadd (pc' := 288) dX12_checkPlace_287 rfl ?_
      refine sm_letIv (fun x32 => ?_)
      refine sm_istore (i := 9) (lv' := [(9, vI x32), (11, vI x12), (0, vR (some a0)), (1, vI a1), (2, vI a2), (5, vI a5), (6, vI a6), (7, vI a7), (8, vI a8), (10, vI a10)]) (pc' := 290) dX12_checkPlace_288 rfl (by decide) rfl ?_
      refine sm_iincL (i := 10) (j := 9) (x := a10) (d := (1 : Int32)) (fun x33 => [(10, vI x33), (9, vI x32), (11, vI x12), (0, vR (some a0)), (1, vI a1), (2, vI a2), (5, vI a5), (6, vI a6), (7, vI a7), (8, vI a8)]) (pc' := 293) dX12_checkPlace_290 rfl rfl (by decide) (by decide) (fun _ => rfl) (fun x33 => ?_)
      refine sm_goto (pc' := 194) dX12_checkPlace_293 (by decide) ?_
      refine sm_lo (lv' := [(0, vR (some a0)), (1, vI a1), (2, vI a2), (5, vI a5), (6, vI a6), (7, vI a7), (8, vI a8), (9, vI x32), (10, vI x33)]) [3, 4, 5, 6, 7, 8, 9, 1, 0] rfl ?_
      exact ih a0 a1 a2 a5 a6 a7 a8 x32 x33 h31
    refine sm_iconst (v := (1 : Int32)) (pc' := 283) dX12_checkPlace_282 rfl (by decide) ?_
    refine sm_goto (pc' := 287) dX12_checkPlace_283 (by decide) ?_
    refine sm_iadd (pc' := 288) dX12_checkPlace_287 rfl ?_
    refine sm_letIv (fun x34 => ?_)
    refine sm_istore (i := 9) (lv' := [(9, vI x34), (11, vI x12), (0, vR (some a0)), (1, vI a1), (2, vI a2), (5, vI a5), (6, vI a6), (7, vI a7), (8, vI a8), (10, vI a10)]) (pc' := 290) dX12_checkPlace_288 rfl (by decide) rfl ?_
    refine sm_iincL (i := 10) (j := 9) (x := a10) (d := (1 : Int32)) (fun x35 => [(10, vI x35), (9, vI x34), (11, vI x12), (0, vR (some a0)), (1, vI a1), (2, vI a2), (5, vI a5), (6, vI a6), (7, vI a7), (8, vI a8)]) (pc' := 293) dX12_checkPlace_290 rfl rfl (by decide) (by decide) (fun _ => rfl) (fun x35 => ?_)
    refine sm_goto (pc' := 194) dX12_checkPlace_293 (by decide) ?_
    refine sm_lo (lv' := [(0, vR (some a0)), (1, vI a1), (2, vI a2), (5, vI a5), (6, vI a6), (7, vI a7), (8, vI a8), (9, vI x34), (10, vI x35)]) [3, 4, 5, 6, 7, 8, 9, 1, 0] rfl ?_
    exact ih a0 a1 a2 a5 a6 a7 a8 x34 x35 h31
noncomputable def fX12_checkPlace_153 (K122 : Nat → Int32 → Int32 → Int64 → Int32 → Int32 → Int32 → Int32 → Int32 → Int32 → sm_H → Option (Unit × sm_H)) (a0 : Nat) (a1 : Int32) (a2 : Int32) (a3 : Int64) (a5 : Int32) (a6 : Int32) (a8 : Int32) (a9 : Int32) (a10 : Int32) (s0 : Int32) (h : sm_H) : Option (Unit × sm_H) :=
  if a8 = 0 then (
    if a1 ≤ a10 then (
      sm_let (a10 + (1 : Int32)) fun x2 =>
      K122 a0 a1 a2 a3 a5 a6 s0 (0 : Int32) a9 x2 h
    ) else
    (sm_obj h (some a0) 12).bind fun b7 =>
    sm_cb (fX12_isMaking b7 a10 a5 a3 h) fun x3 h4 =>
    if x3 = 0 then (
      sm_let (a10 + (1 : Int32)) fun x5 =>
      K122 a0 a1 a2 a3 a5 a6 s0 (0 : Int32) a9 x5 h4
    ) else
    sm_let (a10 + (1 : Int32)) fun x6 =>
    K122 a0 a1 a2 a3 a5 a6 s0 (1 : Int32) a9 x6 h4
  ) else
  sm_let (a10 + (1 : Int32)) fun x1 =>
  K122 a0 a1 a2 a3 a5 a6 s0 (1 : Int32) a9 x1 h
set_option maxRecDepth 100000 in
set_option maxHeartbeats 4000000 in
theorem sX12_checkPlace_153 (l : Launch) (D : va_G) (aC : Nat → ClassId) (B : Nat) (K122 : Nat → Int32 → Int32 → Int64 → Int32 → Int32 → Int32 → Int32 → Int32 → Int32 → sm_H → Option (Unit × sm_H)) (hK122 : ∀ (a0 : Nat) (a1 : Int32) (a2 : Int32) (a3 : Int64) (a5 : Int32) (a6 : Int32) (a7 : Int32) (a8 : Int32) (a9 : Int32) (a10 : Int32) (h : sm_H), zS l D aC B cX12_checkPlace 12 RX12 3 77 none "checkPlace" vlU (K122 a0 a1 a2 a3 a5 a6 a7 a8 a9 a10 h) 122 [(0, vR (some a0)), (1, vI a1), (2, vI a2), (3, vJ a3), (5, vI a5), (6, vI a6), (7, vI a7), (8, vI a8), (9, vI a9), (10, vI a10)] [] h) (a0 : Nat) (a1 : Int32) (a2 : Int32) (a3 : Int64) (a5 : Int32) (a6 : Int32) (a8 : Int32) (a9 : Int32) (a10 : Int32) (s0 : Int32) (h : sm_H) : zS l D aC B cX12_checkPlace 12 RX12 3 77 none "checkPlace" vlU (fX12_checkPlace_153 K122 a0 a1 a2 a3 a5 a6 a8 a9 a10 s0 h) 153 [(0, vR (some a0)), (1, vI a1), (2, vI a2), (3, vJ a3), (5, vI a5), (6, vI a6), (8, vI a8), (9, vI a9), (10, vI a10)] [vI s0] h := by
  unfold fX12_checkPlace_153
  refine sm_istore (i := 7) (lv' := [(7, vI s0), (0, vR (some a0)), (1, vI a1), (2, vI a2), (3, vJ a3), (5, vI a5), (6, vI a6), (8, vI a8), (9, vI a9), (10, vI a10)]) (pc' := 155) dX12_checkPlace_153 rfl (by decide) rfl ?_
  refine sm_iload (i := 8) (j := 7) (pc' := 157) dX12_checkPlace_155 rfl rfl ?_
  refine sm_if_ne (tgt := 178) (pc' := 160) dX12_checkPlace_157 (by decide) rfl ?_ ?_
  · refine sm_iconst (v := (1 : Int32)) (pc' := 179) dX12_checkPlace_178 rfl (by decide) ?_
    refine sm_goto (pc' := 183) dX12_checkPlace_179 (by decide) ?_
    refine sm_istore (i := 8) (lv' := [(8, vI (1 : Int32)), (7, vI s0), (0, vR (some a0)), (1, vI a1), (2, vI a2), (3, vJ a3), (5, vI a5), (6, vI a6), (9, vI a9), (10, vI a10)]) (pc' := 185) dX12_checkPlace_183 rfl (by decide) rfl ?_
    refine sm_iincL (i := 10) (j := 9) (x := a10) (d := (1 : Int32)) (fun x1 => [(10, vI x1), (8, vI (1 : Int32)), (7, vI s0), (0, vR (some a0)), (1, vI a1), (2, vI a2), (3, vJ a3), (5, vI a5), (6, vI a6), (9, vI a9)]) (pc' := 188) dX12_checkPlace_185 rfl rfl (by decide) (by decide) (fun _ => rfl) (fun x1 => ?_)
    refine sm_goto (pc' := 122) dX12_checkPlace_188 (by decide) ?_
    refine sm_lo (lv' := [(0, vR (some a0)), (1, vI a1), (2, vI a2), (3, vJ a3), (5, vI a5), (6, vI a6), (7, vI s0), (8, vI (1 : Int32)), (9, vI a9), (10, vI x1)]) [3, 4, 5, 6, 7, 8, 2, 1, 9, 0] rfl ?_
    exact hK122 a0 a1 a2 a3 a5 a6 s0 (1 : Int32) a9 x1 h
  refine sm_iload (i := 10) (j := 9) (pc' := 162) dX12_checkPlace_160 rfl rfl ?_
  refine sm_iload_n (i := 1) (j := 2) (pc' := 163) dX12_checkPlace_162 rfl rfl rfl ?_
  refine sm_icmp_ge (tgt := 182) (pc' := 166) dX12_checkPlace_163 (by decide) rfl ?_ ?_
  · refine sm_iconst (v := (0 : Int32)) (pc' := 183) dX12_checkPlace_182 rfl (by decide) ?_
    refine sm_istore (i := 8) (lv' := [(8, vI (0 : Int32)), (7, vI s0), (0, vR (some a0)), (1, vI a1), (2, vI a2), (3, vJ a3), (5, vI a5), (6, vI a6), (9, vI a9), (10, vI a10)]) (pc' := 185) dX12_checkPlace_183 rfl (by decide) rfl ?_
    refine sm_iincL (i := 10) (j := 9) (x := a10) (d := (1 : Int32)) (fun x2 => [(10, vI x2), (8, vI (0 : Int32)), (7, vI s0), (0, vR (some a0)), (1, vI a1), (2, vI a2), (3, vJ a3), (5, vI a5), (6, vI a6), (9, vI a9)]) (pc' := 188) dX12_checkPlace_185 rfl rfl (by decide) (by decide) (fun _ => rfl) (fun x2 => ?_)
    refine sm_goto (pc' := 122) dX12_checkPlace_188 (by decide) ?_
    refine sm_lo (lv' := [(0, vR (some a0)), (1, vI a1), (2, vI a2), (3, vJ a3), (5, vI a5), (6, vI a6), (7, vI s0), (8, vI (0 : Int32)), (9, vI a9), (10, vI x2)]) [3, 4, 5, 6, 7, 8, 2, 1, 9, 0] rfl ?_
    exact hK122 a0 a1 a2 a3 a5 a6 s0 (0 : Int32) a9 x2 h
  refine sm_aload_n (i := 0) (j := 1) (pc' := 167) dX12_checkPlace_166 rfl rfl rfl ?_
  refine sm_iload (i := 10) (j := 9) (pc' := 169) dX12_checkPlace_167 rfl rfl ?_
  refine sm_iload (i := 5) (j := 5) (pc' := 171) dX12_checkPlace_169 rfl rfl ?_
  refine sm_lload_n (i := 3) (j := 4) (pc' := 172) dX12_checkPlace_171 rfl rfl rfl ?_
  refine sm_cVI (pc' := 175) (ci := 12) (st := []) (F := fun b => fX12_isMaking b a10 a5 a3 h) [vI a10, vI a5, vJ a3] yY_yX12_isMaking rfl mw875 mw876 mw877 (fun b => mX12_isMaking l D aC B b a10 a5 a3 h) rfl (by decide) (by decide) (by exact Nat.le_of_ble_eq_true rfl) rfl dX12_checkPlace_172 rfl (fun x3 h4 => ?_)
  refine sm_if_eq (tgt := 182) (pc' := 178) dX12_checkPlace_175 (by decide) rfl ?_ ?_
  · refine sm_iconst (v := (0 : Int32)) (pc' := 183) dX12_checkPlace_182 rfl (by decide) ?_
    refine sm_istore (i := 8) (lv' := [(8, vI (0 : Int32)), (7, vI s0), (0, vR (some a0)), (1, vI a1), (2, vI a2), (3, vJ a3), (5, vI a5), (6, vI a6), (9, vI a9), (10, vI a10)]) (pc' := 185) dX12_checkPlace_183 rfl (by decide) rfl ?_
    refine sm_iincL (i := 10) (j := 9) (x := a10) (d := (1 : Int32)) (fun x5 => [(10, vI x5), (8, vI (0 : Int32)), (7, vI s0), (0, vR (some a0)), (1, vI a1), (2, vI a2), (3, vJ a3), (5, vI a5), (6, vI a6), (9, vI a9)]) (pc' := 188) dX12_checkPlace_185 rfl rfl (by decide) (by decide) (fun _ => rfl) (fun x5 => ?_)
    refine sm_goto (pc' := 122) dX12_checkPlace_188 (by decide) ?_
    refine sm_lo (lv' := [(0, vR (some a0)), (1, vI a1), (2, vI a2), (3, vJ a3), (5, vI a5), (6, vI a6), (7, vI s0), (8, vI (0 : Int32)), (9, vI a9), (10, vI x5)]) [3, 4, 5, 6, 7, 8, 2, 1, 9, 0] rfl ?_
    exact hK122 a0 a1 a2 a3 a5 a6 s0 (0 : Int32) a9 x5 h4
  refine sm_iconst (v := (1 : Int32)) (pc' := 179) dX12_checkPlace_178 rfl (by decide) ?_
  refine sm_goto (pc' := 183) dX12_checkPlace_179 (by decide) ?_
  refine sm_istore (i := 8) (lv' := [(8, vI (1 : Int32)), (7, vI s0), (0, vR (some a0)), (1, vI a1), (2, vI a2), (3, vJ a3), (5, vI a5), (6, vI a6), (9, vI a9), (10, vI a10)]) (pc' := 185) dX12_checkPlace_183 rfl (by decide) rfl ?_
  refine sm_iincL (i := 10) (j := 9) (x := a10) (d := (1 : Int32)) (fun x6 => [(10, vI x6), (8, vI (1 : Int32)), (7, vI s0), (0, vR (some a0)), (1, vI a1), (2, vI a2), (3, vJ a3), (5, vI a5), (6, vI a6), (9, vI a9)]) (pc' := 188) dX12_checkPlace_185 rfl rfl (by decide) (by decide) (fun _ => rfl) (fun x6 => ?_)
  refine sm_goto (pc' := 122) dX12_checkPlace_188 (by decide) ?_
  refine sm_lo (lv' := [(0, vR (some a0)), (1, vI a1), (2, vI a2), (3, vJ a3), (5, vI a5), (6, vI a6), (7, vI s0), (8, vI (1 : Int32)), (9, vI a9), (10, vI x6)]) [3, 4, 5, 6, 7, 8, 2, 1, 9, 0] rfl ?_
  exact hK122 a0 a1 a2 a3 a5 a6 s0 (1 : Int32) a9 x6 h4
noncomputable def fX12_checkPlace_122  : Nat → Nat → Int32 → Int32 → Int64 → Int32 → Int32 → Int32 → Int32 → Int32 → Int32 → sm_H → Option (Unit × sm_H)
  | 0 => fun _ _ _ _ _ _ _ _ _ _ _ => none
  | n + 1 => fun a0 a1 a2 a3 a5 a6 a7 a8 a9 a10 h =>
    (sm_I (sm_get h (some a0) 12 46)).bind fun x1 =>
    if x1 ≤ a10 then (
      fX12_checkPlace_194 sm_fuel a0 a1 a2 a5 a6 a7 a8 a9 (0 : Int32) h
    ) else
    if a7 = 0 then (
      (sm_obj h (some a0) 12).bind fun b4 =>
      sm_cb (fX12_isMaking b4 a10 a5 a3 h) fun x2 h3 =>
      if x2 = 0 then (
        fX12_checkPlace_153 (fX12_checkPlace_122 n) a0 a1 a2 a3 a5 a6 a8 a9 a10 (0 : Int32) h3
      ) else
      fX12_checkPlace_153 (fX12_checkPlace_122 n) a0 a1 a2 a3 a5 a6 a8 a9 a10 (1 : Int32) h3
    ) else
    fX12_checkPlace_153 (fX12_checkPlace_122 n) a0 a1 a2 a3 a5 a6 a8 a9 a10 (1 : Int32) h
set_option maxRecDepth 100000 in
set_option maxHeartbeats 4000000 in
theorem sX12_checkPlace_122 (l : Launch) (D : va_G) (aC : Nat → ClassId) (B : Nat)   (n : Nat) : ∀ (a0 : Nat) (a1 : Int32) (a2 : Int32) (a3 : Int64) (a5 : Int32) (a6 : Int32) (a7 : Int32) (a8 : Int32) (a9 : Int32) (a10 : Int32) (h : sm_H), zS l D aC B cX12_checkPlace 12 RX12 3 77 none "checkPlace" vlU (fX12_checkPlace_122 n a0 a1 a2 a3 a5 a6 a7 a8 a9 a10 h) 122 [(0, vR (some a0)), (1, vI a1), (2, vI a2), (3, vJ a3), (5, vI a5), (6, vI a6), (7, vI a7), (8, vI a8), (9, vI a9), (10, vI a10)] [] h := by
  induction n with
  | zero => intro a0 a1 a2 a3 a5 a6 a7 a8 a9 a10 h; exact sm_none
  | succ n ih =>
    intro a0 a1 a2 a3 a5 a6 a7 a8 a9 a10 h
    show zS l D aC B cX12_checkPlace 12 RX12 3 77 none "checkPlace" vlU (fX12_checkPlace_122 (n + 1) a0 a1 a2 a3 a5 a6 a7 a8 a9 a10 h) 122 [(0, vR (some a0)), (1, vI a1), (2, vI a2), (3, vJ a3), (5, vI a5), (6, vI a6), (7, vI a7), (8, vI a8), (9, vI a9), (10, vI a10)] [] h
    unfold fX12_checkPlace_122
    refine sm_iload (i := 10) (j := 9) (pc' := 124) dX12_checkPlace_122 rfl rfl ?_
    refine sm_aload_n (i := 0) (j := 0) (pc' := 125) dX12_checkPlace_124 rfl rfl rfl ?_
    refine sm_getI (k := 46) (pc' := 128) kX12 (by decide) mw778 dX12_checkPlace_125 rfl (fun x1 => ?_)
    refine sm_icmp_ge (tgt := 191) (pc' := 131) dX12_checkPlace_128 (by decide) rfl ?_ ?_
    · refine sm_iconst (v := (0 : Int32)) (pc' := 192) dX12_checkPlace_191 rfl (by decide) ?_
      refine sm_istore (i := 10) (lv' := [(10, vI (0 : Int32)), (0, vR (some a0)), (1, vI a1), (2, vI a2), (3, vJ a3), (5, vI a5), (6, vI a6), (7, vI a7), (8, vI a8), (9, vI a9)]) (pc' := 194) dX12_checkPlace_192 rfl (by decide) rfl ?_
      refine sm_lo (lv' := [(0, vR (some a0)), (1, vI a1), (2, vI a2), (5, vI a5), (6, vI a6), (7, vI a7), (8, vI a8), (9, vI a9), (10, vI (0 : Int32))]) [1, 2, 3, 5, 6, 7, 8, 9, 0] rfl ?_
      exact sX12_checkPlace_194 l D aC B   sm_fuel a0 a1 a2 a5 a6 a7 a8 a9 (0 : Int32) h
    refine sm_iload (i := 7) (j := 6) (pc' := 133) dX12_checkPlace_131 rfl rfl ?_
    refine sm_if_ne (tgt := 148) (pc' := 136) dX12_checkPlace_133 (by decide) rfl ?_ ?_
    · refine sm_iconst (v := (1 : Int32)) (pc' := 149) dX12_checkPlace_148 rfl (by decide) ?_
      refine sm_goto (pc' := 153) dX12_checkPlace_149 (by decide) ?_
      refine sm_lo (lv' := [(0, vR (some a0)), (1, vI a1), (2, vI a2), (3, vJ a3), (5, vI a5), (6, vI a6), (8, vI a8), (9, vI a9), (10, vI a10)]) [0, 1, 2, 3, 4, 5, 7, 8, 9] rfl ?_
      exact sX12_checkPlace_153 l D aC B  (fX12_checkPlace_122 n) ih a0 a1 a2 a3 a5 a6 a8 a9 a10 (1 : Int32) h
    refine sm_aload_n (i := 0) (j := 0) (pc' := 137) dX12_checkPlace_136 rfl rfl rfl ?_
    refine sm_iload (i := 10) (j := 9) (pc' := 139) dX12_checkPlace_137 rfl rfl ?_
    refine sm_iload (i := 5) (j := 4) (pc' := 141) dX12_checkPlace_139 rfl rfl ?_
    refine sm_lload_n (i := 3) (j := 3) (pc' := 142) dX12_checkPlace_141 rfl rfl rfl ?_
    refine sm_cVI (pc' := 145) (ci := 12) (st := []) (F := fun b => fX12_isMaking b a10 a5 a3 h) [vI a10, vI a5, vJ a3] yY_yX12_isMaking rfl mw875 mw876 mw877 (fun b => mX12_isMaking l D aC B b a10 a5 a3 h) rfl (by decide) (by decide) (by exact Nat.le_of_ble_eq_true rfl) rfl dX12_checkPlace_142 rfl (fun x2 h3 => ?_)
    refine sm_if_eq (tgt := 152) (pc' := 148) dX12_checkPlace_145 (by decide) rfl ?_ ?_
    · refine sm_iconst (v := (0 : Int32)) (pc' := 153) dX12_checkPlace_152 rfl (by decide) ?_
      refine sm_lo (lv' := [(0, vR (some a0)), (1, vI a1), (2, vI a2), (3, vJ a3), (5, vI a5), (6, vI a6), (8, vI a8), (9, vI a9), (10, vI a10)]) [0, 1, 2, 3, 4, 5, 7, 8, 9] rfl ?_
      exact sX12_checkPlace_153 l D aC B  (fX12_checkPlace_122 n) ih a0 a1 a2 a3 a5 a6 a8 a9 a10 (0 : Int32) h3
    refine sm_iconst (v := (1 : Int32)) (pc' := 149) dX12_checkPlace_148 rfl (by decide) ?_
    refine sm_goto (pc' := 153) dX12_checkPlace_149 (by decide) ?_
    refine sm_lo (lv' := [(0, vR (some a0)), (1, vI a1), (2, vI a2), (3, vJ a3), (5, vI a5), (6, vI a6), (8, vI a8), (9, vI a9), (10, vI a10)]) [0, 1, 2, 3, 4, 5, 7, 8, 9] rfl ?_
    exact sX12_checkPlace_153 l D aC B  (fX12_checkPlace_122 n) ih a0 a1 a2 a3 a5 a6 a8 a9 a10 (1 : Int32) h3
noncomputable def fX12_checkPlace_102  (a0 : Nat) (a1 : Int32) (a2 : Int32) (a3 : Int64) (a5 : Int32) (s0 : Int32) (h : sm_H) : Option (Unit × sm_H) :=
  (sm_R (sm_get h (some a0) 12 26)).bind fun x1 =>
  (sm_aI h x1 0 a5).bind fun x2 =>
  fX12_checkPlace_122 sm_fuel a0 a1 a2 a3 a5 s0 (0 : Int32) (0 : Int32) x2 (0 : Int32) h
set_option maxRecDepth 100000 in
set_option maxHeartbeats 4000000 in
theorem sX12_checkPlace_102 (l : Launch) (D : va_G) (aC : Nat → ClassId) (B : Nat)   (a0 : Nat) (a1 : Int32) (a2 : Int32) (a3 : Int64) (a5 : Int32) (s0 : Int32) (h : sm_H) : zS l D aC B cX12_checkPlace 12 RX12 3 77 none "checkPlace" vlU (fX12_checkPlace_102 a0 a1 a2 a3 a5 s0 h) 102 [(0, vR (some a0)), (1, vI a1), (2, vI a2), (3, vJ a3), (5, vI a5)] [vI s0] h := by
  unfold fX12_checkPlace_102
  refine sm_istore (i := 6) (lv' := [(6, vI s0), (0, vR (some a0)), (1, vI a1), (2, vI a2), (3, vJ a3), (5, vI a5)]) (pc' := 104) dX12_checkPlace_102 rfl (by decide) rfl ?_
  refine sm_iconst (v := (0 : Int32)) (pc' := 105) dX12_checkPlace_104 rfl (by decide) ?_
  refine sm_istore (i := 7) (lv' := [(7, vI (0 : Int32)), (6, vI s0), (0, vR (some a0)), (1, vI a1), (2, vI a2), (3, vJ a3), (5, vI a5)]) (pc' := 107) dX12_checkPlace_105 rfl (by decide) rfl ?_
  refine sm_iconst (v := (0 : Int32)) (pc' := 108) dX12_checkPlace_107 rfl (by decide) ?_
  refine sm_istore (i := 8) (lv' := [(8, vI (0 : Int32)), (7, vI (0 : Int32)), (6, vI s0), (0, vR (some a0)), (1, vI a1), (2, vI a2), (3, vJ a3), (5, vI a5)]) (pc' := 110) dX12_checkPlace_108 rfl (by decide) rfl ?_
  refine sm_aload_n (i := 0) (j := 3) (pc' := 111) dX12_checkPlace_110 rfl rfl rfl ?_
  refine sm_getR (k := 26) (pc' := 114) kX12 (by decide) mw677 dX12_checkPlace_111 rfl (fun x1 => ?_)
  refine sm_iload (i := 5) (j := 7) (pc' := 116) dX12_checkPlace_114 rfl rfl ?_
  refine sm_iald (t := 0) (pc' := 117) rfl dX12_checkPlace_116 rfl (fun x2 => ?_)
  refine sm_istore (i := 9) (lv' := [(9, vI x2), (8, vI (0 : Int32)), (7, vI (0 : Int32)), (6, vI s0), (0, vR (some a0)), (1, vI a1), (2, vI a2), (3, vJ a3), (5, vI a5)]) (pc' := 119) dX12_checkPlace_117 rfl (by decide) rfl ?_
  refine sm_iconst (v := (0 : Int32)) (pc' := 120) dX12_checkPlace_119 rfl (by decide) ?_
  refine sm_istore (i := 10) (lv' := [(10, vI (0 : Int32)), (9, vI x2), (8, vI (0 : Int32)), (7, vI (0 : Int32)), (6, vI s0), (0, vR (some a0)), (1, vI a1), (2, vI a2), (3, vJ a3), (5, vI a5)]) (pc' := 122) dX12_checkPlace_120 rfl (by decide) rfl ?_
  refine sm_lo (lv' := [(0, vR (some a0)), (1, vI a1), (2, vI a2), (3, vJ a3), (5, vI a5), (6, vI s0), (7, vI (0 : Int32)), (8, vI (0 : Int32)), (9, vI x2), (10, vI (0 : Int32))]) [5, 6, 7, 8, 9, 4, 3, 2, 1, 0] rfl ?_
  exact sX12_checkPlace_122 l D aC B   sm_fuel a0 a1 a2 a3 a5 s0 (0 : Int32) (0 : Int32) x2 (0 : Int32) h
noncomputable def fX12_checkPlace_81  (a0 : Nat) (a1 : Int32) (a2 : Int32) (a3 : Int64) (a5 : Int32) (h : sm_H) : Option (Unit × sm_H) :=
  if 0 ≤ a5 then (
    (sm_obj h (some a0) 12).bind fun b3 =>
    sm_cb (fX12_placeOf b3 a5 a3 h) fun x1 h2 =>
    if x1 < 0 then (
      fX12_checkPlace_102 a0 a1 a2 a3 a5 (0 : Int32) h2
    ) else
    fX12_checkPlace_102 a0 a1 a2 a3 a5 (1 : Int32) h2
  ) else
  some ((), h)
set_option maxRecDepth 100000 in
set_option maxHeartbeats 4000000 in
theorem sX12_checkPlace_81 (l : Launch) (D : va_G) (aC : Nat → ClassId) (B : Nat)   (a0 : Nat) (a1 : Int32) (a2 : Int32) (a3 : Int64) (a5 : Int32) (h : sm_H) : zS l D aC B cX12_checkPlace 12 RX12 3 77 none "checkPlace" vlU (fX12_checkPlace_81 a0 a1 a2 a3 a5 h) 81 [(0, vR (some a0)), (1, vI a1), (2, vI a2), (3, vJ a3), (5, vI a5)] [] h := by
  unfold fX12_checkPlace_81
  refine sm_iload (i := 5) (j := 4) (pc' := 83) dX12_checkPlace_81 rfl rfl ?_
  refine sm_if_ge (tgt := 87) (pc' := 86) dX12_checkPlace_83 (by decide) rfl ?_ ?_
  · refine sm_aload_n (i := 0) (j := 0) (pc' := 88) dX12_checkPlace_87 rfl rfl rfl ?_
    refine sm_iload (i := 5) (j := 4) (pc' := 90) dX12_checkPlace_88 rfl rfl ?_
    refine sm_lload_n (i := 3) (j := 3) (pc' := 91) dX12_checkPlace_90 rfl rfl rfl ?_
    refine sm_cVI (pc' := 94) (ci := 12) (st := []) (F := fun b => fX12_placeOf b a5 a3 h) [vI a5, vJ a3] yY_yX12_placeOf rfl mw736 mw737 mw738 (fun b => mX12_placeOf l D aC B b a5 a3 h) rfl (by decide) (by decide) (by exact Nat.le_of_ble_eq_true rfl) rfl dX12_checkPlace_91 rfl (fun x1 h2 => ?_)
    refine sm_if_lt (tgt := 101) (pc' := 97) dX12_checkPlace_94 (by decide) rfl ?_ ?_
    · refine sm_iconst (v := (0 : Int32)) (pc' := 102) dX12_checkPlace_101 rfl (by decide) ?_
      exact sX12_checkPlace_102 l D aC B  a0 a1 a2 a3 a5 (0 : Int32) h2
    refine sm_iconst (v := (1 : Int32)) (pc' := 98) dX12_checkPlace_97 rfl (by decide) ?_
    refine sm_goto (pc' := 102) dX12_checkPlace_98 (by decide) ?_
    exact sX12_checkPlace_102 l D aC B  a0 a1 a2 a3 a5 (1 : Int32) h2
  exact sm_vret rfl dX12_checkPlace_86
noncomputable def fX12_checkPlace_39  (a0 : Nat) (a1 : Int32) (a2 : Int32) (s0 : Int64) (h : sm_H) : Option (Unit × sm_H) :=
  (sm_R (sm_get h (some a0) 12 15)).bind fun x1 =>
  (sm_aI h x1 0 a2).bind fun x2 =>
  if 0 ≤ x2 then (
    sm_cb (fX12_in s0 (1 : Int64) (2147483647 : Int64) h) fun x3 h4 =>
    if x3 = 0 then (
      (sm_obj h4 (some a0) 12).bind fun b6 =>
      sm_cb (fX12_fail b6 (11 : Int32) a1 h4) fun _ h5 =>
      some ((), h5)
    ) else
    fX12_checkPlace_81 a0 a1 a2 s0 x2 h4
  ) else
  if (lg_cmp s0 (0 : Int64)) = 0 then (
    fX12_checkPlace_81 a0 a1 a2 s0 x2 h
  ) else
  (sm_obj h (some a0) 12).bind fun b8 =>
  sm_cb (fX12_fail b8 (11 : Int32) a1 h) fun _ h7 =>
  some ((), h7)
set_option maxRecDepth 100000 in
set_option maxHeartbeats 4000000 in
theorem sX12_checkPlace_39 (l : Launch) (D : va_G) (aC : Nat → ClassId) (B : Nat)   (a0 : Nat) (a1 : Int32) (a2 : Int32) (s0 : Int64) (h : sm_H) : zS l D aC B cX12_checkPlace 12 RX12 3 77 none "checkPlace" vlU (fX12_checkPlace_39 a0 a1 a2 s0 h) 39 [(0, vR (some a0)), (1, vI a1), (2, vI a2)] [vJ s0] h := by
  unfold fX12_checkPlace_39
  refine sm_lstore_n (i := 3) (lv' := [(3, vJ s0), (0, vR (some a0)), (1, vI a1), (2, vI a2)]) (pc' := 40) dX12_checkPlace_39 rfl rfl (by decide) rfl ?_
  refine sm_aload_n (i := 0) (j := 1) (pc' := 41) dX12_checkPlace_40 rfl rfl rfl ?_
  refine sm_getR (k := 15) (pc' := 44) kX12 (by decide) mw667 dX12_checkPlace_41 rfl (fun x1 => ?_)
  refine sm_iload_n (i := 2) (j := 3) (pc' := 45) dX12_checkPlace_44 rfl rfl rfl ?_
  refine sm_iald (t := 0) (pc' := 46) rfl dX12_checkPlace_45 rfl (fun x2 => ?_)
  refine sm_istore (i := 5) (lv' := [(5, vI x2), (3, vJ s0), (0, vR (some a0)), (1, vI a1), (2, vI a2)]) (pc' := 48) dX12_checkPlace_46 rfl (by decide) rfl ?_
  refine sm_iload (i := 5) (j := 0) (pc' := 50) dX12_checkPlace_48 rfl rfl ?_
  refine sm_if_ge (tgt := 62) (pc' := 53) dX12_checkPlace_50 (by decide) rfl ?_ ?_
  · refine sm_lload_n (i := 3) (j := 1) (pc' := 63) dX12_checkPlace_62 rfl rfl rfl ?_
    refine sm_lconst (v := (1 : Int64)) (pc' := 64) dX12_checkPlace_63 rfl (by decide) ?_
    refine sm_ldc2 (v := (2147483647 : Int64)) (pc' := 67) dX12_checkPlace_64 rfl mw742 ?_
    refine sm_cSI (pc' := 70) (st := []) [vJ s0, vJ (1 : Int64), vJ (2147483647 : Int64)] yY_yX12_in mw701 mw702 (mX12_in l D aC B s0 (1 : Int64) (2147483647 : Int64) h) rfl (by decide) (by decide) (by exact Nat.le_of_ble_eq_true rfl) rfl dX12_checkPlace_67 rfl (fun x3 h4 => ?_)
    refine sm_if_ne (tgt := 81) (pc' := 73) dX12_checkPlace_70 (by decide) rfl ?_ ?_
    · refine sm_lo (lv' := [(0, vR (some a0)), (1, vI a1), (2, vI a2), (3, vJ s0), (5, vI x2)]) [2, 3, 4, 1, 0] rfl ?_
      exact sX12_checkPlace_81 l D aC B  a0 a1 a2 s0 x2 h4
    refine sm_aload_n (i := 0) (j := 2) (pc' := 74) dX12_checkPlace_73 rfl rfl rfl ?_
    refine sm_bipush (v := (11 : Int32)) (pc' := 76) dX12_checkPlace_74 rfl (by decide) ?_
    refine sm_iload_n (i := 1) (j := 3) (pc' := 77) dX12_checkPlace_76 rfl rfl rfl ?_
    refine sm_cVU (pc' := 80) (ci := 12) (st := []) (F := fun b => fX12_fail b (11 : Int32) a1 h4) [vI (11 : Int32), vI a1] yY_yX12_fail rfl mw871 mw872 mw873 (fun b => mX12_fail l D aC B b (11 : Int32) a1 h4) rfl (by decide) (by decide) (by exact Nat.le_of_ble_eq_true rfl) rfl dX12_checkPlace_77 rfl (fun _ h5 => ?_)
    exact sm_vret rfl dX12_checkPlace_80
  refine sm_lload_n (i := 3) (j := 1) (pc' := 54) dX12_checkPlace_53 rfl rfl rfl ?_
  refine sm_lconst (v := (0 : Int64)) (pc' := 55) dX12_checkPlace_54 rfl (by decide) ?_
  refine sm_lcmp (pc' := 56) dX12_checkPlace_55 rfl ?_
  refine sm_if_eq (tgt := 81) (pc' := 59) dX12_checkPlace_56 (by decide) rfl ?_ ?_
  · refine sm_lo (lv' := [(0, vR (some a0)), (1, vI a1), (2, vI a2), (3, vJ s0), (5, vI x2)]) [2, 3, 4, 1, 0] rfl ?_
    exact sX12_checkPlace_81 l D aC B  a0 a1 a2 s0 x2 h
  refine sm_goto (pc' := 73) dX12_checkPlace_59 (by decide) ?_
  refine sm_aload_n (i := 0) (j := 2) (pc' := 74) dX12_checkPlace_73 rfl rfl rfl ?_
  refine sm_bipush (v := (11 : Int32)) (pc' := 76) dX12_checkPlace_74 rfl (by decide) ?_
  refine sm_iload_n (i := 1) (j := 3) (pc' := 77) dX12_checkPlace_76 rfl rfl rfl ?_
  refine sm_cVU (pc' := 80) (ci := 12) (st := []) (F := fun b => fX12_fail b (11 : Int32) a1 h) [vI (11 : Int32), vI a1] yY_yX12_fail rfl mw871 mw872 mw873 (fun b => mX12_fail l D aC B b (11 : Int32) a1 h) rfl (by decide) (by decide) (by exact Nat.le_of_ble_eq_true rfl) rfl dX12_checkPlace_77 rfl (fun _ h7 => ?_)
  exact sm_vret rfl dX12_checkPlace_80
noncomputable def fX12_checkPlace  (a0 : Nat) (a1 : Int32) (a2 : Int32) (h : sm_H) : Option (Unit × sm_H) :=
  (sm_R (sm_get h (some a0) 12 37)).bind fun x1 =>
  (sm_aI h x1 0 a1).bind fun x2 =>
  (sm_R (sm_get h (some a0) 12 10)).bind fun x3 =>
  (sm_aI h x3 0 a2).bind fun x4 =>
  if x2 = (x4 + (1 : Int32)) then (
    (sm_R (sm_get h (some a0) 12 36)).bind fun x5 =>
    (sm_R (sm_get h (some a0) 12 10)).bind fun x6 =>
    (sm_aI h x6 0 a2).bind fun x7 =>
    (sm_aJ h x5 1 (((16 : Int32) * a1) + x7)).bind fun x8 =>
    fX12_checkPlace_39 a0 a1 a2 x8 h
  ) else
  fX12_checkPlace_39 a0 a1 a2 (-1 : Int64) h
set_option maxRecDepth 100000 in
set_option maxHeartbeats 4000000 in
theorem sX12_checkPlace_0 (l : Launch) (D : va_G) (aC : Nat → ClassId) (B : Nat)   (a0 : Nat) (a1 : Int32) (a2 : Int32) (h : sm_H) : zS l D aC B cX12_checkPlace 12 RX12 3 77 none "checkPlace" vlU (fX12_checkPlace a0 a1 a2 h) 0 [(0, vR (some a0)), (1, vI a1), (2, vI a2)] [] h := by
  unfold fX12_checkPlace
  refine sm_aload_n (i := 0) (j := 0) (pc' := 1) dX12_checkPlace_0 rfl rfl rfl ?_
  refine sm_getR (k := 37) (pc' := 4) kX12 (by decide) mw687 dX12_checkPlace_1 rfl (fun x1 => ?_)
  refine sm_iload_n (i := 1) (j := 1) (pc' := 5) dX12_checkPlace_4 rfl rfl rfl ?_
  refine sm_iald (t := 0) (pc' := 6) rfl dX12_checkPlace_5 rfl (fun x2 => ?_)
  refine sm_aload_n (i := 0) (j := 0) (pc' := 7) dX12_checkPlace_6 rfl rfl rfl ?_
  refine sm_getR (k := 10) (pc' := 10) kX12 (by decide) mw662 dX12_checkPlace_7 rfl (fun x3 => ?_)
  refine sm_iload_n (i := 2) (j := 2) (pc' := 11) dX12_checkPlace_10 rfl rfl rfl ?_
  refine sm_iald (t := 0) (pc' := 12) rfl dX12_checkPlace_11 rfl (fun x4 => ?_)
  refine sm_iconst (v := (1 : Int32)) (pc' := 13) dX12_checkPlace_12 rfl (by decide) ?_
  refine sm_iadd (pc' := 14) dX12_checkPlace_13 rfl ?_
  refine sm_icmp_ne (tgt := 36) (pc' := 17) dX12_checkPlace_14 (by decide) rfl ?_ ?_
  · refine sm_ldc2 (v := (-1 : Int64)) (pc' := 39) dX12_checkPlace_36 rfl mw704 ?_
    exact sX12_checkPlace_39 l D aC B  a0 a1 a2 (-1 : Int64) h
  refine sm_aload_n (i := 0) (j := 0) (pc' := 18) dX12_checkPlace_17 rfl rfl rfl ?_
  refine sm_getR (k := 36) (pc' := 21) kX12 (by decide) mw686 dX12_checkPlace_18 rfl (fun x5 => ?_)
  refine sm_bipush (v := (16 : Int32)) (pc' := 23) dX12_checkPlace_21 rfl (by decide) ?_
  refine sm_iload_n (i := 1) (j := 1) (pc' := 24) dX12_checkPlace_23 rfl rfl rfl ?_
  refine sm_imul (pc' := 25) dX12_checkPlace_24 rfl ?_
  refine sm_aload_n (i := 0) (j := 0) (pc' := 26) dX12_checkPlace_25 rfl rfl rfl ?_
  refine sm_getR (k := 10) (pc' := 29) kX12 (by decide) mw662 dX12_checkPlace_26 rfl (fun x6 => ?_)
  refine sm_iload_n (i := 2) (j := 2) (pc' := 30) dX12_checkPlace_29 rfl rfl rfl ?_
  refine sm_iald (t := 0) (pc' := 31) rfl dX12_checkPlace_30 rfl (fun x7 => ?_)
  refine sm_iadd (pc' := 32) dX12_checkPlace_31 rfl ?_
  refine sm_lald (t := 1) (pc' := 33) rfl dX12_checkPlace_32 rfl (fun x8 => ?_)
  refine sm_goto (pc' := 39) dX12_checkPlace_33 (by decide) ?_
  exact sX12_checkPlace_39 l D aC B  a0 a1 a2 x8 h
set_option maxRecDepth 100000 in
theorem mX12_checkPlace (l : Launch) (D : va_G) (aC : Nat → ClassId) (B : Nat) (a0 : Nat) (a1 : Int32) (a2 : Int32) (h : sm_H) : sm_M l D vwCl gAts aC B gTs gNs gOs yX12_checkPlace cX12_checkPlace 12 none 3 77 vlU [vR (some a0), vI a1, vI a2] h (fX12_checkPlace a0 a1 a2 h) := sm_meth [vR (some a0), vI a1, vI a2] yY_yX12_checkPlace gG gN (Nat.le_of_ble_eq_true rfl) rfl (sX12_checkPlace_0 l D aC B a0 a1 a2 h)
